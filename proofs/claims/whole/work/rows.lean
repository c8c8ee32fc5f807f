section
-- ===== PART A: goes FIRST, ahead of the names: the tables' words, and 'selects' of the private methods out of them =====
/-- a private method of a class that the tables say can be made, by its rows of tables_1 -/
def lw_okq (q : MethodName × Nat) : Prop := (q.1.cls ≠ "java/lang/invoke/MethodHandle" ∧ q.1.cls ≠ "java/lang/invoke/VarHandle") ∧ Cond.instantiable q.1.cls q.2 ∈ tables_1 ∧ Cond.privateMethod q.1 ∈ tables_1 ∧ Cond.instanceMethod q.1 ∈ tables_1
theorem lw_p0 : lw_okq (⟨"SwitchBook", "startAnew", "()V"⟩, 16) := ⟨⟨by decide +kernel, by decide +kernel⟩, List.mem_of_getElem? (i := 10) (by decide +kernel), List.mem_of_getElem? (i := 153) (by decide +kernel), List.mem_of_getElem? (i := 154) (by decide +kernel)⟩
theorem lw_p1 : lw_okq (⟨"SwitchBook", "setPrices", "(III)V"⟩, 16) := ⟨⟨by decide +kernel, by decide +kernel⟩, List.mem_of_getElem? (i := 10) (by decide +kernel), List.mem_of_getElem? (i := 157) (by decide +kernel), List.mem_of_getElem? (i := 158) (by decide +kernel)⟩
theorem lw_p2 : lw_okq (⟨"SwitchBook$Draft", "forgetAll", "()V"⟩, 9) := ⟨⟨by decide +kernel, by decide +kernel⟩, List.mem_of_getElem? (i := 49) (by decide +kernel), List.mem_of_getElem? (i := 226) (by decide +kernel), List.mem_of_getElem? (i := 227) (by decide +kernel)⟩
theorem lw_p3 : lw_okq (⟨"SwitchBook$Text", "readNumber", "()V"⟩, 6) := ⟨⟨by decide +kernel, by decide +kernel⟩, List.mem_of_getElem? (i := 18) (by decide +kernel), List.mem_of_getElem? (i := 238) (by decide +kernel), List.mem_of_getElem? (i := 239) (by decide +kernel)⟩
theorem lw_p4 : lw_okq (⟨"SwitchBook$Draft", "readItem", "(LSwitchBook$Text;I)Z"⟩, 9) := ⟨⟨by decide +kernel, by decide +kernel⟩, List.mem_of_getElem? (i := 49) (by decide +kernel), List.mem_of_getElem? (i := 245) (by decide +kernel), List.mem_of_getElem? (i := 246) (by decide +kernel)⟩
theorem lw_p5 : lw_okq (⟨"SwitchBook$Draft", "readNodes", "(LSwitchBook$Text;)Z"⟩, 9) := ⟨⟨by decide +kernel, by decide +kernel⟩, List.mem_of_getElem? (i := 49) (by decide +kernel), List.mem_of_getElem? (i := 249) (by decide +kernel), List.mem_of_getElem? (i := 250) (by decide +kernel)⟩
theorem lw_p6 : lw_okq (⟨"SwitchBook$Draft", "readSource", "(LSwitchBook$Text;)Z"⟩, 9) := ⟨⟨by decide +kernel, by decide +kernel⟩, List.mem_of_getElem? (i := 49) (by decide +kernel), List.mem_of_getElem? (i := 261) (by decide +kernel), List.mem_of_getElem? (i := 262) (by decide +kernel)⟩
theorem lw_p7 : lw_okq (⟨"SwitchBook$Draft", "allNodes", "()I"⟩, 9) := ⟨⟨by decide +kernel, by decide +kernel⟩, List.mem_of_getElem? (i := 49) (by decide +kernel), List.mem_of_getElem? (i := 265) (by decide +kernel), List.mem_of_getElem? (i := 266) (by decide +kernel)⟩
theorem lw_p8 : lw_okq (⟨"SwitchBook$Draft", "readLoad", "(LSwitchBook$Text;)Z"⟩, 9) := ⟨⟨by decide +kernel, by decide +kernel⟩, List.mem_of_getElem? (i := 49) (by decide +kernel), List.mem_of_getElem? (i := 272) (by decide +kernel), List.mem_of_getElem? (i := 273) (by decide +kernel)⟩
theorem lw_p9 : lw_okq (⟨"SwitchBook$Draft", "readSwitch", "(LSwitchBook$Text;I)Z"⟩, 9) := ⟨⟨by decide +kernel, by decide +kernel⟩, List.mem_of_getElem? (i := 49) (by decide +kernel), List.mem_of_getElem? (i := 276) (by decide +kernel), List.mem_of_getElem? (i := 277) (by decide +kernel)⟩
theorem lw_p10 : lw_okq (⟨"SwitchBook$Draft", "readClosed", "(LSwitchBook$Text;)Z"⟩, 9) := ⟨⟨by decide +kernel, by decide +kernel⟩, List.mem_of_getElem? (i := 49) (by decide +kernel), List.mem_of_getElem? (i := 287) (by decide +kernel), List.mem_of_getElem? (i := 288) (by decide +kernel)⟩
theorem lw_p11 : lw_okq (⟨"SwitchBook$Draft", "readLocked", "(LSwitchBook$Text;)Z"⟩, 9) := ⟨⟨by decide +kernel, by decide +kernel⟩, List.mem_of_getElem? (i := 49) (by decide +kernel), List.mem_of_getElem? (i := 291) (by decide +kernel), List.mem_of_getElem? (i := 292) (by decide +kernel)⟩
theorem lw_p12 : lw_okq (⟨"SwitchBook$Net", "number", "(LSwitchBook$Draft;I)V"⟩, 14) := ⟨⟨by decide +kernel, by decide +kernel⟩, List.mem_of_getElem? (i := 92) (by decide +kernel), List.mem_of_getElem? (i := 304) (by decide +kernel), List.mem_of_getElem? (i := 305) (by decide +kernel)⟩
theorem lw_p13 : lw_okq (⟨"SwitchBook$Net", "measureStates", "()V"⟩, 14) := ⟨⟨by decide +kernel, by decide +kernel⟩, List.mem_of_getElem? (i := 92) (by decide +kernel), List.mem_of_getElem? (i := 308) (by decide +kernel), List.mem_of_getElem? (i := 309) (by decide +kernel)⟩
theorem lw_p14 : lw_okq (⟨"SwitchBook$Net", "formParts", "(I)V"⟩, 14) := ⟨⟨by decide +kernel, by decide +kernel⟩, List.mem_of_getElem? (i := 92) (by decide +kernel), List.mem_of_getElem? (i := 319) (by decide +kernel), List.mem_of_getElem? (i := 320) (by decide +kernel)⟩
theorem lw_p15 : lw_okq (⟨"SwitchBook$Net", "join", "(I)V"⟩, 14) := ⟨⟨by decide +kernel, by decide +kernel⟩, List.mem_of_getElem? (i := 92) (by decide +kernel), List.mem_of_getElem? (i := 323) (by decide +kernel), List.mem_of_getElem? (i := 324) (by decide +kernel)⟩
def lw_privs_1 : List (MethodName × Nat) := [(⟨"SwitchBook", "startAnew", "()V"⟩, 16), (⟨"SwitchBook", "setPrices", "(III)V"⟩, 16), (⟨"SwitchBook$Draft", "forgetAll", "()V"⟩, 9), (⟨"SwitchBook$Text", "readNumber", "()V"⟩, 6), (⟨"SwitchBook$Draft", "readItem", "(LSwitchBook$Text;I)Z"⟩, 9), (⟨"SwitchBook$Draft", "readNodes", "(LSwitchBook$Text;)Z"⟩, 9), (⟨"SwitchBook$Draft", "readSource", "(LSwitchBook$Text;)Z"⟩, 9), (⟨"SwitchBook$Draft", "allNodes", "()I"⟩, 9), (⟨"SwitchBook$Draft", "readLoad", "(LSwitchBook$Text;)Z"⟩, 9), (⟨"SwitchBook$Draft", "readSwitch", "(LSwitchBook$Text;I)Z"⟩, 9), (⟨"SwitchBook$Draft", "readClosed", "(LSwitchBook$Text;)Z"⟩, 9), (⟨"SwitchBook$Draft", "readLocked", "(LSwitchBook$Text;)Z"⟩, 9), (⟨"SwitchBook$Net", "number", "(LSwitchBook$Draft;I)V"⟩, 14), (⟨"SwitchBook$Net", "measureStates", "()V"⟩, 14), (⟨"SwitchBook$Net", "formParts", "(I)V"⟩, 14), (⟨"SwitchBook$Net", "join", "(I)V"⟩, 14)]
theorem lw_r1 : ∀ q ∈ lw_privs_1, lw_okq q := List.forall_mem_cons.mpr ⟨lw_p0, List.forall_mem_cons.mpr ⟨lw_p1, List.forall_mem_cons.mpr ⟨lw_p2, List.forall_mem_cons.mpr ⟨lw_p3, List.forall_mem_cons.mpr ⟨lw_p4, List.forall_mem_cons.mpr ⟨lw_p5, List.forall_mem_cons.mpr ⟨lw_p6, List.forall_mem_cons.mpr ⟨lw_p7, List.forall_mem_cons.mpr ⟨lw_p8, List.forall_mem_cons.mpr ⟨lw_p9, List.forall_mem_cons.mpr ⟨lw_p10, List.forall_mem_cons.mpr ⟨lw_p11, List.forall_mem_cons.mpr ⟨lw_p12, List.forall_mem_cons.mpr ⟨lw_p13, List.forall_mem_cons.mpr ⟨lw_p14, List.forall_mem_cons.mpr ⟨lw_p15, fun _ h => absurd h List.not_mem_nil⟩⟩⟩⟩⟩⟩⟩⟩⟩⟩⟩⟩⟩⟩⟩⟩
theorem lw_p16 : lw_okq (⟨"SwitchBook$Net", "partsWith", "(I)I"⟩, 14) := ⟨⟨by decide +kernel, by decide +kernel⟩, List.mem_of_getElem? (i := 92) (by decide +kernel), List.mem_of_getElem? (i := 327) (by decide +kernel), List.mem_of_getElem? (i := 328) (by decide +kernel)⟩
theorem lw_p17 : lw_okq (⟨"SwitchBook$Net", "nodesOfClosedEarths", "(I)I"⟩, 14) := ⟨⟨by decide +kernel, by decide +kernel⟩, List.mem_of_getElem? (i := 92) (by decide +kernel), List.mem_of_getElem? (i := 331) (by decide +kernel), List.mem_of_getElem? (i := 332) (by decide +kernel)⟩
theorem lw_p18 : lw_okq (⟨"SwitchBook$Net", "holdIsolators", "(II)V"⟩, 14) := ⟨⟨by decide +kernel, by decide +kernel⟩, List.mem_of_getElem? (i := 92) (by decide +kernel), List.mem_of_getElem? (i := 335) (by decide +kernel), List.mem_of_getElem? (i := 336) (by decide +kernel)⟩
theorem lw_p19 : lw_okq (⟨"SwitchBook$Net", "isUnderLoad", "(III)Z"⟩, 14) := ⟨⟨by decide +kernel, by decide +kernel⟩, List.mem_of_getElem? (i := 92) (by decide +kernel), List.mem_of_getElem? (i := 339) (by decide +kernel), List.mem_of_getElem? (i := 340) (by decide +kernel)⟩
theorem lw_p20 : lw_okq (⟨"SwitchBook", "isSwitch", "(I)Z"⟩, 16) := ⟨⟨by decide +kernel, by decide +kernel⟩, List.mem_of_getElem? (i := 10) (by decide +kernel), List.mem_of_getElem? (i := 351) (by decide +kernel), List.mem_of_getElem? (i := 352) (by decide +kernel)⟩
theorem lw_p21 : lw_okq (⟨"SwitchBook", "whyNot", "(I)I"⟩, 16) := ⟨⟨by decide +kernel, by decide +kernel⟩, List.mem_of_getElem? (i := 10) (by decide +kernel), List.mem_of_getElem? (i := 356) (by decide +kernel), List.mem_of_getElem? (i := 357) (by decide +kernel)⟩
theorem lw_p22 : lw_okq (⟨"SwitchBook", "isNode", "(I)Z"⟩, 16) := ⟨⟨by decide +kernel, by decide +kernel⟩, List.mem_of_getElem? (i := 10) (by decide +kernel), List.mem_of_getElem? (i := 374) (by decide +kernel), List.mem_of_getElem? (i := 375) (by decide +kernel)⟩
theorem lw_p23 : lw_okq (⟨"SwitchBook", "lawfulMoves", "()I"⟩, 16) := ⟨⟨by decide +kernel, by decide +kernel⟩, List.mem_of_getElem? (i := 10) (by decide +kernel), List.mem_of_getElem? (i := 386) (by decide +kernel), List.mem_of_getElem? (i := 387) (by decide +kernel)⟩
theorem lw_p24 : lw_okq (⟨"SwitchBook", "states", "()I"⟩, 16) := ⟨⟨by decide +kernel, by decide +kernel⟩, List.mem_of_getElem? (i := 10) (by decide +kernel), List.mem_of_getElem? (i := 395) (by decide +kernel), List.mem_of_getElem? (i := 396) (by decide +kernel)⟩
theorem lw_p25 : lw_okq (⟨"SwitchBook", "aim", "(IIII)V"⟩, 16) := ⟨⟨by decide +kernel, by decide +kernel⟩, List.mem_of_getElem? (i := 10) (by decide +kernel), List.mem_of_getElem? (i := 400) (by decide +kernel), List.mem_of_getElem? (i := 401) (by decide +kernel)⟩
theorem lw_p26 : lw_okq (⟨"SwitchBook", "spread", "()V"⟩, 16) := ⟨⟨by decide +kernel, by decide +kernel⟩, List.mem_of_getElem? (i := 10) (by decide +kernel), List.mem_of_getElem? (i := 404) (by decide +kernel), List.mem_of_getElem? (i := 405) (by decide +kernel)⟩
theorem lw_p27 : lw_okq (⟨"SwitchBook", "spreadFrom", "(I)I"⟩, 16) := ⟨⟨by decide +kernel, by decide +kernel⟩, List.mem_of_getElem? (i := 10) (by decide +kernel), List.mem_of_getElem? (i := 408) (by decide +kernel), List.mem_of_getElem? (i := 409) (by decide +kernel)⟩
theorem lw_p28 : lw_okq (⟨"SwitchBook", "far", "()I"⟩, 16) := ⟨⟨by decide +kernel, by decide +kernel⟩, List.mem_of_getElem? (i := 10) (by decide +kernel), List.mem_of_getElem? (i := 415) (by decide +kernel), List.mem_of_getElem? (i := 416) (by decide +kernel)⟩
theorem lw_p29 : lw_okq (⟨"SwitchBook", "remember", "()V"⟩, 16) := ⟨⟨by decide +kernel, by decide +kernel⟩, List.mem_of_getElem? (i := 10) (by decide +kernel), List.mem_of_getElem? (i := 423) (by decide +kernel), List.mem_of_getElem? (i := 424) (by decide +kernel)⟩
theorem lw_p30 : lw_okq (⟨"SwitchBook", "standing", "()I"⟩, 16) := ⟨⟨by decide +kernel, by decide +kernel⟩, List.mem_of_getElem? (i := 10) (by decide +kernel), List.mem_of_getElem? (i := 427) (by decide +kernel), List.mem_of_getElem? (i := 428) (by decide +kernel)⟩
theorem lw_p31 : lw_okq (⟨"SwitchBook", "restore", "(I)V"⟩, 16) := ⟨⟨by decide +kernel, by decide +kernel⟩, List.mem_of_getElem? (i := 10) (by decide +kernel), List.mem_of_getElem? (i := 458) (by decide +kernel), List.mem_of_getElem? (i := 459) (by decide +kernel)⟩
def lw_privs_2 : List (MethodName × Nat) := [(⟨"SwitchBook$Net", "partsWith", "(I)I"⟩, 14), (⟨"SwitchBook$Net", "nodesOfClosedEarths", "(I)I"⟩, 14), (⟨"SwitchBook$Net", "holdIsolators", "(II)V"⟩, 14), (⟨"SwitchBook$Net", "isUnderLoad", "(III)Z"⟩, 14), (⟨"SwitchBook", "isSwitch", "(I)Z"⟩, 16), (⟨"SwitchBook", "whyNot", "(I)I"⟩, 16), (⟨"SwitchBook", "isNode", "(I)Z"⟩, 16), (⟨"SwitchBook", "lawfulMoves", "()I"⟩, 16), (⟨"SwitchBook", "states", "()I"⟩, 16), (⟨"SwitchBook", "aim", "(IIII)V"⟩, 16), (⟨"SwitchBook", "spread", "()V"⟩, 16), (⟨"SwitchBook", "spreadFrom", "(I)I"⟩, 16), (⟨"SwitchBook", "far", "()I"⟩, 16), (⟨"SwitchBook", "remember", "()V"⟩, 16), (⟨"SwitchBook", "standing", "()I"⟩, 16), (⟨"SwitchBook", "restore", "(I)V"⟩, 16)]
theorem lw_r2 : ∀ q ∈ lw_privs_2, lw_okq q := List.forall_mem_cons.mpr ⟨lw_p16, List.forall_mem_cons.mpr ⟨lw_p17, List.forall_mem_cons.mpr ⟨lw_p18, List.forall_mem_cons.mpr ⟨lw_p19, List.forall_mem_cons.mpr ⟨lw_p20, List.forall_mem_cons.mpr ⟨lw_p21, List.forall_mem_cons.mpr ⟨lw_p22, List.forall_mem_cons.mpr ⟨lw_p23, List.forall_mem_cons.mpr ⟨lw_p24, List.forall_mem_cons.mpr ⟨lw_p25, List.forall_mem_cons.mpr ⟨lw_p26, List.forall_mem_cons.mpr ⟨lw_p27, List.forall_mem_cons.mpr ⟨lw_p28, List.forall_mem_cons.mpr ⟨lw_p29, List.forall_mem_cons.mpr ⟨lw_p30, List.forall_mem_cons.mpr ⟨lw_p31, fun _ h => absurd h List.not_mem_nil⟩⟩⟩⟩⟩⟩⟩⟩⟩⟩⟩⟩⟩⟩⟩⟩
theorem lw_p32 : lw_okq (⟨"SwitchBook", "cheapest", "(I)I"⟩, 16) := ⟨⟨by decide +kernel, by decide +kernel⟩, List.mem_of_getElem? (i := 10) (by decide +kernel), List.mem_of_getElem? (i := 466) (by decide +kernel), List.mem_of_getElem? (i := 467) (by decide +kernel)⟩
theorem lw_p33 : lw_okq (⟨"SwitchBook", "stepFrom", "(I)I"⟩, 16) := ⟨⟨by decide +kernel, by decide +kernel⟩, List.mem_of_getElem? (i := 10) (by decide +kernel), List.mem_of_getElem? (i := 470) (by decide +kernel), List.mem_of_getElem? (i := 471) (by decide +kernel)⟩
theorem lw_p34 : lw_okq (⟨"SwitchBook", "waysToStayLive", "(II)I"⟩, 16) := ⟨⟨by decide +kernel, by decide +kernel⟩, List.mem_of_getElem? (i := 10) (by decide +kernel), List.mem_of_getElem? (i := 494) (by decide +kernel), List.mem_of_getElem? (i := 495) (by decide +kernel)⟩
theorem lw_p35 : lw_okq (⟨"SwitchBook", "explainsAllSeen", "(I)Z"⟩, 16) := ⟨⟨by decide +kernel, by decide +kernel⟩, List.mem_of_getElem? (i := 10) (by decide +kernel), List.mem_of_getElem? (i := 513) (by decide +kernel), List.mem_of_getElem? (i := 514) (by decide +kernel)⟩
theorem lw_p36 : lw_okq (⟨"SwitchBook", "suspectsThatLight", "(II)I"⟩, 16) := ⟨⟨by decide +kernel, by decide +kernel⟩, List.mem_of_getElem? (i := 10) (by decide +kernel), List.mem_of_getElem? (i := 522) (by decide +kernel), List.mem_of_getElem? (i := 523) (by decide +kernel)⟩
theorem lw_p37 : lw_okq (⟨"SwitchBookModel", "begins", "()V"⟩, 25) := ⟨⟨by decide +kernel, by decide +kernel⟩, List.mem_of_getElem? (i := 541) (by decide +kernel), List.mem_of_getElem? (i := 547) (by decide +kernel), List.mem_of_getElem? (i := 548) (by decide +kernel)⟩
theorem lw_p38 : lw_okq (⟨"SwitchBookModel", "settles", "()V"⟩, 25) := ⟨⟨by decide +kernel, by decide +kernel⟩, List.mem_of_getElem? (i := 541) (by decide +kernel), List.mem_of_getElem? (i := 551) (by decide +kernel), List.mem_of_getElem? (i := 552) (by decide +kernel)⟩
theorem lw_p39 : lw_okq (⟨"SwitchBookModel", "advances", "()V"⟩, 25) := ⟨⟨by decide +kernel, by decide +kernel⟩, List.mem_of_getElem? (i := 541) (by decide +kernel), List.mem_of_getElem? (i := 647) (by decide +kernel), List.mem_of_getElem? (i := 648) (by decide +kernel)⟩
theorem lw_p40 : lw_okq (⟨"SwitchBookModel", "letterAt", "(I)I"⟩, 25) := ⟨⟨by decide +kernel, by decide +kernel⟩, List.mem_of_getElem? (i := 541) (by decide +kernel), List.mem_of_getElem? (i := 651) (by decide +kernel), List.mem_of_getElem? (i := 652) (by decide +kernel)⟩
theorem lw_p41 : lw_okq (⟨"SwitchBookModel", "isWell", "()Z"⟩, 25) := ⟨⟨by decide +kernel, by decide +kernel⟩, List.mem_of_getElem? (i := 541) (by decide +kernel), List.mem_of_getElem? (i := 655) (by decide +kernel), List.mem_of_getElem? (i := 656) (by decide +kernel)⟩
theorem lw_p42 : lw_okq (⟨"SwitchBookModel", "mayBegin", "(I)Z"⟩, 25) := ⟨⟨by decide +kernel, by decide +kernel⟩, List.mem_of_getElem? (i := 541) (by decide +kernel), List.mem_of_getElem? (i := 659) (by decide +kernel), List.mem_of_getElem? (i := 660) (by decide +kernel)⟩
theorem lw_p43 : lw_okq (⟨"SwitchBookModel", "takes", "(Z)I"⟩, 25) := ⟨⟨by decide +kernel, by decide +kernel⟩, List.mem_of_getElem? (i := 541) (by decide +kernel), List.mem_of_getElem? (i := 663) (by decide +kernel), List.mem_of_getElem? (i := 664) (by decide +kernel)⟩
theorem lw_p44 : lw_okq (⟨"SwitchBookModel", "readsItem", "(I)V"⟩, 25) := ⟨⟨by decide +kernel, by decide +kernel⟩, List.mem_of_getElem? (i := 541) (by decide +kernel), List.mem_of_getElem? (i := 667) (by decide +kernel), List.mem_of_getElem? (i := 668) (by decide +kernel)⟩
theorem lw_p45 : lw_okq (⟨"SwitchBookModel", "isNumber", "(II)Z"⟩, 25) := ⟨⟨by decide +kernel, by decide +kernel⟩, List.mem_of_getElem? (i := 541) (by decide +kernel), List.mem_of_getElem? (i := 671) (by decide +kernel), List.mem_of_getElem? (i := 672) (by decide +kernel)⟩
theorem lw_p46 : lw_okq (⟨"SwitchBookModel", "gets", "(IZ)I"⟩, 25) := ⟨⟨by decide +kernel, by decide +kernel⟩, List.mem_of_getElem? (i := 541) (by decide +kernel), List.mem_of_getElem? (i := 675) (by decide +kernel), List.mem_of_getElem? (i := 676) (by decide +kernel)⟩
theorem lw_p47 : lw_okq (⟨"SwitchBookModel", "readsSwitch", "(I)V"⟩, 25) := ⟨⟨by decide +kernel, by decide +kernel⟩, List.mem_of_getElem? (i := 541) (by decide +kernel), List.mem_of_getElem? (i := 685) (by decide +kernel), List.mem_of_getElem? (i := 686) (by decide +kernel)⟩
def lw_privs_3 : List (MethodName × Nat) := [(⟨"SwitchBook", "cheapest", "(I)I"⟩, 16), (⟨"SwitchBook", "stepFrom", "(I)I"⟩, 16), (⟨"SwitchBook", "waysToStayLive", "(II)I"⟩, 16), (⟨"SwitchBook", "explainsAllSeen", "(I)Z"⟩, 16), (⟨"SwitchBook", "suspectsThatLight", "(II)I"⟩, 16), (⟨"SwitchBookModel", "begins", "()V"⟩, 25), (⟨"SwitchBookModel", "settles", "()V"⟩, 25), (⟨"SwitchBookModel", "advances", "()V"⟩, 25), (⟨"SwitchBookModel", "letterAt", "(I)I"⟩, 25), (⟨"SwitchBookModel", "isWell", "()Z"⟩, 25), (⟨"SwitchBookModel", "mayBegin", "(I)Z"⟩, 25), (⟨"SwitchBookModel", "takes", "(Z)I"⟩, 25), (⟨"SwitchBookModel", "readsItem", "(I)V"⟩, 25), (⟨"SwitchBookModel", "isNumber", "(II)Z"⟩, 25), (⟨"SwitchBookModel", "gets", "(IZ)I"⟩, 25), (⟨"SwitchBookModel", "readsSwitch", "(I)V"⟩, 25)]
theorem lw_r3 : ∀ q ∈ lw_privs_3, lw_okq q := List.forall_mem_cons.mpr ⟨lw_p32, List.forall_mem_cons.mpr ⟨lw_p33, List.forall_mem_cons.mpr ⟨lw_p34, List.forall_mem_cons.mpr ⟨lw_p35, List.forall_mem_cons.mpr ⟨lw_p36, List.forall_mem_cons.mpr ⟨lw_p37, List.forall_mem_cons.mpr ⟨lw_p38, List.forall_mem_cons.mpr ⟨lw_p39, List.forall_mem_cons.mpr ⟨lw_p40, List.forall_mem_cons.mpr ⟨lw_p41, List.forall_mem_cons.mpr ⟨lw_p42, List.forall_mem_cons.mpr ⟨lw_p43, List.forall_mem_cons.mpr ⟨lw_p44, List.forall_mem_cons.mpr ⟨lw_p45, List.forall_mem_cons.mpr ⟨lw_p46, List.forall_mem_cons.mpr ⟨lw_p47, fun _ h => absurd h List.not_mem_nil⟩⟩⟩⟩⟩⟩⟩⟩⟩⟩⟩⟩⟩⟩⟩⟩
theorem lw_p48 : lw_okq (⟨"SwitchBookModel", "sorts", "()V"⟩, 25) := ⟨⟨by decide +kernel, by decide +kernel⟩, List.mem_of_getElem? (i := 541) (by decide +kernel), List.mem_of_getElem? (i := 689) (by decide +kernel), List.mem_of_getElem? (i := 690) (by decide +kernel)⟩
theorem lw_p49 : lw_okq (⟨"SwitchBookModel", "changes", "(I)V"⟩, 25) := ⟨⟨by decide +kernel, by decide +kernel⟩, List.mem_of_getElem? (i := 541) (by decide +kernel), List.mem_of_getElem? (i := 693) (by decide +kernel), List.mem_of_getElem? (i := 694) (by decide +kernel)⟩
theorem lw_p50 : lw_okq (⟨"SwitchBookModel", "liveBy", "([II)I"⟩, 25) := ⟨⟨by decide +kernel, by decide +kernel⟩, List.mem_of_getElem? (i := 541) (by decide +kernel), List.mem_of_getElem? (i := 697) (by decide +kernel), List.mem_of_getElem? (i := 698) (by decide +kernel)⟩
theorem lw_p51 : lw_okq (⟨"SwitchBookModel", "partsBy", "([II)V"⟩, 25) := ⟨⟨by decide +kernel, by decide +kernel⟩, List.mem_of_getElem? (i := 541) (by decide +kernel), List.mem_of_getElem? (i := 701) (by decide +kernel), List.mem_of_getElem? (i := 702) (by decide +kernel)⟩
theorem lw_p52 : lw_okq (⟨"SwitchBookModel", "spread", "([II)I"⟩, 25) := ⟨⟨by decide +kernel, by decide +kernel⟩, List.mem_of_getElem? (i := 541) (by decide +kernel), List.mem_of_getElem? (i := 705) (by decide +kernel), List.mem_of_getElem? (i := 706) (by decide +kernel)⟩
theorem lw_p53 : lw_okq (⟨"SwitchBookModel", "earthedBy", "([II)I"⟩, 25) := ⟨⟨by decide +kernel, by decide +kernel⟩, List.mem_of_getElem? (i := 541) (by decide +kernel), List.mem_of_getElem? (i := 709) (by decide +kernel), List.mem_of_getElem? (i := 710) (by decide +kernel)⟩
theorem lw_p54 : lw_okq (⟨"SwitchBookModel", "isSwitch", "(I)Z"⟩, 25) := ⟨⟨by decide +kernel, by decide +kernel⟩, List.mem_of_getElem? (i := 541) (by decide +kernel), List.mem_of_getElem? (i := 717) (by decide +kernel), List.mem_of_getElem? (i := 718) (by decide +kernel)⟩
theorem lw_p55 : lw_okq (⟨"SwitchBookModel", "whyNot", "(II)I"⟩, 25) := ⟨⟨by decide +kernel, by decide +kernel⟩, List.mem_of_getElem? (i := 541) (by decide +kernel), List.mem_of_getElem? (i := 721) (by decide +kernel), List.mem_of_getElem? (i := 722) (by decide +kernel)⟩
theorem lw_p56 : lw_okq (⟨"SwitchBookModel", "isLoaded", "(I)Z"⟩, 25) := ⟨⟨by decide +kernel, by decide +kernel⟩, List.mem_of_getElem? (i := 541) (by decide +kernel), List.mem_of_getElem? (i := 725) (by decide +kernel), List.mem_of_getElem? (i := 726) (by decide +kernel)⟩
theorem lw_p57 : lw_okq (⟨"SwitchBookModel", "isNode", "(I)Z"⟩, 25) := ⟨⟨by decide +kernel, by decide +kernel⟩, List.mem_of_getElem? (i := 541) (by decide +kernel), List.mem_of_getElem? (i := 737) (by decide +kernel), List.mem_of_getElem? (i := 738) (by decide +kernel)⟩
theorem lw_p58 : lw_okq (⟨"SwitchBookModel", "allLawful", "()I"⟩, 25) := ⟨⟨by decide +kernel, by decide +kernel⟩, List.mem_of_getElem? (i := 541) (by decide +kernel), List.mem_of_getElem? (i := 745) (by decide +kernel), List.mem_of_getElem? (i := 746) (by decide +kernel)⟩
theorem lw_p59 : lw_okq (⟨"SwitchBookModel", "parts", "()I"⟩, 25) := ⟨⟨by decide +kernel, by decide +kernel⟩, List.mem_of_getElem? (i := 541) (by decide +kernel), List.mem_of_getElem? (i := 749) (by decide +kernel), List.mem_of_getElem? (i := 750) (by decide +kernel)⟩
theorem lw_p60 : lw_okq (⟨"SwitchBookModel", "reached", "(Z)I"⟩, 25) := ⟨⟨by decide +kernel, by decide +kernel⟩, List.mem_of_getElem? (i := 541) (by decide +kernel), List.mem_of_getElem? (i := 753) (by decide +kernel), List.mem_of_getElem? (i := 754) (by decide +kernel)⟩
theorem lw_p61 : lw_okq (⟨"SwitchBookModel", "laws", "()V"⟩, 25) := ⟨⟨by decide +kernel, by decide +kernel⟩, List.mem_of_getElem? (i := 541) (by decide +kernel), List.mem_of_getElem? (i := 757) (by decide +kernel), List.mem_of_getElem? (i := 758) (by decide +kernel)⟩
theorem lw_p62 : lw_okq (⟨"SwitchBookModel", "states", "()I"⟩, 25) := ⟨⟨by decide +kernel, by decide +kernel⟩, List.mem_of_getElem? (i := 541) (by decide +kernel), List.mem_of_getElem? (i := 761) (by decide +kernel), List.mem_of_getElem? (i := 762) (by decide +kernel)⟩
theorem lw_p63 : lw_okq (⟨"SwitchBookModel", "priceOf", "(I)I"⟩, 25) := ⟨⟨by decide +kernel, by decide +kernel⟩, List.mem_of_getElem? (i := 541) (by decide +kernel), List.mem_of_getElem? (i := 766) (by decide +kernel), List.mem_of_getElem? (i := 767) (by decide +kernel)⟩
def lw_privs_4 : List (MethodName × Nat) := [(⟨"SwitchBookModel", "sorts", "()V"⟩, 25), (⟨"SwitchBookModel", "changes", "(I)V"⟩, 25), (⟨"SwitchBookModel", "liveBy", "([II)I"⟩, 25), (⟨"SwitchBookModel", "partsBy", "([II)V"⟩, 25), (⟨"SwitchBookModel", "spread", "([II)I"⟩, 25), (⟨"SwitchBookModel", "earthedBy", "([II)I"⟩, 25), (⟨"SwitchBookModel", "isSwitch", "(I)Z"⟩, 25), (⟨"SwitchBookModel", "whyNot", "(II)I"⟩, 25), (⟨"SwitchBookModel", "isLoaded", "(I)Z"⟩, 25), (⟨"SwitchBookModel", "isNode", "(I)Z"⟩, 25), (⟨"SwitchBookModel", "allLawful", "()I"⟩, 25), (⟨"SwitchBookModel", "parts", "()I"⟩, 25), (⟨"SwitchBookModel", "reached", "(Z)I"⟩, 25), (⟨"SwitchBookModel", "laws", "()V"⟩, 25), (⟨"SwitchBookModel", "states", "()I"⟩, 25), (⟨"SwitchBookModel", "priceOf", "(I)I"⟩, 25)]
theorem lw_r4 : ∀ q ∈ lw_privs_4, lw_okq q := List.forall_mem_cons.mpr ⟨lw_p48, List.forall_mem_cons.mpr ⟨lw_p49, List.forall_mem_cons.mpr ⟨lw_p50, List.forall_mem_cons.mpr ⟨lw_p51, List.forall_mem_cons.mpr ⟨lw_p52, List.forall_mem_cons.mpr ⟨lw_p53, List.forall_mem_cons.mpr ⟨lw_p54, List.forall_mem_cons.mpr ⟨lw_p55, List.forall_mem_cons.mpr ⟨lw_p56, List.forall_mem_cons.mpr ⟨lw_p57, List.forall_mem_cons.mpr ⟨lw_p58, List.forall_mem_cons.mpr ⟨lw_p59, List.forall_mem_cons.mpr ⟨lw_p60, List.forall_mem_cons.mpr ⟨lw_p61, List.forall_mem_cons.mpr ⟨lw_p62, List.forall_mem_cons.mpr ⟨lw_p63, fun _ h => absurd h List.not_mem_nil⟩⟩⟩⟩⟩⟩⟩⟩⟩⟩⟩⟩⟩⟩⟩⟩
theorem lw_p64 : lw_okq (⟨"SwitchBookModel", "notes", "()V"⟩, 25) := ⟨⟨by decide +kernel, by decide +kernel⟩, List.mem_of_getElem? (i := 541) (by decide +kernel), List.mem_of_getElem? (i := 774) (by decide +kernel), List.mem_of_getElem? (i := 775) (by decide +kernel)⟩
theorem lw_p65 : lw_okq (⟨"SwitchBookModel", "tells", "(I)I"⟩, 25) := ⟨⟨by decide +kernel, by decide +kernel⟩, List.mem_of_getElem? (i := 541) (by decide +kernel), List.mem_of_getElem? (i := 806) (by decide +kernel), List.mem_of_getElem? (i := 807) (by decide +kernel)⟩
theorem lw_p66 : lw_okq (⟨"SwitchBookModel", "reckons", "()V"⟩, 25) := ⟨⟨by decide +kernel, by decide +kernel⟩, List.mem_of_getElem? (i := 541) (by decide +kernel), List.mem_of_getElem? (i := 810) (by decide +kernel), List.mem_of_getElem? (i := 811) (by decide +kernel)⟩
theorem lw_p67 : lw_okq (⟨"SwitchBookModel", "unseenSet", "()I"⟩, 25) := ⟨⟨by decide +kernel, by decide +kernel⟩, List.mem_of_getElem? (i := 541) (by decide +kernel), List.mem_of_getElem? (i := 841) (by decide +kernel), List.mem_of_getElem? (i := 842) (by decide +kernel)⟩
def lw_privs_5 : List (MethodName × Nat) := [(⟨"SwitchBookModel", "notes", "()V"⟩, 25), (⟨"SwitchBookModel", "tells", "(I)I"⟩, 25), (⟨"SwitchBookModel", "reckons", "()V"⟩, 25), (⟨"SwitchBookModel", "unseenSet", "()I"⟩, 25)]
theorem lw_r5 : ∀ q ∈ lw_privs_5, lw_okq q := List.forall_mem_cons.mpr ⟨lw_p64, List.forall_mem_cons.mpr ⟨lw_p65, List.forall_mem_cons.mpr ⟨lw_p66, List.forall_mem_cons.mpr ⟨lw_p67, fun _ h => absurd h List.not_mem_nil⟩⟩⟩⟩
def lw_privs : List (MethodName × Nat) := lw_privs_1 ++ (lw_privs_2 ++ (lw_privs_3 ++ (lw_privs_4 ++ (lw_privs_5))))
def lw_tbl : List Cond := k2_sels lw_privs ++ tables_1
theorem lw_privs_ok : ∀ q ∈ lw_privs, lw_okq q := by
  show ∀ q ∈ lw_privs_1 ++ (lw_privs_2 ++ (lw_privs_3 ++ (lw_privs_4 ++ (lw_privs_5)))), lw_okq q
  exact List.forall_mem_append.mpr ⟨lw_r1, List.forall_mem_append.mpr ⟨lw_r2, List.forall_mem_append.mpr ⟨lw_r3, List.forall_mem_append.mpr ⟨lw_r4, lw_r5⟩⟩⟩⟩
/-! ===== BEGIN words of one list among another's, by their places ===== -/
theorem goodIn_r {big : List Cond} (ws : List Cond) (ps : List Nat) (hp : ws = ps.filterMap (fun i => big[i]?)) (h : ws.all goodWord = true) : GoodIn big ws := by
  intro w hw
  have h1 := List.all_eq_true.mp h w hw
  rw [hp] at hw
  obtain ⟨i, -, hi⟩ := List.mem_filterMap.mp hw
  have hm : w ∈ big := by first | exact List.mem_of_getElem? hi | exact List.getElem?_mem hi
  exact ⟨hm, good_of_word h1⟩
theorem goodIn_app {big a b : List Cond} (ha : GoodIn big a) (hb : GoodIn big b) : GoodIn big (a ++ b) := fun w h => (List.mem_append.mp h).elim (ha w) (hb w)
theorem goodIn_ca {big a b : List Cond} {c : Cond} (ha : GoodIn big (c :: a)) (hb : GoodIn big b) : GoodIn big (c :: (a ++ b)) := fun w h => (List.mem_cons.mp h).elim (fun e => ha w (List.mem_cons.mpr (Or.inl e))) (fun h => (List.mem_append.mp h).elim (fun h => ha w (List.mem_cons.mpr (Or.inr h))) (hb w))
theorem goodIn_sub {big ws : List Cond} (hm : ∀ w ∈ ws, w ∈ big) (h : ws.all goodWord = true) : GoodIn big ws := fun w hw => ⟨hm w hw, good_of_word (List.all_eq_true.mp h w hw)⟩
/-! ===== END ===== -/
end
section
def RX0 : String := "SwitchBook$Draft"
def TX0 : u_T := fun k => match k with
  | 0 => ("SwitchBook$Draft", "nodes", "I", false)
  | 1 => ("SwitchBook$Draft", "sources", "I", false)
  | 2 => ("SwitchBook$Draft", "loads", "I", false)
  | 3 => ("SwitchBook$Draft", "names", "I", false)
  | 4 => ("SwitchBook$Draft", "closedNames", "I", false)
  | 5 => ("SwitchBook$Draft", "lockedNames", "I", false)
  | 6 => ("SwitchBook$Draft", "kind", "[I", true)
  | 7 => ("SwitchBook$Draft", "first", "[I", true)
  | _ => ("SwitchBook$Draft", "second", "[I", true)
def tyX0 : Nat → FieldType := fun k => match k with
  | 0 => .int
  | 1 => .int
  | 2 => .int
  | 3 => .int
  | 4 => .int
  | 5 => .int
  | 6 => .array .int
  | 7 => .array .int
  | _ => .array .int
abbrev wsX00 : List Cond := u_ws RX0 TX0 9
theorem nmX0 : ∀ a, a < 9 → ∀ b, b < 9 → a ≠ b → (TX0 a).2.1 ≠ (TX0 b).2.1 := by decide +kernel
theorem tyX0_ok : ∀ k, k < 9 → parseFieldDescriptor (TX0 k).2.2.1 = some (tyX0 k) := by decide +kernel
def RX1 : String := "SwitchBook$Net"
def TX1 : u_T := fun k => match k with
  | 0 => ("SwitchBook$Net", "nodes", "I", false)
  | 1 => ("SwitchBook$Net", "sources", "I", false)
  | 2 => ("SwitchBook$Net", "loads", "I", false)
  | 3 => ("SwitchBook$Net", "switches", "I", false)
  | 4 => ("SwitchBook$Net", "closedAsTold", "I", false)
  | 5 => ("SwitchBook$Net", "lockedAsTold", "I", false)
  | 6 => ("SwitchBook$Net", "kind", "[I", true)
  | 7 => ("SwitchBook$Net", "name", "[I", true)
  | 8 => ("SwitchBook$Net", "first", "[I", true)
  | 9 => ("SwitchBook$Net", "second", "[I", true)
  | 10 => ("SwitchBook$Net", "live", "[I", true)
  | 11 => ("SwitchBook$Net", "earthed", "[I", true)
  | 12 => ("SwitchBook$Net", "held", "[I", true)
  | _ => ("SwitchBook$Net", "part", "[I", true)
def tyX1 : Nat → FieldType := fun k => match k with
  | 0 => .int
  | 1 => .int
  | 2 => .int
  | 3 => .int
  | 4 => .int
  | 5 => .int
  | 6 => .array .int
  | 7 => .array .int
  | 8 => .array .int
  | 9 => .array .int
  | 10 => .array .int
  | 11 => .array .int
  | 12 => .array .int
  | _ => .array .int
abbrev wsX10 : List Cond := u_ws RX1 TX1 14
theorem nmX1 : ∀ a, a < 14 → ∀ b, b < 14 → a ≠ b → (TX1 a).2.1 ≠ (TX1 b).2.1 := by decide +kernel
theorem tyX1_ok : ∀ k, k < 14 → parseFieldDescriptor (TX1 k).2.2.1 = some (tyX1 k) := by decide +kernel
def RX2 : String := "SwitchBook$Text"
def TX2 : u_T := fun k => match k with
  | 0 => ("SwitchBook$Text", "letters", "[I", true)
  | 1 => ("SwitchBook$Text", "length", "I", false)
  | 2 => ("SwitchBook$Text", "next", "I", false)
  | 3 => ("SwitchBook$Text", "start", "I", false)
  | 4 => ("SwitchBook$Text", "kind", "I", false)
  | _ => ("SwitchBook$Text", "value", "I", false)
def tyX2 : Nat → FieldType := fun k => match k with
  | 0 => .array .int
  | 1 => .int
  | 2 => .int
  | 3 => .int
  | 4 => .int
  | _ => .int
abbrev wsX20 : List Cond := u_ws RX2 TX2 6
theorem nmX2 : ∀ a, a < 6 → ∀ b, b < 6 → a ≠ b → (TX2 a).2.1 ≠ (TX2 b).2.1 := by decide +kernel
theorem tyX2_ok : ∀ k, k < 6 → parseFieldDescriptor (TX2 k).2.2.1 = some (tyX2 k) := by decide +kernel
def RX3 : String := "SwitchBook"
def TX3 : u_T := fun k => match k with
  | 0 => ("SwitchBook", "text", "LSwitchBook$Text;", true)
  | 1 => ("SwitchBook", "draft", "LSwitchBook$Draft;", true)
  | 2 => ("SwitchBook", "net", "LSwitchBook$Net;", false)
  | 3 => ("SwitchBook", "spare", "LSwitchBook$Net;", false)
  | 4 => ("SwitchBook", "closed", "I", false)
  | 5 => ("SwitchBook", "locked", "I", false)
  | 6 => ("SwitchBook", "price", "[I", true)
  | 7 => ("SwitchBook", "order", "[I", true)
  | 8 => ("SwitchBook", "listed", "I", false)
  | 9 => ("SwitchBook", "past", "[I", true)
  | 10 => ("SwitchBook", "undoable", "I", false)
  | 11 => ("SwitchBook", "images", "[I", true)
  | 12 => ("SwitchBook", "kept", "I", false)
  | 13 => ("SwitchBook", "seen", "[I", true)
  | 14 => ("SwitchBook", "sights", "I", false)
  | _ => ("SwitchBook", "cost", "[I", true)
def tyX3 : Nat → FieldType := fun k => match k with
  | 0 => .object "SwitchBook$Text"
  | 1 => .object "SwitchBook$Draft"
  | 2 => .object "SwitchBook$Net"
  | 3 => .object "SwitchBook$Net"
  | 4 => .int
  | 5 => .int
  | 6 => .array .int
  | 7 => .array .int
  | 8 => .int
  | 9 => .array .int
  | 10 => .int
  | 11 => .array .int
  | 12 => .int
  | 13 => .array .int
  | 14 => .int
  | _ => .array .int
abbrev wsX30 : List Cond := u_ws RX3 TX3 16
theorem nmX3 : ∀ a, a < 16 → ∀ b, b < 16 → a ≠ b → (TX3 a).2.1 ≠ (TX3 b).2.1 := by decide +kernel
theorem tyX3_ok : ∀ k, k < 16 → parseFieldDescriptor (TX3 k).2.2.1 = some (tyX3 k) := by decide +kernel
def RX4 : String := "SwitchBookModel"
def TX4 : u_T := fun k => match k with
  | 0 => ("SwitchBookModel", "thrown", "I", false)
  | 1 => ("SwitchBookModel", "text", "[I", true)
  | 2 => ("SwitchBookModel", "typed", "I", false)
  | 3 => ("SwitchBookModel", "at", "I", false)
  | 4 => ("SwitchBookModel", "token", "I", false)
  | 5 => ("SwitchBookModel", "place", "I", false)
  | 6 => ("SwitchBookModel", "value", "I", false)
  | 7 => ("SwitchBookModel", "fault", "I", false)
  | 8 => ("SwitchBookModel", "told", "[I", true)
  | 9 => ("SwitchBookModel", "draft", "[I", true)
  | 10 => ("SwitchBookModel", "draftNow", "[I", true)
  | 11 => ("SwitchBookModel", "s", "[I", true)
  | 12 => ("SwitchBookModel", "undos", "[I", true)
  | 13 => ("SwitchBookModel", "undoMany", "I", false)
  | 14 => ("SwitchBookModel", "kept", "[I", true)
  | 15 => ("SwitchBookModel", "isKept", "[Z", true)
  | 16 => ("SwitchBookModel", "order", "[I", true)
  | 17 => ("SwitchBookModel", "listed", "I", false)
  | 18 => ("SwitchBookModel", "seenNode", "[I", true)
  | 19 => ("SwitchBookModel", "seenLive", "[I", true)
  | 20 => ("SwitchBookModel", "seenMany", "I", false)
  | 21 => ("SwitchBookModel", "part", "[I", true)
  | 22 => ("SwitchBookModel", "cost", "[I", true)
  | 23 => ("SwitchBookModel", "wanted", "[Z", true)
  | _ => ("SwitchBookModel", "lawful", "[Z", true)
def tyX4 : Nat → FieldType := fun k => match k with
  | 0 => .int
  | 1 => .array .int
  | 2 => .int
  | 3 => .int
  | 4 => .int
  | 5 => .int
  | 6 => .int
  | 7 => .int
  | 8 => .array .int
  | 9 => .array .int
  | 10 => .array .int
  | 11 => .array .int
  | 12 => .array .int
  | 13 => .int
  | 14 => .array .int
  | 15 => .array .boolean
  | 16 => .array .int
  | 17 => .int
  | 18 => .array .int
  | 19 => .array .int
  | 20 => .int
  | 21 => .array .int
  | 22 => .array .int
  | 23 => .array .boolean
  | _ => .array .boolean
abbrev wsX40 : List Cond := u_ws RX4 TX4 25
theorem nmX4 : ∀ a, a < 25 → ∀ b, b < 25 → a ≠ b → (TX4 a).2.1 ≠ (TX4 b).2.1 := by decide +kernel
theorem tyX4_ok : ∀ k, k < 25 → parseFieldDescriptor (TX4 k).2.2.1 = some (tyX4 k) := by decide +kernel
abbrev g_cls : List vw_C := [(RX0, TX0, 9), (RX1, TX1, 14), (RX2, TX2, 6), (RX3, TX3, 16), (RX4, TX4, 25)]
def g_CN : List String := ["SwitchBook$Draft", "SwitchBook$Net", "SwitchBook$Text", "SwitchBook", "SwitchBookModel", "SwitchBookLaw", "java/lang/Integer", "java/lang/Math", "java/util/Arrays"]
abbrev gI : Type := Instr × Nat × Nat × Int32
def gk0_0 : List (Nat × gI) := [(0, .aload_n 0, 0, 0, 0), (1, .invokespecial 3, 999, 0, 0), (4, .aload_n 0, 0, 0, 0), (5, .bipush (120), 0, 0, 120), (7, .newarray .int, 0, 0, 0), (9, .putfield 9, 2, 0, 0), (12, .return_, 0, 0, 0)]
def gk0 : List (Nat × gI) := gk0_0
def gk1_0 : List (Nat × gI) := [(0, .aload_n 0, 0, 0, 0), (1, .invokespecial 3, 999, 0, 0), (4, .aload_n 0, 0, 0, 0), (5, .bipush (26), 0, 0, 26), (7, .newarray .int, 0, 0, 0), (9, .putfield 9, 0, 6, 0), (12, .aload_n 0, 0, 0, 0), (13, .bipush (26), 0, 0, 26), (15, .newarray .int, 0, 0, 0), (17, .putfield 15, 0, 7, 0), (20, .aload_n 0, 0, 0, 0), (21, .bipush (26), 0, 0, 26), (23, .newarray .int, 0, 0, 0), (25, .putfield 18, 0, 8, 0), (28, .return_, 0, 0, 0)]
def gk1 : List (Nat × gI) := gk1_0
def gk2_0 : List (Nat × gI) := [(0, .aload_n 0, 0, 0, 0), (1, .invokespecial 3, 999, 0, 0), (4, .aload_n 0, 0, 0, 0), (5, .iconst 3, 0, 0, 3), (6, .putfield 9, 1, 0, 0), (9, .aload_n 0, 0, 0, 0), (10, .bipush (8), 0, 0, 8), (12, .newarray .int, 0, 0, 0), (14, .putfield 15, 1, 6, 0), (17, .aload_n 0, 0, 0, 0), (18, .bipush (8), 0, 0, 8), (20, .newarray .int, 0, 0, 0), (22, .putfield 19, 1, 7, 0), (25, .aload_n 0, 0, 0, 0), (26, .bipush (8), 0, 0, 8), (28, .newarray .int, 0, 0, 0), (30, .putfield 22, 1, 8, 0), (33, .aload_n 0, 0, 0, 0), (34, .bipush (8), 0, 0, 8), (36, .newarray .int, 0, 0, 0), (38, .putfield 25, 1, 9, 0), (41, .aload_n 0, 0, 0, 0), (42, .sipush (256), 0, 0, 256), (45, .newarray .int, 0, 0, 0), (47, .putfield 28, 1, 10, 0), (50, .aload_n 0, 0, 0, 0), (51, .sipush (256), 0, 0, 256), (54, .newarray .int, 0, 0, 0), (56, .putfield 31, 1, 11, 0), (59, .aload_n 0, 0, 0, 0), (60, .sipush (256), 0, 0, 256), (63, .newarray .int, 0, 0, 0), (65, .putfield 34, 1, 12, 0), (68, .aload_n 0, 0, 0, 0), (69, .bipush (6), 0, 0, 6), (71, .newarray .int, 0, 0, 0), (73, .putfield 37, 1, 13, 0), (76, .return_, 0, 0, 0)]
def gk2 : List (Nat × gI) := gk2_0
def gk3_0 : List (Nat × gI) := [(0, .aload_n 0, 0, 0, 0), (1, .getfield 33, 3, 6, 0), (4, .iconst 0, 0, 0, 0), (5, .iload_n 1, 0, 0, 0), (6, .iastore, 0, 0, 0), (7, .aload_n 0, 0, 0, 0), (8, .getfield 33, 3, 6, 0), (11, .iconst 1, 0, 0, 1), (12, .iload_n 2, 0, 0, 0), (13, .iastore, 0, 0, 0), (14, .aload_n 0, 0, 0, 0), (15, .getfield 33, 3, 6, 0), (18, .iconst 2, 0, 0, 2), (19, .iload_n 3, 0, 0, 0), (20, .iastore, 0, 0, 0), (21, .return_, 0, 0, 0)]
def gk3 : List (Nat × gI) := gk3_0
def gk4_0 : List (Nat × gI) := [(0, .aload_n 0, 0, 0, 0), (1, .aload_n 0, 0, 0, 0), (2, .getfield 26, 3, 2, 0), (5, .getfield 73, 1, 4, 0), (8, .putfield 95, 3, 4, 0), (11, .aload_n 0, 0, 0, 0), (12, .aload_n 0, 0, 0, 0), (13, .getfield 26, 3, 2, 0), (16, .getfield 222, 1, 5, 0), (19, .putfield 102, 3, 5, 0), (22, .aload_n 0, 0, 0, 0), (23, .iconst 1, 0, 0, 1), (24, .iconst 2, 0, 0, 2), (25, .iconst 3, 0, 0, 3), (26, .invokevirtual 155, 3, 3, 0), (29, .aload_n 0, 0, 0, 0), (30, .iconst 0, 0, 0, 0), (31, .putfield 159, 3, 8, 0), (34, .aload_n 0, 0, 0, 0), (35, .iconst 0, 0, 0, 0), (36, .putfield 146, 3, 10, 0), (39, .aload_n 0, 0, 0, 0), (40, .iconst 0, 0, 0, 0), (41, .putfield 193, 3, 14, 0), (44, .aload_n 0, 0, 0, 0), (45, .iconst 0, 0, 0, 0), (46, .putfield 219, 3, 12, 0), (49, .return_, 0, 0, 0)]
def gk4 : List (Nat × gI) := gk4_0
def gk5_0 : List (Nat × gI) := [(0, .aload_n 0, 0, 0, 0), (1, .invokespecial 3, 999, 0, 0), (4, .aload_n 0, 0, 0, 0), (5, .new 9, 2, 0, 0), (8, .dup, 0, 0, 0), (9, .invokespecial 11, 0, 0, 0), (12, .putfield 12, 3, 0, 0), (15, .aload_n 0, 0, 0, 0), (16, .new 16, 0, 0, 0), (19, .dup, 0, 0, 0), (20, .invokespecial 18, 1, 0, 0), (23, .putfield 19, 3, 1, 0), (26, .aload_n 0, 0, 0, 0), (27, .new 23, 1, 0, 0), (30, .dup, 0, 0, 0), (31, .invokespecial 25, 2, 0, 0), (34, .putfield 26, 3, 2, 0), (37, .aload_n 0, 0, 0, 0), (38, .new 23, 1, 0, 0), (41, .dup, 0, 0, 0), (42, .invokespecial 25, 2, 0, 0), (45, .putfield 30, 3, 3, 0), (48, .aload_n 0, 0, 0, 0), (49, .iconst 3, 0, 0, 3), (50, .newarray .int, 0, 0, 0), (52, .putfield 33, 3, 6, 0), (55, .aload_n 0, 0, 0, 0), (56, .bipush (12), 0, 0, 12), (58, .newarray .int, 0, 0, 0), (60, .putfield 37, 3, 7, 0), (63, .aload_n 0, 0, 0, 0), (64, .bipush (10), 0, 0, 10), (66, .newarray .int, 0, 0, 0), (68, .putfield 40, 3, 9, 0), (71, .aload_n 0, 0, 0, 0), (72, .iconst 2, 0, 0, 2), (73, .newarray .int, 0, 0, 0), (75, .putfield 43, 3, 11, 0), (78, .aload_n 0, 0, 0, 0), (79, .bipush (6), 0, 0, 6)]
def gk5_1 : List (Nat × gI) := [(81, .newarray .int, 0, 0, 0), (83, .putfield 46, 3, 13, 0), (86, .aload_n 0, 0, 0, 0), (87, .sipush (256), 0, 0, 256), (90, .newarray .int, 0, 0, 0), (92, .putfield 49, 3, 15, 0), (95, .aload_n 0, 0, 0, 0), (96, .invokevirtual 52, 4, 0, 0), (99, .return_, 0, 0, 0)]
def gk5 : List (Nat × gI) := gk5_0 ++ gk5_1
def gk6_0 : List (Nat × gI) := [(0, .iconst 0, 0, 0, 0), (1, .istore_n 1, 0, 0, 0), (2, .iload_n 1, 0, 0, 0), (3, .bipush (36), 0, 0, 36), (5, .if_icmp .ge (16), 21, 0, 0), (8, .aload_n 0, 0, 0, 0), (9, .getfield 16, 4, 9, 0), (12, .iload_n 1, 0, 0, 0), (13, .iconst 0, 0, 0, 0), (14, .iastore, 0, 0, 0), (15, .iinc 1 (1), 0, 0, 1), (18, .goto (-16), 2, 0, 0), (21, .aload_n 0, 0, 0, 0), (22, .getfield 16, 4, 9, 0), (25, .iconst 0, 0, 0, 0), (26, .iconst 3, 0, 0, 3), (27, .iastore, 0, 0, 0), (28, .aload_n 0, 0, 0, 0), (29, .getfield 19, 4, 10, 0), (32, .iconst 0, 0, 0, 0), (33, .iconst 0, 0, 0, 0), (34, .iastore, 0, 0, 0), (35, .aload_n 0, 0, 0, 0), (36, .getfield 19, 4, 10, 0), (39, .iconst 1, 0, 0, 1), (40, .iconst 0, 0, 0, 0), (41, .iastore, 0, 0, 0), (42, .aload_n 0, 0, 0, 0), (43, .getfield 19, 4, 10, 0), (46, .iconst 2, 0, 0, 2), (47, .iconst 1, 0, 0, 1), (48, .iastore, 0, 0, 0), (49, .aload_n 0, 0, 0, 0), (50, .getfield 19, 4, 10, 0), (53, .iconst 3, 0, 0, 3), (54, .iconst 2, 0, 0, 2), (55, .iastore, 0, 0, 0), (56, .aload_n 0, 0, 0, 0), (57, .getfield 19, 4, 10, 0), (60, .iconst 4, 0, 0, 4)]
def gk6_1 : List (Nat × gI) := [(61, .iconst 3, 0, 0, 3), (62, .iastore, 0, 0, 0), (63, .return_, 0, 0, 0)]
def gk6 : List (Nat × gI) := gk6_0 ++ gk6_1
def gk7_0 : List (Nat × gI) := [(0, .iconst 0, 0, 0, 0), (1, .istore_n 1, 0, 0, 0), (2, .iload_n 1, 0, 0, 0), (3, .bipush (36), 0, 0, 36), (5, .if_icmp .ge (21), 26, 0, 0), (8, .aload_n 0, 0, 0, 0), (9, .getfield 13, 4, 8, 0), (12, .iload_n 1, 0, 0, 0), (13, .aload_n 0, 0, 0, 0), (14, .getfield 16, 4, 9, 0), (17, .iload_n 1, 0, 0, 0), (18, .iaload, 0, 0, 0), (19, .iastore, 0, 0, 0), (20, .iinc 1 (1), 0, 0, 1), (23, .goto (-21), 2, 0, 0), (26, .iconst 0, 0, 0, 0), (27, .istore_n 1, 0, 0, 0), (28, .iload_n 1, 0, 0, 0), (29, .iconst 5, 0, 0, 5), (30, .if_icmp .ge (21), 51, 0, 0), (33, .aload_n 0, 0, 0, 0), (34, .getfield 22, 4, 11, 0), (37, .iload_n 1, 0, 0, 0), (38, .aload_n 0, 0, 0, 0), (39, .getfield 19, 4, 10, 0), (42, .iload_n 1, 0, 0, 0), (43, .iaload, 0, 0, 0), (44, .iastore, 0, 0, 0), (45, .iinc 1 (1), 0, 0, 1), (48, .goto (-20), 28, 0, 0), (51, .aload_n 0, 0, 0, 0), (52, .iconst 0, 0, 0, 0), (53, .putfield 70, 4, 2, 0), (56, .aload_n 0, 0, 0, 0), (57, .iconst 0, 0, 0, 0), (58, .putfield 141, 4, 17, 0), (61, .aload_n 0, 0, 0, 0), (62, .iconst 0, 0, 0, 0), (63, .putfield 144, 4, 20, 0), (66, .aload_n 0, 0, 0, 0)]
def gk7_1 : List (Nat × gI) := [(67, .iconst 0, 0, 0, 0), (68, .putfield 147, 4, 13, 0), (71, .aload_n 0, 0, 0, 0), (72, .getfield 31, 4, 15, 0), (75, .iconst 0, 0, 0, 0), (76, .iconst 0, 0, 0, 0), (77, .bastore, 0, 0, 0), (78, .aload_n 0, 0, 0, 0), (79, .getfield 31, 4, 15, 0), (82, .iconst 1, 0, 0, 1), (83, .iconst 0, 0, 0, 0), (84, .bastore, 0, 0, 0), (85, .return_, 0, 0, 0)]
def gk7 : List (Nat × gI) := gk7_0 ++ gk7_1
def gk8_0 : List (Nat × gI) := [(0, .aload_n 0, 0, 0, 0), (1, .invokespecial 1, 999, 0, 0), (4, .aload_n 0, 0, 0, 0), (5, .bipush (120), 0, 0, 120), (7, .newarray .int, 0, 0, 0), (9, .putfield 7, 4, 1, 0), (12, .aload_n 0, 0, 0, 0), (13, .bipush (36), 0, 0, 36), (15, .newarray .int, 0, 0, 0), (17, .putfield 13, 4, 8, 0), (20, .aload_n 0, 0, 0, 0), (21, .bipush (36), 0, 0, 36), (23, .newarray .int, 0, 0, 0), (25, .putfield 16, 4, 9, 0), (28, .aload_n 0, 0, 0, 0), (29, .iconst 5, 0, 0, 5), (30, .newarray .int, 0, 0, 0), (32, .putfield 19, 4, 10, 0), (35, .aload_n 0, 0, 0, 0), (36, .iconst 5, 0, 0, 5), (37, .newarray .int, 0, 0, 0), (39, .putfield 22, 4, 11, 0), (42, .aload_n 0, 0, 0, 0), (43, .bipush (50), 0, 0, 50), (45, .newarray .int, 0, 0, 0), (47, .putfield 25, 4, 12, 0), (50, .aload_n 0, 0, 0, 0), (51, .bipush (10), 0, 0, 10), (53, .newarray .int, 0, 0, 0), (55, .putfield 28, 4, 14, 0), (58, .aload_n 0, 0, 0, 0), (59, .iconst 2, 0, 0, 2), (60, .newarray .boolean, 1, 0, 0), (62, .putfield 31, 4, 15, 0), (65, .aload_n 0, 0, 0, 0), (66, .bipush (12), 0, 0, 12), (68, .newarray .int, 0, 0, 0), (70, .putfield 35, 4, 16, 0), (73, .aload_n 0, 0, 0, 0), (74, .bipush (6), 0, 0, 6)]
def gk8_1 : List (Nat × gI) := [(76, .newarray .int, 0, 0, 0), (78, .putfield 38, 4, 18, 0), (81, .aload_n 0, 0, 0, 0), (82, .bipush (6), 0, 0, 6), (84, .newarray .int, 0, 0, 0), (86, .putfield 41, 4, 19, 0), (89, .aload_n 0, 0, 0, 0), (90, .bipush (6), 0, 0, 6), (92, .newarray .int, 0, 0, 0), (94, .putfield 44, 4, 21, 0), (97, .aload_n 0, 0, 0, 0), (98, .sipush (256), 0, 0, 256), (101, .newarray .int, 0, 0, 0), (103, .putfield 47, 4, 22, 0), (106, .aload_n 0, 0, 0, 0), (107, .sipush (256), 0, 0, 256), (110, .newarray .boolean, 1, 0, 0), (112, .putfield 50, 4, 23, 0), (115, .aload_n 0, 0, 0, 0), (116, .sipush (2048), 0, 0, 2048), (119, .newarray .boolean, 1, 0, 0), (121, .putfield 53, 4, 24, 0), (124, .aload_n 0, 0, 0, 0), (125, .invokevirtual 56, 6, 0, 0), (128, .aload_n 0, 0, 0, 0), (129, .invokevirtual 59, 7, 0, 0), (132, .return_, 0, 0, 0)]
def gk8 : List (Nat × gI) := gk8_0 ++ gk8_1
def gk9_0 : List (Nat × gI) := [(0, .iload_n 1, 0, 0, 0), (1, .ifCond .lt (10), 11, 0, 0), (4, .iload_n 1, 0, 0, 0), (5, .sipush (255), 0, 0, 255), (8, .if_icmp .le (5), 13, 0, 0), (11, .iconst (-1), 0, 0, (-1)), (12, .ireturn, 0, 0, 0), (13, .aload_n 0, 0, 0, 0), (14, .getfield 12, 3, 0, 0), (17, .getfield 55, 2, 1, 0), (20, .bipush (120), 0, 0, 120), (22, .if_icmp .lt (6), 28, 0, 0), (25, .bipush (-3), 0, 0, (-3)), (27, .ireturn, 0, 0, 0), (28, .aload_n 0, 0, 0, 0), (29, .getfield 12, 3, 0, 0), (32, .getfield 59, 2, 0, 0), (35, .aload_n 0, 0, 0, 0), (36, .getfield 12, 3, 0, 0), (39, .getfield 55, 2, 1, 0), (42, .iload_n 1, 0, 0, 0), (43, .iastore, 0, 0, 0), (44, .aload_n 0, 0, 0, 0), (45, .getfield 12, 3, 0, 0), (48, .dup, 0, 0, 0), (49, .getfield 55, 2, 1, 0), (52, .iconst 1, 0, 0, 1), (53, .iadd, 0, 0, 0), (54, .putfield 55, 2, 1, 0), (57, .aload_n 0, 0, 0, 0), (58, .getfield 12, 3, 0, 0), (61, .getfield 55, 2, 1, 0), (64, .ireturn, 0, 0, 0)]
def gk9 : List (Nat × gI) := gk9_0
def gk10_0 : List (Nat × gI) := [(0, .iload_n 0, 0, 0, 0), (1, .iload_n 1, 0, 0, 0), (2, .if_icmp .lt (12), 14, 0, 0), (5, .iload_n 0, 0, 0, 0), (6, .iload_n 2, 0, 0, 0), (7, .if_icmp .gt (7), 14, 0, 0), (10, .iconst 1, 0, 0, 1), (11, .goto (4), 15, 0, 0), (14, .iconst 0, 0, 0, 0), (15, .ireturn, 0, 0, 0)]
def gk10 : List (Nat × gI) := gk10_0
def gk11_0 : List (Nat × gI) := [(0, .aload_n 0, 0, 0, 0), (1, .iconst 0, 0, 0, 0), (2, .putfield 62, 4, 0, 0), (5, .iload_n 1, 0, 0, 0), (6, .iconst 0, 0, 0, 0), (7, .sipush (255), 0, 0, 255), (10, .invokestatic 66, 10, 3, 0), (13, .ifCond .ne (5), 18, 0, 0), (16, .iconst (-1), 0, 0, (-1)), (17, .ireturn, 0, 0, 0), (18, .aload_n 0, 0, 0, 0), (19, .getfield 70, 4, 2, 0), (22, .bipush (120), 0, 0, 120), (24, .if_icmp .ne (6), 30, 0, 0), (27, .bipush (-3), 0, 0, (-3)), (29, .ireturn, 0, 0, 0), (30, .aload_n 0, 0, 0, 0), (31, .getfield 7, 4, 1, 0), (34, .aload_n 0, 0, 0, 0), (35, .getfield 70, 4, 2, 0), (38, .iload_n 1, 0, 0, 0), (39, .iastore, 0, 0, 0), (40, .aload_n 0, 0, 0, 0), (41, .dup, 0, 0, 0), (42, .getfield 70, 4, 2, 0), (45, .iconst 1, 0, 0, 1), (46, .iadd, 0, 0, 0), (47, .putfield 70, 4, 2, 0), (50, .aload_n 0, 0, 0, 0), (51, .getfield 70, 4, 2, 0), (54, .ireturn, 0, 0, 0)]
def gk11 : List (Nat × gI) := gk11_0
def gk12_0 : List (Nat × gI) := [(0, .aload_n 0, 0, 0, 0), (1, .getfield 12, 3, 0, 0), (4, .getfield 55, 2, 1, 0), (7, .istore_n 1, 0, 0, 0), (8, .aload_n 0, 0, 0, 0), (9, .getfield 12, 3, 0, 0), (12, .iconst 0, 0, 0, 0), (13, .putfield 55, 2, 1, 0), (16, .iload_n 1, 0, 0, 0), (17, .ireturn, 0, 0, 0)]
def gk12 : List (Nat × gI) := gk12_0
def gk13_0 : List (Nat × gI) := [(0, .aload_n 0, 0, 0, 0), (1, .iconst 0, 0, 0, 0), (2, .putfield 62, 4, 0, 0), (5, .aload_n 0, 0, 0, 0), (6, .getfield 70, 4, 2, 0), (9, .istore_n 1, 0, 0, 0), (10, .aload_n 0, 0, 0, 0), (11, .iconst 0, 0, 0, 0), (12, .putfield 70, 4, 2, 0), (15, .iload_n 1, 0, 0, 0), (16, .ireturn, 0, 0, 0)]
def gk13 : List (Nat × gI) := gk13_0
def gk14_0 : List (Nat × gI) := [(0, .aload_n 0, 0, 0, 0), (1, .iconst 3, 0, 0, 3), (2, .putfield 43, 0, 0, 0), (5, .aload_n 0, 0, 0, 0), (6, .iconst 0, 0, 0, 0), (7, .putfield 46, 0, 1, 0), (10, .aload_n 0, 0, 0, 0), (11, .iconst 0, 0, 0, 0), (12, .putfield 49, 0, 2, 0), (15, .aload_n 0, 0, 0, 0), (16, .iconst 0, 0, 0, 0), (17, .putfield 52, 0, 3, 0), (20, .aload_n 0, 0, 0, 0), (21, .iconst 0, 0, 0, 0), (22, .putfield 55, 0, 4, 0), (25, .aload_n 0, 0, 0, 0), (26, .iconst 0, 0, 0, 0), (27, .putfield 58, 0, 5, 0), (30, .return_, 0, 0, 0)]
def gk14 : List (Nat × gI) := gk14_0
def gk15_0 : List (Nat × gI) := [(0, .aload_n 0, 0, 0, 0), (1, .iconst 0, 0, 0, 0), (2, .putfield 15, 2, 2, 0), (5, .return_, 0, 0, 0)]
def gk15 : List (Nat × gI) := gk15_0
def gk16_0 : List (Nat × gI) := [(0, .iconst 0, 0, 0, 0), (1, .istore_n 1, 0, 0, 0), (2, .aload_n 0, 0, 0, 0), (3, .getfield 15, 2, 2, 0), (6, .aload_n 0, 0, 0, 0), (7, .getfield 19, 2, 1, 0), (10, .if_icmp .ge (68), 78, 0, 0), (13, .aload_n 0, 0, 0, 0), (14, .getfield 9, 2, 0, 0), (17, .aload_n 0, 0, 0, 0), (18, .getfield 15, 2, 2, 0), (21, .iaload, 0, 0, 0), (22, .bipush (48), 0, 0, 48), (24, .if_icmp .lt (54), 78, 0, 0), (27, .aload_n 0, 0, 0, 0), (28, .getfield 9, 2, 0, 0), (31, .aload_n 0, 0, 0, 0), (32, .getfield 15, 2, 2, 0), (35, .iaload, 0, 0, 0), (36, .bipush (57), 0, 0, 57), (38, .if_icmp .gt (40), 78, 0, 0), (41, .iload_n 1, 0, 0, 0), (42, .bipush (99), 0, 0, 99), (44, .if_icmp .gt (21), 65, 0, 0), (47, .bipush (10), 0, 0, 10), (49, .iload_n 1, 0, 0, 0), (50, .imul, 0, 0, 0), (51, .aload_n 0, 0, 0, 0), (52, .getfield 9, 2, 0, 0), (55, .aload_n 0, 0, 0, 0), (56, .getfield 15, 2, 2, 0), (59, .iaload, 0, 0, 0), (60, .iadd, 0, 0, 0), (61, .bipush (48), 0, 0, 48), (63, .isub, 0, 0, 0), (64, .istore_n 1, 0, 0, 0), (65, .aload_n 0, 0, 0, 0), (66, .dup, 0, 0, 0), (67, .getfield 15, 2, 2, 0), (70, .iconst 1, 0, 0, 1)]
def gk16_1 : List (Nat × gI) := [(71, .iadd, 0, 0, 0), (72, .putfield 15, 2, 2, 0), (75, .goto (-73), 2, 0, 0), (78, .aload_n 0, 0, 0, 0), (79, .getfield 9, 2, 0, 0), (82, .aload_n 0, 0, 0, 0), (83, .getfield 22, 2, 3, 0), (86, .iaload, 0, 0, 0), (87, .bipush (48), 0, 0, 48), (89, .if_icmp .ne (20), 109, 0, 0), (92, .aload_n 0, 0, 0, 0), (93, .getfield 15, 2, 2, 0), (96, .aload_n 0, 0, 0, 0), (97, .getfield 22, 2, 3, 0), (100, .isub, 0, 0, 0), (101, .iconst 1, 0, 0, 1), (102, .if_icmp .le (7), 109, 0, 0), (105, .iconst 1, 0, 0, 1), (106, .goto (4), 110, 0, 0), (109, .iconst 0, 0, 0, 0), (110, .istore_n 2, 0, 0, 0), (111, .aload_n 0, 0, 0, 0), (112, .iload_n 1, 0, 0, 0), (113, .putfield 31, 2, 5, 0), (116, .aload_n 0, 0, 0, 0), (117, .iload_n 1, 0, 0, 0), (118, .bipush (99), 0, 0, 99), (120, .if_icmp .gt (7), 127, 0, 0), (123, .iload_n 2, 0, 0, 0), (124, .ifCond .eq (7), 131, 0, 0), (127, .iconst 4, 0, 0, 4), (128, .goto (4), 132, 0, 0), (131, .iconst 2, 0, 0, 2), (132, .putfield 25, 2, 4, 0), (135, .return_, 0, 0, 0)]
def gk16 : List (Nat × gI) := gk16_0 ++ gk16_1
def gk17_0 : List (Nat × gI) := [(0, .iload_n 0, 0, 0, 0), (1, .bipush (97), 0, 0, 97), (3, .if_icmp .lt (13), 16, 0, 0), (6, .iload_n 0, 0, 0, 0), (7, .bipush (122), 0, 0, 122), (9, .if_icmp .gt (7), 16, 0, 0), (12, .iconst 1, 0, 0, 1), (13, .goto (4), 17, 0, 0), (16, .iconst 0, 0, 0, 0), (17, .ireturn, 0, 0, 0)]
def gk17 : List (Nat × gI) := gk17_0
def gk18_0 : List (Nat × gI) := [(0, .aload_n 0, 0, 0, 0), (1, .getfield 15, 2, 2, 0), (4, .aload_n 0, 0, 0, 0), (5, .getfield 19, 2, 1, 0), (8, .if_icmp .ge (30), 38, 0, 0), (11, .aload_n 0, 0, 0, 0), (12, .getfield 9, 2, 0, 0), (15, .aload_n 0, 0, 0, 0), (16, .getfield 15, 2, 2, 0), (19, .iaload, 0, 0, 0), (20, .bipush (32), 0, 0, 32), (22, .if_icmp .ne (16), 38, 0, 0), (25, .aload_n 0, 0, 0, 0), (26, .dup, 0, 0, 0), (27, .getfield 15, 2, 2, 0), (30, .iconst 1, 0, 0, 1), (31, .iadd, 0, 0, 0), (32, .putfield 15, 2, 2, 0), (35, .goto (-35), 0, 0, 0), (38, .aload_n 0, 0, 0, 0), (39, .aload_n 0, 0, 0, 0), (40, .getfield 15, 2, 2, 0), (43, .putfield 22, 2, 3, 0), (46, .aload_n 0, 0, 0, 0), (47, .getfield 15, 2, 2, 0), (50, .aload_n 0, 0, 0, 0), (51, .getfield 19, 2, 1, 0), (54, .if_icmp .lt (9), 63, 0, 0), (57, .aload_n 0, 0, 0, 0), (58, .iconst 0, 0, 0, 0), (59, .putfield 25, 2, 4, 0), (62, .return_, 0, 0, 0), (63, .aload_n 0, 0, 0, 0), (64, .getfield 9, 2, 0, 0), (67, .aload_n 0, 0, 0, 0), (68, .getfield 15, 2, 2, 0), (71, .iaload, 0, 0, 0), (72, .istore_n 1, 0, 0, 0), (73, .iload_n 1, 0, 0, 0), (74, .bipush (48), 0, 0, 48)]
def gk18_1 : List (Nat × gI) := [(76, .if_icmp .lt (14), 90, 0, 0), (79, .iload_n 1, 0, 0, 0), (80, .bipush (57), 0, 0, 57), (82, .if_icmp .gt (8), 90, 0, 0), (85, .aload_n 0, 0, 0, 0), (86, .invokevirtual 28, 16, 0, 0), (89, .return_, 0, 0, 0), (90, .aload_n 0, 0, 0, 0), (91, .dup, 0, 0, 0), (92, .getfield 15, 2, 2, 0), (95, .iconst 1, 0, 0, 1), (96, .iadd, 0, 0, 0), (97, .putfield 15, 2, 2, 0), (100, .aload_n 0, 0, 0, 0), (101, .iload_n 1, 0, 0, 0), (102, .bipush (97), 0, 0, 97), (104, .isub, 0, 0, 0), (105, .putfield 31, 2, 5, 0), (108, .aload_n 0, 0, 0, 0), (109, .iload_n 1, 0, 0, 0), (110, .bipush (59), 0, 0, 59), (112, .if_icmp .ne (7), 119, 0, 0), (115, .iconst 3, 0, 0, 3), (116, .goto (15), 131, 0, 0), (119, .iload_n 1, 0, 0, 0), (120, .invokestatic 34, 17, 1, 0), (123, .ifCond .eq (7), 130, 0, 0), (126, .iconst 1, 0, 0, 1), (127, .goto (4), 131, 0, 0), (130, .iconst 4, 0, 0, 4), (131, .putfield 25, 2, 4, 0), (134, .return_, 0, 0, 0)]
def gk18 : List (Nat × gI) := gk18_0 ++ gk18_1
def gk19_0 : List (Nat × gI) := [(0, .iload_n 0, 0, 0, 0), (1, .iload_n 1, 0, 0, 0), (2, .ishr, 0, 0, 0), (3, .iconst 1, 0, 0, 1), (4, .iand, 0, 0, 0), (5, .ireturn, 0, 0, 0)]
def gk19 : List (Nat × gI) := gk19_0
def gk20_0 : List (Nat × gI) := [(0, .aload_n 0, 0, 0, 0), (1, .invokevirtual 38, 18, 0, 0), (4, .aload_n 0, 0, 0, 0), (5, .getfield 25, 2, 4, 0), (8, .iload_n 1, 0, 0, 0), (9, .if_icmp .ne (35), 44, 0, 0), (12, .aload_n 0, 0, 0, 0), (13, .getfield 31, 2, 5, 0), (16, .ifCond .lt (28), 44, 0, 0), (19, .aload_n 0, 0, 0, 0), (20, .getfield 31, 2, 5, 0), (23, .bipush (32), 0, 0, 32), (25, .if_icmp .ge (19), 44, 0, 0), (28, .iload_n 2, 0, 0, 0), (29, .aload_n 0, 0, 0, 0), (30, .getfield 31, 2, 5, 0), (33, .invokestatic 41, 19, 2, 0), (36, .iconst 1, 0, 0, 1), (37, .if_icmp .ne (7), 44, 0, 0), (40, .iconst 1, 0, 0, 1), (41, .goto (4), 45, 0, 0), (44, .iconst 0, 0, 0, 0), (45, .istore_n 3, 0, 0, 0), (46, .iload_n 3, 0, 0, 0), (47, .ifCond .eq (10), 57, 0, 0), (50, .aload_n 0, 0, 0, 0), (51, .getfield 31, 2, 5, 0), (54, .goto (4), 58, 0, 0), (57, .iconst (-1), 0, 0, (-1)), (58, .ireturn, 0, 0, 0)]
def gk20 : List (Nat × gI) := gk20_0
def gk21_0 : List (Nat × gI) := [(0, .aload_n 1, 0, 0, 0), (1, .iconst 2, 0, 0, 2), (2, .bipush (124), 0, 0, 124), (4, .invokevirtual 83, 20, 2, 0), (7, .istore_n 2, 0, 0, 0), (8, .iload_n 2, 0, 0, 0), (9, .ifCond .ge (5), 14, 0, 0), (12, .iconst 0, 0, 0, 0), (13, .ireturn, 0, 0, 0), (14, .aload_n 0, 0, 0, 0), (15, .iload_n 2, 0, 0, 0), (16, .putfield 43, 0, 0, 0), (19, .iconst 1, 0, 0, 1), (20, .ireturn, 0, 0, 0)]
def gk21 : List (Nat × gI) := gk21_0
def gk22_0 : List (Nat × gI) := [(0, .iconst 1, 0, 0, 1), (1, .aload_n 0, 0, 0, 0), (2, .getfield 43, 0, 0, 0), (5, .ishl, 0, 0, 0), (6, .iconst 1, 0, 0, 1), (7, .isub, 0, 0, 0), (8, .ireturn, 0, 0, 0)]
def gk22 : List (Nat × gI) := gk22_0
def gk23_0 : List (Nat × gI) := [(0, .iload_n 0, 0, 0, 0), (1, .ifCond .ge (7), 8, 0, 0), (4, .iconst 0, 0, 0, 0), (5, .goto (6), 11, 0, 0), (8, .iconst 1, 0, 0, 1), (9, .iload_n 0, 0, 0, 0), (10, .ishl, 0, 0, 0), (11, .ireturn, 0, 0, 0)]
def gk23 : List (Nat × gI) := gk23_0
def gk24_0 : List (Nat × gI) := [(0, .aload_n 1, 0, 0, 0), (1, .iconst 2, 0, 0, 2), (2, .aload_n 0, 0, 0, 0), (3, .invokevirtual 87, 22, 0, 0), (6, .aload_n 0, 0, 0, 0), (7, .getfield 46, 0, 1, 0), (10, .iconst (-1), 0, 0, (-1)), (11, .ixor, 0, 0, 0), (12, .iand, 0, 0, 0), (13, .invokevirtual 83, 20, 2, 0), (16, .istore_n 2, 0, 0, 0), (17, .aload_n 0, 0, 0, 0), (18, .dup, 0, 0, 0), (19, .getfield 46, 0, 1, 0), (22, .iload_n 2, 0, 0, 0), (23, .invokestatic 91, 23, 1, 0), (26, .ior, 0, 0, 0), (27, .putfield 46, 0, 1, 0), (30, .iload_n 2, 0, 0, 0), (31, .ifCond .lt (7), 38, 0, 0), (34, .iconst 1, 0, 0, 1), (35, .goto (4), 39, 0, 0), (38, .iconst 0, 0, 0, 0), (39, .ireturn, 0, 0, 0)]
def gk24 : List (Nat × gI) := gk24_0
def gk25_0 : List (Nat × gI) := [(0, .aload_n 1, 0, 0, 0), (1, .iconst 2, 0, 0, 2), (2, .aload_n 0, 0, 0, 0), (3, .invokevirtual 87, 22, 0, 0), (6, .aload_n 0, 0, 0, 0), (7, .getfield 49, 0, 2, 0), (10, .iconst (-1), 0, 0, (-1)), (11, .ixor, 0, 0, 0), (12, .iand, 0, 0, 0), (13, .invokevirtual 83, 20, 2, 0), (16, .istore_n 2, 0, 0, 0), (17, .aload_n 0, 0, 0, 0), (18, .dup, 0, 0, 0), (19, .getfield 49, 0, 2, 0), (22, .iload_n 2, 0, 0, 0), (23, .invokestatic 91, 23, 1, 0), (26, .ior, 0, 0, 0), (27, .putfield 49, 0, 2, 0), (30, .iload_n 2, 0, 0, 0), (31, .ifCond .lt (7), 38, 0, 0), (34, .iconst 1, 0, 0, 1), (35, .goto (4), 39, 0, 0), (38, .iconst 0, 0, 0, 0), (39, .ireturn, 0, 0, 0)]
def gk25 : List (Nat × gI) := gk25_0
def gk26_0 : List (Nat × gI) := [(0, .iload_n 0, 0, 0, 0), (1, .iload_n 0, 0, 0, 0), (2, .iconst 1, 0, 0, 1), (3, .iushr, 0, 0, 0), (4, .ldc_w 265, 0, 0, 1431655765), (7, .iand, 0, 0, 0), (8, .isub, 0, 0, 0), (9, .istore_n 0, 0, 0, 0), (10, .iload_n 0, 0, 0, 0), (11, .ldc_w 266, 0, 0, 858993459), (14, .iand, 0, 0, 0), (15, .iload_n 0, 0, 0, 0), (16, .iconst 2, 0, 0, 2), (17, .iushr, 0, 0, 0), (18, .ldc_w 266, 0, 0, 858993459), (21, .iand, 0, 0, 0), (22, .iadd, 0, 0, 0), (23, .istore_n 0, 0, 0, 0), (24, .iload_n 0, 0, 0, 0), (25, .iload_n 0, 0, 0, 0), (26, .iconst 4, 0, 0, 4), (27, .iushr, 0, 0, 0), (28, .iadd, 0, 0, 0), (29, .ldc_w 267, 0, 0, 252645135), (32, .iand, 0, 0, 0), (33, .istore_n 0, 0, 0, 0), (34, .iload_n 0, 0, 0, 0), (35, .iload_n 0, 0, 0, 0), (36, .bipush (8), 0, 0, 8), (38, .iushr, 0, 0, 0), (39, .iadd, 0, 0, 0), (40, .istore_n 0, 0, 0, 0), (41, .iload_n 0, 0, 0, 0), (42, .iload_n 0, 0, 0, 0), (43, .bipush (16), 0, 0, 16), (45, .iushr, 0, 0, 0), (46, .iadd, 0, 0, 0), (47, .istore_n 0, 0, 0, 0), (48, .iload_n 0, 0, 0, 0), (49, .bipush (63), 0, 0, 63)]
def gk26_1 : List (Nat × gI) := [(51, .iand, 0, 0, 0), (52, .ireturn, 0, 0, 0)]
def gk26 : List (Nat × gI) := gk26_0 ++ gk26_1
def gk27_0 : List (Nat × gI) := [(0, .aload_n 0, 0, 0, 0), (1, .getfield 52, 0, 3, 0), (4, .invokestatic 95, 26, 1, 0), (7, .bipush (8), 0, 0, 8), (9, .if_icmp .lt (5), 14, 0, 0), (12, .iconst 0, 0, 0, 0), (13, .ireturn, 0, 0, 0), (14, .aload_n 1, 0, 0, 0), (15, .iconst 1, 0, 0, 1), (16, .ldc 100, 0, 0, 67108863), (18, .aload_n 0, 0, 0, 0), (19, .getfield 52, 0, 3, 0), (22, .iconst (-1), 0, 0, (-1)), (23, .ixor, 0, 0, 0), (24, .iand, 0, 0, 0), (25, .invokevirtual 83, 20, 2, 0), (28, .istore_n 3, 0, 0, 0), (29, .iload_n 3, 0, 0, 0), (30, .ifCond .ge (5), 35, 0, 0), (33, .iconst 0, 0, 0, 0), (34, .ireturn, 0, 0, 0), (35, .aload_n 1, 0, 0, 0), (36, .iconst 2, 0, 0, 2), (37, .aload_n 0, 0, 0, 0), (38, .invokevirtual 87, 22, 0, 0), (41, .invokevirtual 83, 20, 2, 0), (44, .istore 4, 0, 0, 0), (46, .iload 4, 0, 0, 0), (48, .ifCond .ge (5), 53, 0, 0), (51, .iconst 0, 0, 0, 0), (52, .ireturn, 0, 0, 0), (53, .iload_n 2, 0, 0, 0), (54, .iconst 2, 0, 0, 2), (55, .if_icmp .ne (8), 63, 0, 0), (58, .bipush (-9), 0, 0, (-9)), (60, .goto (20), 80, 0, 0), (63, .aload_n 1, 0, 0, 0), (64, .iconst 2, 0, 0, 2), (65, .aload_n 0, 0, 0, 0), (66, .invokevirtual 87, 22, 0, 0)]
def gk27_1 : List (Nat × gI) := [(69, .iload 4, 0, 0, 0), (71, .invokestatic 91, 23, 1, 0), (74, .iconst (-1), 0, 0, (-1)), (75, .ixor, 0, 0, 0), (76, .iand, 0, 0, 0), (77, .invokevirtual 83, 20, 2, 0), (80, .istore 5, 0, 0, 0), (82, .iload 5, 0, 0, 0), (84, .iconst (-1), 0, 0, (-1)), (85, .if_icmp .ne (5), 90, 0, 0), (88, .iconst 0, 0, 0, 0), (89, .ireturn, 0, 0, 0), (90, .aload_n 0, 0, 0, 0), (91, .dup, 0, 0, 0), (92, .getfield 52, 0, 3, 0), (95, .iconst 1, 0, 0, 1), (96, .iload_n 3, 0, 0, 0), (97, .ishl, 0, 0, 0), (98, .ior, 0, 0, 0), (99, .putfield 52, 0, 3, 0), (102, .aload_n 0, 0, 0, 0), (103, .getfield 9, 0, 6, 0), (106, .iload_n 3, 0, 0, 0), (107, .iload_n 2, 0, 0, 0), (108, .iastore, 0, 0, 0), (109, .aload_n 0, 0, 0, 0), (110, .getfield 15, 0, 7, 0), (113, .iload_n 3, 0, 0, 0), (114, .iload 4, 0, 0, 0), (116, .iastore, 0, 0, 0), (117, .aload_n 0, 0, 0, 0), (118, .getfield 18, 0, 8, 0), (121, .iload_n 3, 0, 0, 0), (122, .iload 5, 0, 0, 0), (124, .iastore, 0, 0, 0), (125, .iconst 1, 0, 0, 1), (126, .ireturn, 0, 0, 0)]
def gk27 : List (Nat × gI) := gk27_0 ++ gk27_1
def gk28_0 : List (Nat × gI) := [(0, .aload_n 1, 0, 0, 0), (1, .iconst 1, 0, 0, 1), (2, .aload_n 0, 0, 0, 0), (3, .getfield 52, 0, 3, 0), (6, .aload_n 0, 0, 0, 0), (7, .getfield 55, 0, 4, 0), (10, .iconst (-1), 0, 0, (-1)), (11, .ixor, 0, 0, 0), (12, .iand, 0, 0, 0), (13, .invokevirtual 83, 20, 2, 0), (16, .istore_n 2, 0, 0, 0), (17, .aload_n 0, 0, 0, 0), (18, .dup, 0, 0, 0), (19, .getfield 55, 0, 4, 0), (22, .iload_n 2, 0, 0, 0), (23, .invokestatic 91, 23, 1, 0), (26, .ior, 0, 0, 0), (27, .putfield 55, 0, 4, 0), (30, .iload_n 2, 0, 0, 0), (31, .ifCond .lt (7), 38, 0, 0), (34, .iconst 1, 0, 0, 1), (35, .goto (4), 39, 0, 0), (38, .iconst 0, 0, 0, 0), (39, .ireturn, 0, 0, 0)]
def gk28 : List (Nat × gI) := gk28_0
def gk29_0 : List (Nat × gI) := [(0, .aload_n 1, 0, 0, 0), (1, .iconst 1, 0, 0, 1), (2, .aload_n 0, 0, 0, 0), (3, .getfield 52, 0, 3, 0), (6, .aload_n 0, 0, 0, 0), (7, .getfield 58, 0, 5, 0), (10, .iconst (-1), 0, 0, (-1)), (11, .ixor, 0, 0, 0), (12, .iand, 0, 0, 0), (13, .invokevirtual 83, 20, 2, 0), (16, .istore_n 2, 0, 0, 0), (17, .aload_n 0, 0, 0, 0), (18, .dup, 0, 0, 0), (19, .getfield 58, 0, 5, 0), (22, .iload_n 2, 0, 0, 0), (23, .invokestatic 91, 23, 1, 0), (26, .ior, 0, 0, 0), (27, .putfield 58, 0, 5, 0), (30, .iload_n 2, 0, 0, 0), (31, .ifCond .lt (7), 38, 0, 0), (34, .iconst 1, 0, 0, 1), (35, .goto (4), 39, 0, 0), (38, .iconst 0, 0, 0, 0), (39, .ireturn, 0, 0, 0)]
def gk29 : List (Nat × gI) := gk29_0
def gk30_0 : List (Nat × gI) := [(0, .aload_n 1, 0, 0, 0), (1, .getfield 32, 2, 4, 0), (4, .iconst 1, 0, 0, 1), (5, .if_icmp .eq (5), 10, 0, 0), (8, .iconst 0, 0, 0, 0), (9, .ireturn, 0, 0, 0), (10, .aload_n 1, 0, 0, 0), (11, .getfield 61, 2, 5, 0), (14, .bipush (97), 0, 0, 97), (16, .iadd, 0, 0, 0), (17, .tableswitch (150) (98) (115) #[117, 138, 111, 131, 150, 150, 150, 124, 150, 144, 150, 150, 87, 150, 150, 150, 150, 105], 0, 0, 0), (104, .iload_n 2, 0, 0, 0), (105, .ifCond .ne (15), 120, 0, 0), (108, .aload_n 0, 0, 0, 0), (109, .aload_n 1, 0, 0, 0), (110, .invokevirtual 64, 21, 1, 0), (113, .ifCond .eq (7), 120, 0, 0), (116, .iconst 1, 0, 0, 1), (117, .goto (4), 121, 0, 0), (120, .iconst 0, 0, 0, 0), (121, .ireturn, 0, 0, 0), (122, .aload_n 0, 0, 0, 0), (123, .aload_n 1, 0, 0, 0), (124, .invokevirtual 68, 24, 1, 0), (127, .ireturn, 0, 0, 0), (128, .aload_n 0, 0, 0, 0), (129, .aload_n 1, 0, 0, 0), (130, .invokevirtual 71, 25, 1, 0), (133, .ireturn, 0, 0, 0), (134, .aload_n 0, 0, 0, 0), (135, .aload_n 1, 0, 0, 0), (136, .iconst 0, 0, 0, 0), (137, .invokevirtual 74, 27, 2, 0), (140, .ireturn, 0, 0, 0), (141, .aload_n 0, 0, 0, 0), (142, .aload_n 1, 0, 0, 0), (143, .iconst 1, 0, 0, 1), (144, .invokevirtual 74, 27, 2, 0), (147, .ireturn, 0, 0, 0), (148, .aload_n 0, 0, 0, 0)]
def gk30_1 : List (Nat × gI) := [(149, .aload_n 1, 0, 0, 0), (150, .iconst 2, 0, 0, 2), (151, .invokevirtual 74, 27, 2, 0), (154, .ireturn, 0, 0, 0), (155, .aload_n 0, 0, 0, 0), (156, .aload_n 1, 0, 0, 0), (157, .invokevirtual 77, 28, 1, 0), (160, .ireturn, 0, 0, 0), (161, .aload_n 0, 0, 0, 0), (162, .aload_n 1, 0, 0, 0), (163, .invokevirtual 80, 29, 1, 0), (166, .ireturn, 0, 0, 0), (167, .iconst 0, 0, 0, 0), (168, .ireturn, 0, 0, 0)]
def gk30 : List (Nat × gI) := gk30_0 ++ gk30_1
def gk31_0 : List (Nat × gI) := [(0, .aload_n 0, 0, 0, 0), (1, .invokevirtual 38, 18, 0, 0), (4, .aload_n 0, 0, 0, 0), (5, .getfield 25, 2, 4, 0), (8, .iconst 3, 0, 0, 3), (9, .if_icmp .ne (7), 16, 0, 0), (12, .iconst 1, 0, 0, 1), (13, .goto (4), 17, 0, 0), (16, .iconst 0, 0, 0, 0), (17, .ireturn, 0, 0, 0)]
def gk31 : List (Nat × gI) := gk31_0
def gk32_0 : List (Nat × gI) := [(0, .aload_n 0, 0, 0, 0), (1, .invokevirtual 21, 14, 0, 0), (4, .aload_n 1, 0, 0, 0), (5, .invokevirtual 24, 15, 0, 0), (8, .iconst 0, 0, 0, 0), (9, .istore_n 2, 0, 0, 0), (10, .iload_n 2, 0, 0, 0), (11, .bipush (120), 0, 0, 120), (13, .if_icmp .gt (40), 53, 0, 0), (16, .aload_n 1, 0, 0, 0), (17, .invokevirtual 29, 18, 0, 0), (20, .aload_n 1, 0, 0, 0), (21, .getfield 32, 2, 4, 0), (24, .ifCond .ne (5), 29, 0, 0), (27, .iload_n 2, 0, 0, 0), (28, .ireturn, 0, 0, 0), (29, .aload_n 0, 0, 0, 0), (30, .aload_n 1, 0, 0, 0), (31, .iload_n 2, 0, 0, 0), (32, .invokevirtual 35, 30, 2, 0), (35, .ifCond .eq (10), 45, 0, 0), (38, .aload_n 1, 0, 0, 0), (39, .invokevirtual 39, 31, 0, 0), (42, .ifCond .ne (5), 47, 0, 0), (45, .iconst (-1), 0, 0, (-1)), (46, .ireturn, 0, 0, 0), (47, .iinc 2 (1), 0, 0, 1), (50, .goto (-40), 10, 0, 0), (53, .iconst (-1), 0, 0, (-1)), (54, .ireturn, 0, 0, 0)]
def gk32 : List (Nat × gI) := gk32_0
def gk33_0 : List (Nat × gI) := [(0, .aload_n 0, 0, 0, 0), (1, .getfield 15, 1, 6, 0), (4, .aload_n 0, 0, 0, 0), (5, .getfield 51, 1, 3, 0), (8, .aload_n 1, 0, 0, 0), (9, .getfield 67, 0, 6, 0), (12, .iload_n 2, 0, 0, 0), (13, .iaload, 0, 0, 0), (14, .iastore, 0, 0, 0), (15, .aload_n 0, 0, 0, 0), (16, .getfield 19, 1, 7, 0), (19, .aload_n 0, 0, 0, 0), (20, .getfield 51, 1, 3, 0), (23, .iload_n 2, 0, 0, 0), (24, .bipush (97), 0, 0, 97), (26, .iadd, 0, 0, 0), (27, .iastore, 0, 0, 0), (28, .aload_n 0, 0, 0, 0), (29, .getfield 22, 1, 8, 0), (32, .aload_n 0, 0, 0, 0), (33, .getfield 51, 1, 3, 0), (36, .aload_n 1, 0, 0, 0), (37, .getfield 75, 0, 7, 0), (40, .iload_n 2, 0, 0, 0), (41, .iaload, 0, 0, 0), (42, .iastore, 0, 0, 0), (43, .aload_n 0, 0, 0, 0), (44, .getfield 25, 1, 9, 0), (47, .aload_n 0, 0, 0, 0), (48, .getfield 51, 1, 3, 0), (51, .aload_n 1, 0, 0, 0), (52, .getfield 76, 0, 8, 0), (55, .iload_n 2, 0, 0, 0), (56, .iaload, 0, 0, 0), (57, .iastore, 0, 0, 0), (58, .aload_n 0, 0, 0, 0), (59, .dup, 0, 0, 0), (60, .getfield 54, 1, 4, 0), (63, .aload_n 1, 0, 0, 0), (64, .getfield 77, 0, 4, 0)]
def gk33_1 : List (Nat × gI) := [(67, .iload_n 2, 0, 0, 0), (68, .invokestatic 63, 19, 2, 0), (71, .aload_n 0, 0, 0, 0), (72, .getfield 51, 1, 3, 0), (75, .ishl, 0, 0, 0), (76, .ior, 0, 0, 0), (77, .putfield 54, 1, 4, 0), (80, .aload_n 0, 0, 0, 0), (81, .dup, 0, 0, 0), (82, .getfield 57, 1, 5, 0), (85, .aload_n 1, 0, 0, 0), (86, .getfield 80, 0, 5, 0), (89, .iload_n 2, 0, 0, 0), (90, .invokestatic 63, 19, 2, 0), (93, .aload_n 0, 0, 0, 0), (94, .getfield 51, 1, 3, 0), (97, .ishl, 0, 0, 0), (98, .ior, 0, 0, 0), (99, .putfield 57, 1, 5, 0), (102, .aload_n 0, 0, 0, 0), (103, .dup, 0, 0, 0), (104, .getfield 51, 1, 3, 0), (107, .iconst 1, 0, 0, 1), (108, .iadd, 0, 0, 0), (109, .putfield 51, 1, 3, 0), (112, .return_, 0, 0, 0)]
def gk33 : List (Nat × gI) := gk33_0 ++ gk33_1
def gk34_0 : List (Nat × gI) := [(0, .iconst 0, 0, 0, 0), (1, .istore_n 2, 0, 0, 0), (2, .aload_n 0, 0, 0, 0), (3, .arraylength, 0, 0, 0), (4, .istore_n 3, 0, 0, 0), (5, .iload_n 2, 0, 0, 0), (6, .iload_n 3, 0, 0, 0), (7, .if_icmp .ge (13), 20, 0, 0), (10, .aload_n 0, 0, 0, 0), (11, .iload_n 2, 0, 0, 0), (12, .iload_n 1, 0, 0, 0), (13, .iastore, 0, 0, 0), (14, .iinc 2 (1), 0, 0, 1), (17, .goto (-12), 5, 0, 0), (20, .return_, 0, 0, 0)]
def gk34 : List (Nat × gI) := gk34_0
def gk35_0 : List (Nat × gI) := [(0, .iconst 1, 0, 0, 1), (1, .aload_n 0, 0, 0, 0), (2, .getfield 51, 1, 3, 0), (5, .ishl, 0, 0, 0), (6, .iconst 1, 0, 0, 1), (7, .isub, 0, 0, 0), (8, .ireturn, 0, 0, 0)]
def gk35 : List (Nat × gI) := gk35_0
def gk36_0 : List (Nat × gI) := [(0, .iconst 0, 0, 0, 0), (1, .istore_n 2, 0, 0, 0), (2, .iload_n 2, 0, 0, 0), (3, .aload_n 0, 0, 0, 0), (4, .getfield 9, 1, 0, 0), (7, .if_icmp .ge (25), 32, 0, 0), (10, .iload_n 1, 0, 0, 0), (11, .iload_n 2, 0, 0, 0), (12, .invokestatic 63, 19, 2, 0), (15, .iconst 1, 0, 0, 1), (16, .if_icmp .ne (10), 26, 0, 0), (19, .aload_n 0, 0, 0, 0), (20, .getfield 37, 1, 13, 0), (23, .iload_n 2, 0, 0, 0), (24, .iload_n 1, 0, 0, 0), (25, .iastore, 0, 0, 0), (26, .iinc 2 (1), 0, 0, 1), (29, .goto (-27), 2, 0, 0), (32, .return_, 0, 0, 0)]
def gk36 : List (Nat × gI) := gk36_0
def gk37_0 : List (Nat × gI) := [(0, .iconst 0, 0, 0, 0), (1, .istore_n 2, 0, 0, 0), (2, .iload_n 2, 0, 0, 0), (3, .aload_n 0, 0, 0, 0), (4, .getfield 9, 1, 0, 0), (7, .if_icmp .ge (18), 25, 0, 0), (10, .aload_n 0, 0, 0, 0), (11, .getfield 37, 1, 13, 0), (14, .iload_n 2, 0, 0, 0), (15, .iconst 1, 0, 0, 1), (16, .iload_n 2, 0, 0, 0), (17, .ishl, 0, 0, 0), (18, .iastore, 0, 0, 0), (19, .iinc 2 (1), 0, 0, 1), (22, .goto (-20), 2, 0, 0), (25, .iconst 0, 0, 0, 0), (26, .istore_n 2, 0, 0, 0), (27, .iload_n 2, 0, 0, 0), (28, .aload_n 0, 0, 0, 0), (29, .getfield 51, 1, 3, 0), (32, .if_icmp .ge (55), 87, 0, 0), (35, .aload_n 0, 0, 0, 0), (36, .getfield 15, 1, 6, 0), (39, .iload_n 2, 0, 0, 0), (40, .iaload, 0, 0, 0), (41, .iconst 2, 0, 0, 2), (42, .if_icmp .eq (39), 81, 0, 0), (45, .iload_n 1, 0, 0, 0), (46, .iload_n 2, 0, 0, 0), (47, .invokestatic 63, 19, 2, 0), (50, .iconst 1, 0, 0, 1), (51, .if_icmp .ne (30), 81, 0, 0), (54, .aload_n 0, 0, 0, 0), (55, .aload_n 0, 0, 0, 0), (56, .getfield 37, 1, 13, 0), (59, .aload_n 0, 0, 0, 0), (60, .getfield 22, 1, 8, 0), (63, .iload_n 2, 0, 0, 0), (64, .iaload, 0, 0, 0), (65, .iaload, 0, 0, 0)]
def gk37_1 : List (Nat × gI) := [(66, .aload_n 0, 0, 0, 0), (67, .getfield 37, 1, 13, 0), (70, .aload_n 0, 0, 0, 0), (71, .getfield 25, 1, 9, 0), (74, .iload_n 2, 0, 0, 0), (75, .iaload, 0, 0, 0), (76, .iaload, 0, 0, 0), (77, .ior, 0, 0, 0), (78, .invokevirtual 108, 36, 1, 0), (81, .iinc 2 (1), 0, 0, 1), (84, .goto (-57), 27, 0, 0), (87, .return_, 0, 0, 0)]
def gk37 : List (Nat × gI) := gk37_0 ++ gk37_1
def gk38_0 : List (Nat × gI) := [(0, .iconst 0, 0, 0, 0), (1, .istore_n 2, 0, 0, 0), (2, .iconst 0, 0, 0, 0), (3, .istore_n 3, 0, 0, 0), (4, .iload_n 3, 0, 0, 0), (5, .aload_n 0, 0, 0, 0), (6, .getfield 9, 1, 0, 0), (9, .if_icmp .ge (27), 36, 0, 0), (12, .iload_n 1, 0, 0, 0), (13, .iload_n 3, 0, 0, 0), (14, .invokestatic 63, 19, 2, 0), (17, .iconst 1, 0, 0, 1), (18, .if_icmp .ne (12), 30, 0, 0), (21, .iload_n 2, 0, 0, 0), (22, .aload_n 0, 0, 0, 0), (23, .getfield 37, 1, 13, 0), (26, .iload_n 3, 0, 0, 0), (27, .iaload, 0, 0, 0), (28, .ior, 0, 0, 0), (29, .istore_n 2, 0, 0, 0), (30, .iinc 3 (1), 0, 0, 1), (33, .goto (-29), 4, 0, 0), (36, .iload_n 2, 0, 0, 0), (37, .ireturn, 0, 0, 0)]
def gk38 : List (Nat × gI) := gk38_0
def gk39_0 : List (Nat × gI) := [(0, .iconst 0, 0, 0, 0), (1, .istore_n 2, 0, 0, 0), (2, .iconst 0, 0, 0, 0), (3, .istore_n 3, 0, 0, 0), (4, .iload_n 3, 0, 0, 0), (5, .aload_n 0, 0, 0, 0), (6, .getfield 51, 1, 3, 0), (9, .if_icmp .ge (39), 48, 0, 0), (12, .aload_n 0, 0, 0, 0), (13, .getfield 15, 1, 6, 0), (16, .iload_n 3, 0, 0, 0), (17, .iaload, 0, 0, 0), (18, .iconst 2, 0, 0, 2), (19, .if_icmp .ne (23), 42, 0, 0), (22, .iload_n 1, 0, 0, 0), (23, .iload_n 3, 0, 0, 0), (24, .invokestatic 63, 19, 2, 0), (27, .iconst 1, 0, 0, 1), (28, .if_icmp .ne (14), 42, 0, 0), (31, .iload_n 2, 0, 0, 0), (32, .iconst 1, 0, 0, 1), (33, .aload_n 0, 0, 0, 0), (34, .getfield 22, 1, 8, 0), (37, .iload_n 3, 0, 0, 0), (38, .iaload, 0, 0, 0), (39, .ishl, 0, 0, 0), (40, .ior, 0, 0, 0), (41, .istore_n 2, 0, 0, 0), (42, .iinc 3 (1), 0, 0, 1), (45, .goto (-41), 4, 0, 0), (48, .iload_n 2, 0, 0, 0), (49, .ireturn, 0, 0, 0)]
def gk39 : List (Nat × gI) := gk39_0
def gk40_0 : List (Nat × gI) := [(0, .aload_n 0, 0, 0, 0), (1, .getfield 22, 1, 8, 0), (4, .iload_n 1, 0, 0, 0), (5, .iaload, 0, 0, 0), (6, .istore 4, 0, 0, 0), (8, .aload_n 0, 0, 0, 0), (9, .getfield 25, 1, 9, 0), (12, .iload_n 1, 0, 0, 0), (13, .iaload, 0, 0, 0), (14, .istore 5, 0, 0, 0), (16, .aload_n 0, 0, 0, 0), (17, .getfield 37, 1, 13, 0), (20, .iload 4, 0, 0, 0), (22, .iaload, 0, 0, 0), (23, .iload 5, 0, 0, 0), (25, .invokestatic 63, 19, 2, 0), (28, .iconst 1, 0, 0, 1), (29, .if_icmp .ne (5), 34, 0, 0), (32, .iconst 0, 0, 0, 0), (33, .ireturn, 0, 0, 0), (34, .iload_n 2, 0, 0, 0), (35, .iload 4, 0, 0, 0), (37, .invokestatic 63, 19, 2, 0), (40, .iconst 1, 0, 0, 1), (41, .if_icmp .ne (15), 56, 0, 0), (44, .iload_n 2, 0, 0, 0), (45, .iload_n 3, 0, 0, 0), (46, .ior, 0, 0, 0), (47, .iload 5, 0, 0, 0), (49, .invokestatic 63, 19, 2, 0), (52, .iconst 1, 0, 0, 1), (53, .if_icmp .eq (23), 76, 0, 0), (56, .iload_n 2, 0, 0, 0), (57, .iload 5, 0, 0, 0), (59, .invokestatic 63, 19, 2, 0), (62, .iconst 1, 0, 0, 1), (63, .if_icmp .ne (17), 80, 0, 0), (66, .iload_n 3, 0, 0, 0), (67, .iload 4, 0, 0, 0), (69, .invokestatic 63, 19, 2, 0)]
def gk40_1 : List (Nat × gI) := [(72, .iconst 1, 0, 0, 1), (73, .if_icmp .ne (7), 80, 0, 0), (76, .iconst 1, 0, 0, 1), (77, .goto (4), 81, 0, 0), (80, .iconst 0, 0, 0, 0), (81, .ireturn, 0, 0, 0)]
def gk40 : List (Nat × gI) := gk40_0 ++ gk40_1
def gk41_0 : List (Nat × gI) := [(0, .iconst 0, 0, 0, 0), (1, .istore_n 3, 0, 0, 0), (2, .iload_n 3, 0, 0, 0), (3, .aload_n 0, 0, 0, 0), (4, .getfield 51, 1, 3, 0), (7, .if_icmp .ge (70), 77, 0, 0), (10, .aload_n 0, 0, 0, 0), (11, .getfield 15, 1, 6, 0), (14, .iload_n 3, 0, 0, 0), (15, .iaload, 0, 0, 0), (16, .iconst 1, 0, 0, 1), (17, .if_icmp .ne (54), 71, 0, 0), (20, .iload_n 1, 0, 0, 0), (21, .iload_n 3, 0, 0, 0), (22, .invokestatic 63, 19, 2, 0), (25, .ifCond .ne (46), 71, 0, 0), (28, .aload_n 0, 0, 0, 0), (29, .iload_n 3, 0, 0, 0), (30, .aload_n 0, 0, 0, 0), (31, .getfield 28, 1, 10, 0), (34, .iload_n 1, 0, 0, 0), (35, .iaload, 0, 0, 0), (36, .iload_n 2, 0, 0, 0), (37, .invokevirtual 111, 40, 3, 0), (40, .ifCond .eq (31), 71, 0, 0), (43, .aload_n 0, 0, 0, 0), (44, .getfield 34, 1, 12, 0), (47, .iload_n 1, 0, 0, 0), (48, .dup2, 0, 0, 0), (49, .iaload, 0, 0, 0), (50, .iconst 1, 0, 0, 1), (51, .iload_n 3, 0, 0, 0), (52, .ishl, 0, 0, 0), (53, .ior, 0, 0, 0), (54, .iastore, 0, 0, 0), (55, .aload_n 0, 0, 0, 0), (56, .getfield 34, 1, 12, 0), (59, .iload_n 1, 0, 0, 0), (60, .iconst 1, 0, 0, 1), (61, .iload_n 3, 0, 0, 0)]
def gk41_1 : List (Nat × gI) := [(62, .ishl, 0, 0, 0), (63, .ior, 0, 0, 0), (64, .dup2, 0, 0, 0), (65, .iaload, 0, 0, 0), (66, .iconst 1, 0, 0, 1), (67, .iload_n 3, 0, 0, 0), (68, .ishl, 0, 0, 0), (69, .ior, 0, 0, 0), (70, .iastore, 0, 0, 0), (71, .iinc 3 (1), 0, 0, 1), (74, .goto (-72), 2, 0, 0), (77, .return_, 0, 0, 0)]
def gk41 : List (Nat × gI) := gk41_0 ++ gk41_1
def gk42_0 : List (Nat × gI) := [(0, .aload_n 0, 0, 0, 0), (1, .getfield 34, 1, 12, 0), (4, .iconst 0, 0, 0, 0), (5, .invokestatic 83, 34, 2, 0), (8, .iconst 0, 0, 0, 0), (9, .istore_n 1, 0, 0, 0), (10, .iload_n 1, 0, 0, 0), (11, .aload_n 0, 0, 0, 0), (12, .invokevirtual 89, 35, 0, 0), (15, .if_icmp .gt (56), 71, 0, 0), (18, .aload_n 0, 0, 0, 0), (19, .iload_n 1, 0, 0, 0), (20, .invokevirtual 93, 37, 1, 0), (23, .aload_n 0, 0, 0, 0), (24, .getfield 28, 1, 10, 0), (27, .iload_n 1, 0, 0, 0), (28, .aload_n 0, 0, 0, 0), (29, .aload_n 0, 0, 0, 0), (30, .getfield 46, 1, 1, 0), (33, .invokevirtual 97, 38, 1, 0), (36, .iastore, 0, 0, 0), (37, .aload_n 0, 0, 0, 0), (38, .getfield 31, 1, 11, 0), (41, .iload_n 1, 0, 0, 0), (42, .aload_n 0, 0, 0, 0), (43, .aload_n 0, 0, 0, 0), (44, .iload_n 1, 0, 0, 0), (45, .invokevirtual 101, 39, 1, 0), (48, .invokevirtual 97, 38, 1, 0), (51, .iastore, 0, 0, 0), (52, .aload_n 0, 0, 0, 0), (53, .iload_n 1, 0, 0, 0), (54, .aload_n 0, 0, 0, 0), (55, .aload_n 0, 0, 0, 0), (56, .getfield 50, 1, 2, 0), (59, .invokevirtual 97, 38, 1, 0), (62, .invokevirtual 104, 41, 2, 0), (65, .iinc 1 (1), 0, 0, 1), (68, .goto (-58), 10, 0, 0), (71, .return_, 0, 0, 0)]
def gk42 : List (Nat × gI) := gk42_0
def gk43_0 : List (Nat × gI) := [(0, .aload_n 0, 0, 0, 0), (1, .aload_n 1, 0, 0, 0), (2, .getfield 40, 0, 0, 0), (5, .putfield 9, 1, 0, 0), (8, .aload_n 0, 0, 0, 0), (9, .aload_n 1, 0, 0, 0), (10, .getfield 43, 0, 1, 0), (13, .putfield 46, 1, 1, 0), (16, .aload_n 0, 0, 0, 0), (17, .aload_n 1, 0, 0, 0), (18, .getfield 47, 0, 2, 0), (21, .putfield 50, 1, 2, 0), (24, .aload_n 0, 0, 0, 0), (25, .iconst 0, 0, 0, 0), (26, .putfield 51, 1, 3, 0), (29, .aload_n 0, 0, 0, 0), (30, .iconst 0, 0, 0, 0), (31, .putfield 54, 1, 4, 0), (34, .aload_n 0, 0, 0, 0), (35, .iconst 0, 0, 0, 0), (36, .putfield 57, 1, 5, 0), (39, .iconst 0, 0, 0, 0), (40, .istore_n 2, 0, 0, 0), (41, .iload_n 2, 0, 0, 0), (42, .iconst 3, 0, 0, 3), (43, .if_icmp .ge (60), 103, 0, 0), (46, .iconst 0, 0, 0, 0), (47, .istore_n 3, 0, 0, 0), (48, .iload_n 3, 0, 0, 0), (49, .bipush (26), 0, 0, 26), (51, .if_icmp .ge (46), 97, 0, 0), (54, .aload_n 1, 0, 0, 0), (55, .getfield 60, 0, 3, 0), (58, .iload_n 3, 0, 0, 0), (59, .invokestatic 63, 19, 2, 0), (62, .iconst 1, 0, 0, 1), (63, .if_icmp .ne (28), 91, 0, 0), (66, .aload_n 1, 0, 0, 0), (67, .getfield 67, 0, 6, 0), (70, .iload_n 3, 0, 0, 0)]
def gk43_1 : List (Nat × gI) := [(71, .iaload, 0, 0, 0), (72, .iload_n 2, 0, 0, 0), (73, .if_icmp .ne (18), 91, 0, 0), (76, .aload_n 0, 0, 0, 0), (77, .getfield 51, 1, 3, 0), (80, .bipush (8), 0, 0, 8), (82, .if_icmp .ge (9), 91, 0, 0), (85, .aload_n 0, 0, 0, 0), (86, .aload_n 1, 0, 0, 0), (87, .iload_n 3, 0, 0, 0), (88, .invokevirtual 68, 33, 2, 0), (91, .iinc 3 (1), 0, 0, 1), (94, .goto (-46), 48, 0, 0), (97, .iinc 2 (1), 0, 0, 1), (100, .goto (-59), 41, 0, 0), (103, .aload_n 0, 0, 0, 0), (104, .invokevirtual 72, 42, 0, 0), (107, .return_, 0, 0, 0)]
def gk43 : List (Nat × gI) := gk43_0 ++ gk43_1
def gk44_0 : List (Nat × gI) := [(0, .aload_n 0, 0, 0, 0), (1, .getfield 28, 1, 10, 0), (4, .iload_n 1, 0, 0, 0), (5, .iaload, 0, 0, 0), (6, .aload_n 0, 0, 0, 0), (7, .getfield 31, 1, 11, 0), (10, .iload_n 1, 0, 0, 0), (11, .iaload, 0, 0, 0), (12, .iand, 0, 0, 0), (13, .ifCond .ne (7), 20, 0, 0), (16, .iconst 1, 0, 0, 1), (17, .goto (4), 21, 0, 0), (20, .iconst 0, 0, 0, 0), (21, .ireturn, 0, 0, 0)]
def gk44 : List (Nat × gI) := gk44_0
def gk45_0 : List (Nat × gI) := [(0, .aload_n 0, 0, 0, 0), (1, .getfield 19, 3, 1, 0), (4, .aload_n 0, 0, 0, 0), (5, .getfield 12, 3, 0, 0), (8, .invokevirtual 62, 32, 1, 0), (11, .istore_n 1, 0, 0, 0), (12, .iload_n 1, 0, 0, 0), (13, .ifCond .ge (14), 27, 0, 0), (16, .bipush (-10), 0, 0, (-10)), (18, .aload_n 0, 0, 0, 0), (19, .getfield 12, 3, 0, 0), (22, .getfield 66, 2, 3, 0), (25, .isub, 0, 0, 0), (26, .ireturn, 0, 0, 0), (27, .aload_n 0, 0, 0, 0), (28, .getfield 30, 3, 3, 0), (31, .aload_n 0, 0, 0, 0), (32, .getfield 19, 3, 1, 0), (35, .invokevirtual 69, 43, 1, 0), (38, .aload_n 0, 0, 0, 0), (39, .getfield 30, 3, 3, 0), (42, .aload_n 0, 0, 0, 0), (43, .getfield 30, 3, 3, 0), (46, .getfield 73, 1, 4, 0), (49, .invokevirtual 76, 44, 1, 0), (52, .ifCond .ne (14), 66, 0, 0), (55, .bipush (-10), 0, 0, (-10)), (57, .aload_n 0, 0, 0, 0), (58, .getfield 12, 3, 0, 0), (61, .getfield 55, 2, 1, 0), (64, .isub, 0, 0, 0), (65, .ireturn, 0, 0, 0), (66, .aload_n 0, 0, 0, 0), (67, .getfield 26, 3, 2, 0), (70, .astore_n 2, 0, 0, 0), (71, .aload_n 0, 0, 0, 0), (72, .aload_n 0, 0, 0, 0), (73, .getfield 30, 3, 3, 0), (76, .putfield 26, 3, 2, 0), (79, .aload_n 0, 0, 0, 0)]
def gk45_1 : List (Nat × gI) := [(80, .aload_n 2, 0, 0, 0), (81, .putfield 30, 3, 3, 0), (84, .aload_n 0, 0, 0, 0), (85, .getfield 12, 3, 0, 0), (88, .iconst 0, 0, 0, 0), (89, .putfield 55, 2, 1, 0), (92, .aload_n 0, 0, 0, 0), (93, .invokevirtual 52, 4, 0, 0), (96, .iload_n 1, 0, 0, 0), (97, .ireturn, 0, 0, 0)]
def gk45 : List (Nat × gI) := gk45_0 ++ gk45_1
def gk46_0 : List (Nat × gI) := [(0, .iload_n 1, 0, 0, 0), (1, .aload_n 0, 0, 0, 0), (2, .getfield 70, 4, 2, 0), (5, .if_icmp .ge (12), 17, 0, 0), (8, .aload_n 0, 0, 0, 0), (9, .getfield 7, 4, 1, 0), (12, .iload_n 1, 0, 0, 0), (13, .iaload, 0, 0, 0), (14, .goto (4), 18, 0, 0), (17, .iconst (-1), 0, 0, (-1)), (18, .ireturn, 0, 0, 0)]
def gk46 : List (Nat × gI) := gk46_0
def gk47_0 : List (Nat × gI) := [(0, .aload_n 0, 0, 0, 0), (1, .aload_n 0, 0, 0, 0), (2, .getfield 73, 4, 3, 0), (5, .invokevirtual 76, 46, 1, 0), (8, .bipush (32), 0, 0, 32), (10, .if_icmp .ne (16), 26, 0, 0), (13, .aload_n 0, 0, 0, 0), (14, .dup, 0, 0, 0), (15, .getfield 73, 4, 3, 0), (18, .iconst 1, 0, 0, 1), (19, .iadd, 0, 0, 0), (20, .putfield 73, 4, 3, 0), (23, .goto (-23), 0, 0, 0), (26, .aload_n 0, 0, 0, 0), (27, .aload_n 0, 0, 0, 0), (28, .getfield 73, 4, 3, 0), (31, .putfield 80, 4, 5, 0), (34, .aload_n 0, 0, 0, 0), (35, .aload_n 0, 0, 0, 0), (36, .getfield 73, 4, 3, 0), (39, .invokevirtual 76, 46, 1, 0), (42, .istore_n 1, 0, 0, 0), (43, .iload_n 1, 0, 0, 0), (44, .ifCond .ge (11), 55, 0, 0), (47, .aload_n 0, 0, 0, 0), (48, .iconst 0, 0, 0, 0), (49, .putfield 83, 4, 4, 0), (52, .goto (174), 226, 0, 0), (55, .iload_n 1, 0, 0, 0), (56, .bipush (48), 0, 0, 48), (58, .bipush (57), 0, 0, 57), (60, .invokestatic 66, 10, 3, 0), (63, .ifCond .eq (118), 181, 0, 0), (66, .aload_n 0, 0, 0, 0), (67, .iconst 0, 0, 0, 0), (68, .putfield 86, 4, 6, 0), (71, .aload_n 0, 0, 0, 0), (72, .aload_n 0, 0, 0, 0), (73, .getfield 73, 4, 3, 0), (76, .invokevirtual 76, 46, 1, 0)]
def gk47_1 : List (Nat × gI) := [(79, .bipush (48), 0, 0, 48), (81, .bipush (57), 0, 0, 57), (83, .invokestatic 66, 10, 3, 0), (86, .ifCond .eq (55), 141, 0, 0), (89, .aload_n 0, 0, 0, 0), (90, .aload_n 0, 0, 0, 0), (91, .getfield 86, 4, 6, 0), (94, .bipush (99), 0, 0, 99), (96, .if_icmp .le (10), 106, 0, 0), (99, .aload_n 0, 0, 0, 0), (100, .getfield 86, 4, 6, 0), (103, .goto (22), 125, 0, 0), (106, .bipush (10), 0, 0, 10), (108, .aload_n 0, 0, 0, 0), (109, .getfield 86, 4, 6, 0), (112, .imul, 0, 0, 0), (113, .aload_n 0, 0, 0, 0), (114, .aload_n 0, 0, 0, 0), (115, .getfield 73, 4, 3, 0), (118, .invokevirtual 76, 46, 1, 0), (121, .iadd, 0, 0, 0), (122, .bipush (48), 0, 0, 48), (124, .isub, 0, 0, 0), (125, .putfield 86, 4, 6, 0), (128, .aload_n 0, 0, 0, 0), (129, .dup, 0, 0, 0), (130, .getfield 73, 4, 3, 0), (133, .iconst 1, 0, 0, 1), (134, .iadd, 0, 0, 0), (135, .putfield 73, 4, 3, 0), (138, .goto (-67), 71, 0, 0), (141, .aload_n 0, 0, 0, 0), (142, .aload_n 0, 0, 0, 0), (143, .getfield 86, 4, 6, 0), (146, .bipush (99), 0, 0, 99), (148, .if_icmp .gt (22), 170, 0, 0), (151, .iload_n 1, 0, 0, 0), (152, .bipush (48), 0, 0, 48), (154, .if_icmp .ne (20), 174, 0, 0), (157, .aload_n 0, 0, 0, 0)]
def gk47_2 : List (Nat × gI) := [(158, .getfield 73, 4, 3, 0), (161, .aload_n 0, 0, 0, 0), (162, .getfield 80, 4, 5, 0), (165, .isub, 0, 0, 0), (166, .iconst 1, 0, 0, 1), (167, .if_icmp .le (7), 174, 0, 0), (170, .iconst 4, 0, 0, 4), (171, .goto (4), 175, 0, 0), (174, .iconst 2, 0, 0, 2), (175, .putfield 83, 4, 4, 0), (178, .goto (48), 226, 0, 0), (181, .aload_n 0, 0, 0, 0), (182, .dup, 0, 0, 0), (183, .getfield 73, 4, 3, 0), (186, .iconst 1, 0, 0, 1), (187, .iadd, 0, 0, 0), (188, .putfield 73, 4, 3, 0), (191, .aload_n 0, 0, 0, 0), (192, .iload_n 1, 0, 0, 0), (193, .putfield 86, 4, 6, 0), (196, .aload_n 0, 0, 0, 0), (197, .iload_n 1, 0, 0, 0), (198, .bipush (59), 0, 0, 59), (200, .if_icmp .ne (7), 207, 0, 0), (203, .iconst 3, 0, 0, 3), (204, .goto (19), 223, 0, 0), (207, .iload_n 1, 0, 0, 0), (208, .bipush (97), 0, 0, 97), (210, .bipush (122), 0, 0, 122), (212, .invokestatic 66, 10, 3, 0), (215, .ifCond .eq (7), 222, 0, 0), (218, .iconst 1, 0, 0, 1), (219, .goto (4), 223, 0, 0), (222, .iconst 4, 0, 0, 4), (223, .putfield 83, 4, 4, 0), (226, .return_, 0, 0, 0)]
def gk47 : List (Nat × gI) := gk47_0 ++ gk47_1 ++ gk47_2
def gk48_0 : List (Nat × gI) := [(0, .aload_n 0, 0, 0, 0), (1, .getfield 89, 4, 7, 0), (4, .ifCond .ge (7), 11, 0, 0), (7, .iconst 1, 0, 0, 1), (8, .goto (4), 12, 0, 0), (11, .iconst 0, 0, 0, 0), (12, .ireturn, 0, 0, 0)]
def gk48 : List (Nat × gI) := gk48_0
def gk49_0 : List (Nat × gI) := [(0, .aload_n 0, 0, 0, 0), (1, .getfield 86, 4, 6, 0), (4, .bipush (98), 0, 0, 98), (6, .if_icmp .eq (21), 27, 0, 0), (9, .aload_n 0, 0, 0, 0), (10, .getfield 86, 4, 6, 0), (13, .bipush (105), 0, 0, 105), (15, .if_icmp .eq (12), 27, 0, 0), (18, .aload_n 0, 0, 0, 0), (19, .getfield 86, 4, 6, 0), (22, .bipush (101), 0, 0, 101), (24, .if_icmp .ne (7), 31, 0, 0), (27, .iconst 1, 0, 0, 1), (28, .goto (4), 32, 0, 0), (31, .iconst 0, 0, 0, 0), (32, .istore_n 2, 0, 0, 0), (33, .iload_n 2, 0, 0, 0), (34, .ifCond .eq (22), 56, 0, 0), (37, .aload_n 0, 0, 0, 0), (38, .getfield 16, 4, 9, 0), (41, .iconst 3, 0, 0, 3), (42, .iaload, 0, 0, 0), (43, .bipush (8), 0, 0, 8), (45, .if_icmp .ge (7), 52, 0, 0), (48, .iconst 1, 0, 0, 1), (49, .goto (69), 118, 0, 0), (52, .iconst 0, 0, 0, 0), (53, .goto (65), 118, 0, 0), (56, .aload_n 0, 0, 0, 0), (57, .getfield 86, 4, 6, 0), (60, .bipush (110), 0, 0, 110), (62, .if_icmp .ne (15), 77, 0, 0), (65, .iload_n 1, 0, 0, 0), (66, .ifCond .ne (7), 73, 0, 0), (69, .iconst 1, 0, 0, 1), (70, .goto (48), 118, 0, 0), (73, .iconst 0, 0, 0, 0), (74, .goto (44), 118, 0, 0), (77, .aload_n 0, 0, 0, 0), (78, .getfield 86, 4, 6, 0)]
def gk49_1 : List (Nat × gI) := [(81, .bipush (115), 0, 0, 115), (83, .if_icmp .eq (30), 113, 0, 0), (86, .aload_n 0, 0, 0, 0), (87, .getfield 86, 4, 6, 0), (90, .bipush (100), 0, 0, 100), (92, .if_icmp .eq (21), 113, 0, 0), (95, .aload_n 0, 0, 0, 0), (96, .getfield 86, 4, 6, 0), (99, .bipush (99), 0, 0, 99), (101, .if_icmp .eq (12), 113, 0, 0), (104, .aload_n 0, 0, 0, 0), (105, .getfield 86, 4, 6, 0), (108, .bipush (107), 0, 0, 107), (110, .if_icmp .ne (7), 117, 0, 0), (113, .iconst 1, 0, 0, 1), (114, .goto (4), 118, 0, 0), (117, .iconst 0, 0, 0, 0), (118, .ireturn, 0, 0, 0)]
def gk49 : List (Nat × gI) := gk49_0 ++ gk49_1
def gk50_0 : List (Nat × gI) := [(0, .aload_n 0, 0, 0, 0), (1, .invokevirtual 92, 48, 0, 0), (4, .ifCond .ne (5), 9, 0, 0), (7, .iconst 0, 0, 0, 0), (8, .ireturn, 0, 0, 0), (9, .iload_n 1, 0, 0, 0), (10, .ifCond .ne (13), 23, 0, 0), (13, .aload_n 0, 0, 0, 0), (14, .aload_n 0, 0, 0, 0), (15, .getfield 80, 4, 5, 0), (18, .putfield 89, 4, 7, 0), (21, .iconst 0, 0, 0, 0), (22, .ireturn, 0, 0, 0), (23, .aload_n 0, 0, 0, 0), (24, .getfield 86, 4, 6, 0), (27, .istore_n 2, 0, 0, 0), (28, .aload_n 0, 0, 0, 0), (29, .invokevirtual 96, 47, 0, 0), (32, .iload_n 2, 0, 0, 0), (33, .ireturn, 0, 0, 0)]
def gk50 : List (Nat × gI) := gk50_0
def gk51_0 : List (Nat × gI) := [(0, .aload_n 0, 0, 0, 0), (1, .getfield 83, 4, 4, 0), (4, .iconst 2, 0, 0, 2), (5, .if_icmp .ne (19), 24, 0, 0), (8, .aload_n 0, 0, 0, 0), (9, .getfield 86, 4, 6, 0), (12, .iload_n 1, 0, 0, 0), (13, .iload_n 2, 0, 0, 0), (14, .invokestatic 66, 10, 3, 0), (17, .ifCond .eq (7), 24, 0, 0), (20, .iconst 1, 0, 0, 1), (21, .goto (4), 25, 0, 0), (24, .iconst 0, 0, 0, 0), (25, .ireturn, 0, 0, 0)]
def gk51 : List (Nat × gI) := gk51_0
def gk52_0 : List (Nat × gI) := [(0, .bipush (-9), 0, 0, (-9)), (2, .istore_n 2, 0, 0, 0), (3, .iconst 0, 0, 0, 0), (4, .istore_n 3, 0, 0, 0), (5, .iload_n 3, 0, 0, 0), (6, .aload_n 0, 0, 0, 0), (7, .iconst 3, 0, 0, 3), (8, .iaload, 0, 0, 0), (9, .if_icmp .ge (25), 34, 0, 0), (12, .aload_n 0, 0, 0, 0), (13, .bipush (12), 0, 0, 12), (15, .iload_n 3, 0, 0, 0), (16, .iadd, 0, 0, 0), (17, .iaload, 0, 0, 0), (18, .iload_n 1, 0, 0, 0), (19, .if_icmp .ne (7), 26, 0, 0), (22, .iload_n 3, 0, 0, 0), (23, .goto (4), 27, 0, 0), (26, .iload_n 2, 0, 0, 0), (27, .istore_n 2, 0, 0, 0), (28, .iinc 3 (1), 0, 0, 1), (31, .goto (-26), 5, 0, 0), (34, .iload_n 2, 0, 0, 0), (35, .ireturn, 0, 0, 0)]
def gk52 : List (Nat × gI) := gk52_0
def gk53_0 : List (Nat × gI) := [(0, .iload_n 0, 0, 0, 0), (1, .iload_n 1, 0, 0, 0), (2, .ishr, 0, 0, 0), (3, .iconst 1, 0, 0, 1), (4, .iand, 0, 0, 0), (5, .iconst 1, 0, 0, 1), (6, .if_icmp .ne (7), 13, 0, 0), (9, .iconst 1, 0, 0, 1), (10, .goto (4), 14, 0, 0), (13, .iconst 0, 0, 0, 0), (14, .ireturn, 0, 0, 0)]
def gk53 : List (Nat × gI) := gk53_0
def gk54_0 : List (Nat × gI) := [(0, .iload_n 2, 0, 0, 0), (1, .ifCond .eq (30), 31, 0, 0), (4, .aload_n 0, 0, 0, 0), (5, .getfield 83, 4, 4, 0), (8, .iconst 1, 0, 0, 1), (9, .if_icmp .ne (17), 26, 0, 0), (12, .aload_n 0, 0, 0, 0), (13, .getfield 16, 4, 9, 0), (16, .aload_n 0, 0, 0, 0), (17, .getfield 86, 4, 6, 0), (20, .invokestatic 99, 52, 2, 0), (23, .goto (33), 56, 0, 0), (26, .bipush (-9), 0, 0, (-9)), (28, .goto (28), 56, 0, 0), (31, .aload_n 0, 0, 0, 0), (32, .iconst 0, 0, 0, 0), (33, .aload_n 0, 0, 0, 0), (34, .getfield 16, 4, 9, 0), (37, .iconst 0, 0, 0, 0), (38, .iaload, 0, 0, 0), (39, .iconst 1, 0, 0, 1), (40, .isub, 0, 0, 0), (41, .invokevirtual 107, 51, 2, 0), (44, .ifCond .eq (10), 54, 0, 0), (47, .aload_n 0, 0, 0, 0), (48, .getfield 86, 4, 6, 0), (51, .goto (5), 56, 0, 0), (54, .bipush (-9), 0, 0, (-9)), (56, .istore_n 3, 0, 0, 0), (57, .iload_n 3, 0, 0, 0), (58, .bipush (-9), 0, 0, (-9)), (60, .if_icmp .eq (15), 75, 0, 0), (63, .iload_n 1, 0, 0, 0), (64, .iload_n 3, 0, 0, 0), (65, .invokestatic 111, 53, 2, 0), (68, .ifCond .ne (7), 75, 0, 0), (71, .iconst 1, 0, 0, 1), (72, .goto (4), 76, 0, 0), (75, .iconst 0, 0, 0, 0), (76, .istore 4, 0, 0, 0)]
def gk54_1 : List (Nat × gI) := [(78, .aload_n 0, 0, 0, 0), (79, .iload 4, 0, 0, 0), (81, .invokevirtual 103, 50, 1, 0), (84, .pop, 0, 0, 0), (85, .iload 4, 0, 0, 0), (87, .ifCond .eq (11), 98, 0, 0), (90, .iload_n 1, 0, 0, 0), (91, .iconst 1, 0, 0, 1), (92, .iload_n 3, 0, 0, 0), (93, .ishl, 0, 0, 0), (94, .ior, 0, 0, 0), (95, .goto (4), 99, 0, 0), (98, .iload_n 1, 0, 0, 0), (99, .ireturn, 0, 0, 0)]
def gk54 : List (Nat × gI) := gk54_0 ++ gk54_1
def gk55_0 : List (Nat × gI) := [(0, .aload_n 0, 0, 0, 0), (1, .getfield 16, 4, 9, 0), (4, .iconst 3, 0, 0, 3), (5, .iaload, 0, 0, 0), (6, .istore_n 2, 0, 0, 0), (7, .aload_n 0, 0, 0, 0), (8, .getfield 16, 4, 9, 0), (11, .iconst 4, 0, 0, 4), (12, .iload_n 2, 0, 0, 0), (13, .iadd, 0, 0, 0), (14, .iload_n 1, 0, 0, 0), (15, .bipush (98), 0, 0, 98), (17, .if_icmp .ne (7), 24, 0, 0), (20, .iconst 0, 0, 0, 0), (21, .goto (14), 35, 0, 0), (24, .iload_n 1, 0, 0, 0), (25, .bipush (105), 0, 0, 105), (27, .if_icmp .ne (7), 34, 0, 0), (30, .iconst 1, 0, 0, 1), (31, .goto (4), 35, 0, 0), (34, .iconst 2, 0, 0, 2), (35, .iastore, 0, 0, 0), (36, .aload_n 0, 0, 0, 0), (37, .getfield 16, 4, 9, 0), (40, .bipush (12), 0, 0, 12), (42, .iload_n 2, 0, 0, 0), (43, .iadd, 0, 0, 0), (44, .aload_n 0, 0, 0, 0), (45, .aload_n 0, 0, 0, 0), (46, .getfield 83, 4, 4, 0), (49, .iconst 1, 0, 0, 1), (50, .if_icmp .ne (23), 73, 0, 0), (53, .aload_n 0, 0, 0, 0), (54, .getfield 16, 4, 9, 0), (57, .aload_n 0, 0, 0, 0), (58, .getfield 86, 4, 6, 0), (61, .invokestatic 99, 52, 2, 0), (64, .bipush (-9), 0, 0, (-9)), (66, .if_icmp .ne (7), 73, 0, 0), (69, .iconst 1, 0, 0, 1)]
def gk55_1 : List (Nat × gI) := [(70, .goto (4), 74, 0, 0), (73, .iconst 0, 0, 0, 0), (74, .invokevirtual 103, 50, 1, 0), (77, .iastore, 0, 0, 0), (78, .aload_n 0, 0, 0, 0), (79, .getfield 16, 4, 9, 0), (82, .bipush (20), 0, 0, 20), (84, .iload_n 2, 0, 0, 0), (85, .iadd, 0, 0, 0), (86, .aload_n 0, 0, 0, 0), (87, .aload_n 0, 0, 0, 0), (88, .iconst 0, 0, 0, 0), (89, .aload_n 0, 0, 0, 0), (90, .getfield 16, 4, 9, 0), (93, .iconst 0, 0, 0, 0), (94, .iaload, 0, 0, 0), (95, .iconst 1, 0, 0, 1), (96, .isub, 0, 0, 0), (97, .invokevirtual 107, 51, 2, 0), (100, .invokevirtual 103, 50, 1, 0), (103, .iastore, 0, 0, 0), (104, .aload_n 0, 0, 0, 0), (105, .getfield 16, 4, 9, 0), (108, .bipush (28), 0, 0, 28), (110, .iload_n 2, 0, 0, 0), (111, .iadd, 0, 0, 0), (112, .iload_n 1, 0, 0, 0), (113, .bipush (101), 0, 0, 101), (115, .if_icmp .ne (8), 123, 0, 0), (118, .bipush (-9), 0, 0, (-9)), (120, .goto (44), 164, 0, 0), (123, .aload_n 0, 0, 0, 0), (124, .aload_n 0, 0, 0, 0), (125, .iconst 0, 0, 0, 0), (126, .aload_n 0, 0, 0, 0), (127, .getfield 16, 4, 9, 0), (130, .iconst 0, 0, 0, 0), (131, .iaload, 0, 0, 0), (132, .iconst 1, 0, 0, 1), (133, .isub, 0, 0, 0)]
def gk55_2 : List (Nat × gI) := [(134, .invokevirtual 107, 51, 2, 0), (137, .ifCond .eq (23), 160, 0, 0), (140, .aload_n 0, 0, 0, 0), (141, .getfield 86, 4, 6, 0), (144, .aload_n 0, 0, 0, 0), (145, .getfield 16, 4, 9, 0), (148, .bipush (20), 0, 0, 20), (150, .iload_n 2, 0, 0, 0), (151, .iadd, 0, 0, 0), (152, .iaload, 0, 0, 0), (153, .if_icmp .eq (7), 160, 0, 0), (156, .iconst 1, 0, 0, 1), (157, .goto (4), 161, 0, 0), (160, .iconst 0, 0, 0, 0), (161, .invokevirtual 103, 50, 1, 0), (164, .iastore, 0, 0, 0), (165, .aload_n 0, 0, 0, 0), (166, .getfield 16, 4, 9, 0), (169, .iconst 3, 0, 0, 3), (170, .dup2, 0, 0, 0), (171, .iaload, 0, 0, 0), (172, .iconst 1, 0, 0, 1), (173, .iadd, 0, 0, 0), (174, .iastore, 0, 0, 0), (175, .return_, 0, 0, 0)]
def gk55 : List (Nat × gI) := gk55_0 ++ gk55_1 ++ gk55_2
def gk56_0 : List (Nat × gI) := [(0, .iload_n 1, 0, 0, 0), (1, .bipush (110), 0, 0, 110), (3, .if_icmp .ne (23), 26, 0, 0), (6, .aload_n 0, 0, 0, 0), (7, .getfield 16, 4, 9, 0), (10, .iconst 0, 0, 0, 0), (11, .aload_n 0, 0, 0, 0), (12, .aload_n 0, 0, 0, 0), (13, .iconst 2, 0, 0, 2), (14, .bipush (6), 0, 0, 6), (16, .invokevirtual 107, 51, 2, 0), (19, .invokevirtual 103, 50, 1, 0), (22, .iastore, 0, 0, 0), (23, .goto (112), 135, 0, 0), (26, .iload_n 1, 0, 0, 0), (27, .bipush (115), 0, 0, 115), (29, .if_icmp .ne (23), 52, 0, 0), (32, .aload_n 0, 0, 0, 0), (33, .getfield 16, 4, 9, 0), (36, .iconst 1, 0, 0, 1), (37, .aload_n 0, 0, 0, 0), (38, .aload_n 0, 0, 0, 0), (39, .getfield 16, 4, 9, 0), (42, .iconst 1, 0, 0, 1), (43, .iaload, 0, 0, 0), (44, .iconst 0, 0, 0, 0), (45, .invokevirtual 114, 54, 2, 0), (48, .iastore, 0, 0, 0), (49, .goto (86), 135, 0, 0), (52, .iload_n 1, 0, 0, 0), (53, .bipush (100), 0, 0, 100), (55, .if_icmp .ne (23), 78, 0, 0), (58, .aload_n 0, 0, 0, 0), (59, .getfield 16, 4, 9, 0), (62, .iconst 2, 0, 0, 2), (63, .aload_n 0, 0, 0, 0), (64, .aload_n 0, 0, 0, 0), (65, .getfield 16, 4, 9, 0), (68, .iconst 2, 0, 0, 2), (69, .iaload, 0, 0, 0)]
def gk56_1 : List (Nat × gI) := [(70, .iconst 0, 0, 0, 0), (71, .invokevirtual 114, 54, 2, 0), (74, .iastore, 0, 0, 0), (75, .goto (60), 135, 0, 0), (78, .iload_n 1, 0, 0, 0), (79, .bipush (99), 0, 0, 99), (81, .if_icmp .ne (23), 104, 0, 0), (84, .aload_n 0, 0, 0, 0), (85, .getfield 19, 4, 10, 0), (88, .iconst 0, 0, 0, 0), (89, .aload_n 0, 0, 0, 0), (90, .aload_n 0, 0, 0, 0), (91, .getfield 19, 4, 10, 0), (94, .iconst 0, 0, 0, 0), (95, .iaload, 0, 0, 0), (96, .iconst 1, 0, 0, 1), (97, .invokevirtual 114, 54, 2, 0), (100, .iastore, 0, 0, 0), (101, .goto (34), 135, 0, 0), (104, .iload_n 1, 0, 0, 0), (105, .bipush (107), 0, 0, 107), (107, .if_icmp .ne (23), 130, 0, 0), (110, .aload_n 0, 0, 0, 0), (111, .getfield 19, 4, 10, 0), (114, .iconst 1, 0, 0, 1), (115, .aload_n 0, 0, 0, 0), (116, .aload_n 0, 0, 0, 0), (117, .getfield 19, 4, 10, 0), (120, .iconst 1, 0, 0, 1), (121, .iaload, 0, 0, 0), (122, .iconst 1, 0, 0, 1), (123, .invokevirtual 114, 54, 2, 0), (126, .iastore, 0, 0, 0), (127, .goto (8), 135, 0, 0), (130, .aload_n 0, 0, 0, 0), (131, .iload_n 1, 0, 0, 0), (132, .invokevirtual 118, 55, 1, 0), (135, .return_, 0, 0, 0)]
def gk56 : List (Nat × gI) := gk56_0 ++ gk56_1
def gk57_0 : List (Nat × gI) := [(0, .iconst 4, 0, 0, 4), (1, .istore_n 2, 0, 0, 0), (2, .iload_n 2, 0, 0, 0), (3, .bipush (36), 0, 0, 36), (5, .if_icmp .ge (47), 52, 0, 0), (8, .aload_n 0, 0, 0, 0), (9, .getfield 16, 4, 9, 0), (12, .iload_n 2, 0, 0, 0), (13, .iload_n 1, 0, 0, 0), (14, .iadd, 0, 0, 0), (15, .iaload, 0, 0, 0), (16, .istore_n 3, 0, 0, 0), (17, .aload_n 0, 0, 0, 0), (18, .getfield 16, 4, 9, 0), (21, .iload_n 2, 0, 0, 0), (22, .iload_n 1, 0, 0, 0), (23, .iadd, 0, 0, 0), (24, .aload_n 0, 0, 0, 0), (25, .getfield 16, 4, 9, 0), (28, .iload_n 2, 0, 0, 0), (29, .iload_n 1, 0, 0, 0), (30, .iadd, 0, 0, 0), (31, .iconst 1, 0, 0, 1), (32, .iadd, 0, 0, 0), (33, .iaload, 0, 0, 0), (34, .iastore, 0, 0, 0), (35, .aload_n 0, 0, 0, 0), (36, .getfield 16, 4, 9, 0), (39, .iload_n 2, 0, 0, 0), (40, .iload_n 1, 0, 0, 0), (41, .iadd, 0, 0, 0), (42, .iconst 1, 0, 0, 1), (43, .iadd, 0, 0, 0), (44, .iload_n 3, 0, 0, 0), (45, .iastore, 0, 0, 0), (46, .iinc 2 (8), 0, 0, 8), (49, .goto (-47), 2, 0, 0), (52, .iconst 0, 0, 0, 0), (53, .istore_n 2, 0, 0, 0), (54, .iload_n 2, 0, 0, 0)]
def gk57_1 : List (Nat × gI) := [(55, .iconst 1, 0, 0, 1), (56, .if_icmp .gt (46), 102, 0, 0), (59, .aload_n 0, 0, 0, 0), (60, .getfield 19, 4, 10, 0), (63, .iload_n 2, 0, 0, 0), (64, .iaload, 0, 0, 0), (65, .iload_n 1, 0, 0, 0), (66, .invokestatic 111, 53, 2, 0), (69, .aload_n 0, 0, 0, 0), (70, .getfield 19, 4, 10, 0), (73, .iload_n 2, 0, 0, 0), (74, .iaload, 0, 0, 0), (75, .iload_n 1, 0, 0, 0), (76, .iconst 1, 0, 0, 1), (77, .iadd, 0, 0, 0), (78, .invokestatic 111, 53, 2, 0), (81, .if_icmp .eq (15), 96, 0, 0), (84, .aload_n 0, 0, 0, 0), (85, .getfield 19, 4, 10, 0), (88, .iload_n 2, 0, 0, 0), (89, .dup2, 0, 0, 0), (90, .iaload, 0, 0, 0), (91, .iconst 3, 0, 0, 3), (92, .iload_n 1, 0, 0, 0), (93, .ishl, 0, 0, 0), (94, .ixor, 0, 0, 0), (95, .iastore, 0, 0, 0), (96, .iinc 2 (1), 0, 0, 1), (99, .goto (-45), 54, 0, 0), (102, .return_, 0, 0, 0)]
def gk57 : List (Nat × gI) := gk57_0 ++ gk57_1
def gk58_0 : List (Nat × gI) := [(0, .iconst 0, 0, 0, 0), (1, .istore_n 1, 0, 0, 0), (2, .iload_n 1, 0, 0, 0), (3, .aload_n 0, 0, 0, 0), (4, .getfield 16, 4, 9, 0), (7, .iconst 3, 0, 0, 3), (8, .iaload, 0, 0, 0), (9, .if_icmp .ge (83), 92, 0, 0), (12, .iconst 0, 0, 0, 0), (13, .istore_n 2, 0, 0, 0), (14, .iload_n 2, 0, 0, 0), (15, .iconst 1, 0, 0, 1), (16, .iadd, 0, 0, 0), (17, .aload_n 0, 0, 0, 0), (18, .getfield 16, 4, 9, 0), (21, .iconst 3, 0, 0, 3), (22, .iaload, 0, 0, 0), (23, .if_icmp .ge (63), 86, 0, 0), (26, .bipush (100), 0, 0, 100), (28, .aload_n 0, 0, 0, 0), (29, .getfield 16, 4, 9, 0), (32, .iconst 4, 0, 0, 4), (33, .iload_n 2, 0, 0, 0), (34, .iadd, 0, 0, 0), (35, .iaload, 0, 0, 0), (36, .imul, 0, 0, 0), (37, .aload_n 0, 0, 0, 0), (38, .getfield 16, 4, 9, 0), (41, .bipush (12), 0, 0, 12), (43, .iload_n 2, 0, 0, 0), (44, .iadd, 0, 0, 0), (45, .iaload, 0, 0, 0), (46, .iadd, 0, 0, 0), (47, .bipush (100), 0, 0, 100), (49, .aload_n 0, 0, 0, 0), (50, .getfield 16, 4, 9, 0), (53, .iconst 4, 0, 0, 4), (54, .iload_n 2, 0, 0, 0), (55, .iadd, 0, 0, 0), (56, .iconst 1, 0, 0, 1)]
def gk58_1 : List (Nat × gI) := [(57, .iadd, 0, 0, 0), (58, .iaload, 0, 0, 0), (59, .imul, 0, 0, 0), (60, .aload_n 0, 0, 0, 0), (61, .getfield 16, 4, 9, 0), (64, .bipush (12), 0, 0, 12), (66, .iload_n 2, 0, 0, 0), (67, .iadd, 0, 0, 0), (68, .iconst 1, 0, 0, 1), (69, .iadd, 0, 0, 0), (70, .iaload, 0, 0, 0), (71, .iadd, 0, 0, 0), (72, .if_icmp .le (8), 80, 0, 0), (75, .aload_n 0, 0, 0, 0), (76, .iload_n 2, 0, 0, 0), (77, .invokevirtual 122, 57, 1, 0), (80, .iinc 2 (1), 0, 0, 1), (83, .goto (-69), 14, 0, 0), (86, .iinc 1 (1), 0, 0, 1), (89, .goto (-87), 2, 0, 0), (92, .return_, 0, 0, 0)]
def gk58 : List (Nat × gI) := gk58_0 ++ gk58_1
def gk59_0 : List (Nat × gI) := [(0, .iconst 0, 0, 0, 0), (1, .istore_n 3, 0, 0, 0), (2, .iload_n 3, 0, 0, 0), (3, .aload_n 1, 0, 0, 0), (4, .iconst 0, 0, 0, 0), (5, .iaload, 0, 0, 0), (6, .if_icmp .ge (16), 22, 0, 0), (9, .aload_n 0, 0, 0, 0), (10, .getfield 44, 4, 21, 0), (13, .iload_n 3, 0, 0, 0), (14, .iload_n 3, 0, 0, 0), (15, .iastore, 0, 0, 0), (16, .iinc 3 (1), 0, 0, 1), (19, .goto (-17), 2, 0, 0), (22, .iconst 0, 0, 0, 0), (23, .istore_n 3, 0, 0, 0), (24, .iload_n 3, 0, 0, 0), (25, .aload_n 1, 0, 0, 0), (26, .iconst 0, 0, 0, 0), (27, .iaload, 0, 0, 0), (28, .if_icmp .ge (117), 145, 0, 0), (31, .iconst 0, 0, 0, 0), (32, .istore 4, 0, 0, 0), (34, .iload 4, 0, 0, 0), (36, .aload_n 1, 0, 0, 0), (37, .iconst 3, 0, 0, 3), (38, .iaload, 0, 0, 0), (39, .if_icmp .ge (100), 139, 0, 0), (42, .iload_n 2, 0, 0, 0), (43, .iload 4, 0, 0, 0), (45, .invokestatic 111, 53, 2, 0), (48, .ifCond .eq (85), 133, 0, 0), (51, .aload_n 1, 0, 0, 0), (52, .iconst 4, 0, 0, 4), (53, .iload 4, 0, 0, 0), (55, .iadd, 0, 0, 0), (56, .iaload, 0, 0, 0), (57, .iconst 2, 0, 0, 2), (58, .if_icmp .eq (75), 133, 0, 0), (61, .aload_n 1, 0, 0, 0)]
def gk59_1 : List (Nat × gI) := [(62, .bipush (20), 0, 0, 20), (64, .iload 4, 0, 0, 0), (66, .iadd, 0, 0, 0), (67, .iaload, 0, 0, 0), (68, .istore 5, 0, 0, 0), (70, .aload_n 1, 0, 0, 0), (71, .bipush (28), 0, 0, 28), (73, .iload 4, 0, 0, 0), (75, .iadd, 0, 0, 0), (76, .iaload, 0, 0, 0), (77, .istore 6, 0, 0, 0), (79, .aload_n 0, 0, 0, 0), (80, .getfield 44, 4, 21, 0), (83, .iload 5, 0, 0, 0), (85, .iaload, 0, 0, 0), (86, .aload_n 0, 0, 0, 0), (87, .getfield 44, 4, 21, 0), (90, .iload 6, 0, 0, 0), (92, .iaload, 0, 0, 0), (93, .if_icmp .ge (13), 106, 0, 0), (96, .aload_n 0, 0, 0, 0), (97, .getfield 44, 4, 21, 0), (100, .iload 5, 0, 0, 0), (102, .iaload, 0, 0, 0), (103, .goto (10), 113, 0, 0), (106, .aload_n 0, 0, 0, 0), (107, .getfield 44, 4, 21, 0), (110, .iload 6, 0, 0, 0), (112, .iaload, 0, 0, 0), (113, .istore 7, 0, 0, 0), (115, .aload_n 0, 0, 0, 0), (116, .getfield 44, 4, 21, 0), (119, .iload 5, 0, 0, 0), (121, .iload 7, 0, 0, 0), (123, .iastore, 0, 0, 0), (124, .aload_n 0, 0, 0, 0), (125, .getfield 44, 4, 21, 0), (128, .iload 6, 0, 0, 0), (130, .iload 7, 0, 0, 0), (132, .iastore, 0, 0, 0)]
def gk59_2 : List (Nat × gI) := [(133, .iinc 4 (1), 0, 0, 1), (136, .goto (-102), 34, 0, 0), (139, .iinc 3 (1), 0, 0, 1), (142, .goto (-118), 24, 0, 0), (145, .return_, 0, 0, 0)]
def gk59 : List (Nat × gI) := gk59_0 ++ gk59_1 ++ gk59_2
def gk60_0 : List (Nat × gI) := [(0, .iconst 0, 0, 0, 0), (1, .istore_n 3, 0, 0, 0), (2, .iconst 0, 0, 0, 0), (3, .istore 4, 0, 0, 0), (5, .iload 4, 0, 0, 0), (7, .aload_n 1, 0, 0, 0), (8, .iconst 0, 0, 0, 0), (9, .iaload, 0, 0, 0), (10, .if_icmp .ge (63), 73, 0, 0), (13, .iconst 0, 0, 0, 0), (14, .istore 5, 0, 0, 0), (16, .iload 5, 0, 0, 0), (18, .aload_n 1, 0, 0, 0), (19, .iconst 0, 0, 0, 0), (20, .iaload, 0, 0, 0), (21, .if_icmp .ge (46), 67, 0, 0), (24, .iload_n 3, 0, 0, 0), (25, .iload_n 2, 0, 0, 0), (26, .iload 5, 0, 0, 0), (28, .invokestatic 111, 53, 2, 0), (31, .ifCond .eq (27), 58, 0, 0), (34, .aload_n 0, 0, 0, 0), (35, .getfield 44, 4, 21, 0), (38, .iload 4, 0, 0, 0), (40, .iaload, 0, 0, 0), (41, .aload_n 0, 0, 0, 0), (42, .getfield 44, 4, 21, 0), (45, .iload 5, 0, 0, 0), (47, .iaload, 0, 0, 0), (48, .if_icmp .ne (10), 58, 0, 0), (51, .iconst 1, 0, 0, 1), (52, .iload 4, 0, 0, 0), (54, .ishl, 0, 0, 0), (55, .goto (4), 59, 0, 0), (58, .iconst 0, 0, 0, 0), (59, .ior, 0, 0, 0), (60, .istore_n 3, 0, 0, 0), (61, .iinc 5 (1), 0, 0, 1), (64, .goto (-48), 16, 0, 0), (67, .iinc 4 (1), 0, 0, 1)]
def gk60_1 : List (Nat × gI) := [(70, .goto (-65), 5, 0, 0), (73, .iload_n 3, 0, 0, 0), (74, .ireturn, 0, 0, 0)]
def gk60 : List (Nat × gI) := gk60_0 ++ gk60_1
def gk61_0 : List (Nat × gI) := [(0, .aload_n 0, 0, 0, 0), (1, .aload_n 1, 0, 0, 0), (2, .iload_n 2, 0, 0, 0), (3, .invokevirtual 150, 59, 2, 0), (6, .aload_n 0, 0, 0, 0), (7, .aload_n 1, 0, 0, 0), (8, .aload_n 1, 0, 0, 0), (9, .iconst 1, 0, 0, 1), (10, .iaload, 0, 0, 0), (11, .invokevirtual 154, 60, 2, 0), (14, .ireturn, 0, 0, 0)]
def gk61 : List (Nat × gI) := gk61_0
def gk62_0 : List (Nat × gI) := [(0, .aload_n 0, 0, 0, 0), (1, .aload_n 1, 0, 0, 0), (2, .iload_n 2, 0, 0, 0), (3, .invokevirtual 150, 59, 2, 0), (6, .iconst 0, 0, 0, 0), (7, .istore_n 3, 0, 0, 0), (8, .iconst 0, 0, 0, 0), (9, .istore 4, 0, 0, 0), (11, .iload 4, 0, 0, 0), (13, .aload_n 1, 0, 0, 0), (14, .iconst 3, 0, 0, 3), (15, .iaload, 0, 0, 0), (16, .if_icmp .ge (44), 60, 0, 0), (19, .iload_n 3, 0, 0, 0), (20, .iload_n 2, 0, 0, 0), (21, .iload 4, 0, 0, 0), (23, .invokestatic 111, 53, 2, 0), (26, .ifCond .eq (25), 51, 0, 0), (29, .aload_n 1, 0, 0, 0), (30, .iconst 4, 0, 0, 4), (31, .iload 4, 0, 0, 0), (33, .iadd, 0, 0, 0), (34, .iaload, 0, 0, 0), (35, .iconst 2, 0, 0, 2), (36, .if_icmp .ne (15), 51, 0, 0), (39, .iconst 1, 0, 0, 1), (40, .aload_n 1, 0, 0, 0), (41, .bipush (20), 0, 0, 20), (43, .iload 4, 0, 0, 0), (45, .iadd, 0, 0, 0), (46, .iaload, 0, 0, 0), (47, .ishl, 0, 0, 0), (48, .goto (4), 52, 0, 0), (51, .iconst 0, 0, 0, 0), (52, .ior, 0, 0, 0), (53, .istore_n 3, 0, 0, 0), (54, .iinc 4 (1), 0, 0, 1), (57, .goto (-46), 11, 0, 0), (60, .aload_n 0, 0, 0, 0), (61, .aload_n 1, 0, 0, 0)]
def gk62_1 : List (Nat × gI) := [(62, .iload_n 3, 0, 0, 0), (63, .invokevirtual 154, 60, 2, 0), (66, .ireturn, 0, 0, 0)]
def gk62 : List (Nat × gI) := gk62_0 ++ gk62_1
def gk63_0 : List (Nat × gI) := [(0, .aload_n 0, 0, 0, 0), (1, .iconst 0, 0, 0, 0), (2, .putfield 62, 4, 0, 0), (5, .aload_n 0, 0, 0, 0), (6, .iconst (-1), 0, 0, (-1)), (7, .putfield 89, 4, 7, 0), (10, .aload_n 0, 0, 0, 0), (11, .iconst 0, 0, 0, 0), (12, .putfield 73, 4, 3, 0), (15, .aload_n 0, 0, 0, 0), (16, .invokevirtual 56, 6, 0, 0), (19, .iconst 0, 0, 0, 0), (20, .istore_n 1, 0, 0, 0), (21, .aload_n 0, 0, 0, 0), (22, .invokevirtual 96, 47, 0, 0), (25, .aload_n 0, 0, 0, 0), (26, .invokevirtual 92, 48, 0, 0), (29, .ifCond .eq (72), 101, 0, 0), (32, .aload_n 0, 0, 0, 0), (33, .getfield 83, 4, 4, 0), (36, .ifCond .eq (65), 101, 0, 0), (39, .aload_n 0, 0, 0, 0), (40, .aload_n 0, 0, 0, 0), (41, .getfield 83, 4, 4, 0), (44, .iconst 1, 0, 0, 1), (45, .if_icmp .ne (15), 60, 0, 0), (48, .aload_n 0, 0, 0, 0), (49, .iload_n 1, 0, 0, 0), (50, .invokevirtual 125, 49, 1, 0), (53, .ifCond .eq (7), 60, 0, 0), (56, .iconst 1, 0, 0, 1), (57, .goto (4), 61, 0, 0), (60, .iconst 0, 0, 0, 0), (61, .invokevirtual 103, 50, 1, 0), (64, .istore_n 2, 0, 0, 0), (65, .aload_n 0, 0, 0, 0), (66, .invokevirtual 92, 48, 0, 0), (69, .ifCond .eq (8), 77, 0, 0), (72, .aload_n 0, 0, 0, 0), (73, .iload_n 2, 0, 0, 0)]
def gk63_1 : List (Nat × gI) := [(74, .invokevirtual 129, 56, 1, 0), (77, .aload_n 0, 0, 0, 0), (78, .aload_n 0, 0, 0, 0), (79, .getfield 83, 4, 4, 0), (82, .iconst 3, 0, 0, 3), (83, .if_icmp .ne (7), 90, 0, 0), (86, .iconst 1, 0, 0, 1), (87, .goto (4), 91, 0, 0), (90, .iconst 0, 0, 0, 0), (91, .invokevirtual 103, 50, 1, 0), (94, .pop, 0, 0, 0), (95, .iinc 1 (1), 0, 0, 1), (98, .goto (-73), 25, 0, 0), (101, .aload_n 0, 0, 0, 0), (102, .invokevirtual 92, 48, 0, 0), (105, .ifCond .eq (54), 159, 0, 0), (108, .aload_n 0, 0, 0, 0), (109, .invokevirtual 132, 58, 0, 0), (112, .aload_n 0, 0, 0, 0), (113, .aload_n 0, 0, 0, 0), (114, .aload_n 0, 0, 0, 0), (115, .getfield 16, 4, 9, 0), (118, .aload_n 0, 0, 0, 0), (119, .getfield 19, 4, 10, 0), (122, .iconst 0, 0, 0, 0), (123, .iaload, 0, 0, 0), (124, .invokevirtual 135, 61, 2, 0), (127, .aload_n 0, 0, 0, 0), (128, .aload_n 0, 0, 0, 0), (129, .getfield 16, 4, 9, 0), (132, .aload_n 0, 0, 0, 0), (133, .getfield 19, 4, 10, 0), (136, .iconst 0, 0, 0, 0), (137, .iaload, 0, 0, 0), (138, .invokevirtual 138, 62, 2, 0), (141, .iand, 0, 0, 0), (142, .ifCond .ne (10), 152, 0, 0), (145, .aload_n 0, 0, 0, 0), (146, .getfield 89, 4, 7, 0), (149, .goto (7), 156, 0, 0)]
def gk63_2 : List (Nat × gI) := [(152, .aload_n 0, 0, 0, 0), (153, .getfield 70, 4, 2, 0), (156, .putfield 89, 4, 7, 0), (159, .aload_n 0, 0, 0, 0), (160, .invokevirtual 92, 48, 0, 0), (163, .ifCond .ne (11), 174, 0, 0), (166, .bipush (-10), 0, 0, (-10)), (168, .aload_n 0, 0, 0, 0), (169, .getfield 89, 4, 7, 0), (172, .isub, 0, 0, 0), (173, .ireturn, 0, 0, 0), (174, .aload_n 0, 0, 0, 0), (175, .invokevirtual 59, 7, 0, 0), (178, .iload_n 1, 0, 0, 0), (179, .ireturn, 0, 0, 0)]
def gk63 : List (Nat × gI) := gk63_0 ++ gk63_1 ++ gk63_2
def gk64_0 : List (Nat × gI) := [(0, .iload_n 1, 0, 0, 0), (1, .ifCond .lt (18), 19, 0, 0), (4, .iload_n 1, 0, 0, 0), (5, .aload_n 0, 0, 0, 0), (6, .getfield 26, 3, 2, 0), (9, .getfield 112, 1, 3, 0), (12, .if_icmp .ge (7), 19, 0, 0), (15, .iconst 1, 0, 0, 1), (16, .goto (4), 20, 0, 0), (19, .iconst 0, 0, 0, 0), (20, .ireturn, 0, 0, 0)]
def gk64 : List (Nat × gI) := gk64_0
def gk65_0 : List (Nat × gI) := [(0, .aload_n 0, 0, 0, 0), (1, .getfield 34, 1, 12, 0), (4, .iload_n 1, 0, 0, 0), (5, .iaload, 0, 0, 0), (6, .iload_n 2, 0, 0, 0), (7, .invokestatic 63, 19, 2, 0), (10, .iconst 1, 0, 0, 1), (11, .if_icmp .ne (5), 16, 0, 0), (14, .iconst 2, 0, 0, 2), (15, .ireturn, 0, 0, 0), (16, .aload_n 0, 0, 0, 0), (17, .iload_n 1, 0, 0, 0), (18, .iconst 1, 0, 0, 1), (19, .iload_n 2, 0, 0, 0), (20, .ishl, 0, 0, 0), (21, .ixor, 0, 0, 0), (22, .invokevirtual 115, 44, 1, 0), (25, .ifCond .eq (7), 32, 0, 0), (28, .iconst 0, 0, 0, 0), (29, .goto (4), 33, 0, 0), (32, .iconst 3, 0, 0, 3), (33, .ireturn, 0, 0, 0)]
def gk65 : List (Nat × gI) := gk65_0
def gk66_0 : List (Nat × gI) := [(0, .aload_n 0, 0, 0, 0), (1, .getfield 102, 3, 5, 0), (4, .iload_n 1, 0, 0, 0), (5, .invokestatic 98, 19, 2, 0), (8, .iconst 1, 0, 0, 1), (9, .if_icmp .ne (7), 16, 0, 0), (12, .iconst 1, 0, 0, 1), (13, .goto (15), 28, 0, 0), (16, .aload_n 0, 0, 0, 0), (17, .getfield 26, 3, 2, 0), (20, .aload_n 0, 0, 0, 0), (21, .getfield 95, 3, 4, 0), (24, .iload_n 1, 0, 0, 0), (25, .invokevirtual 225, 65, 2, 0), (28, .ireturn, 0, 0, 0)]
def gk66 : List (Nat × gI) := gk66_0
def gk67_0 : List (Nat × gI) := [(0, .aload_n 0, 0, 0, 0), (1, .iload_n 1, 0, 0, 0), (2, .invokevirtual 80, 64, 1, 0), (5, .ifCond .ne (5), 10, 0, 0), (8, .iconst (-1), 0, 0, (-1)), (9, .ireturn, 0, 0, 0), (10, .iload_n 2, 0, 0, 0), (11, .tableswitch (105) (0) (6) #[41, 51, 61, 71, 81, 90, 99], 0, 0, 0), (52, .aload_n 0, 0, 0, 0), (53, .getfield 26, 3, 2, 0), (56, .getfield 83, 1, 6, 0), (59, .iload_n 1, 0, 0, 0), (60, .iaload, 0, 0, 0), (61, .ireturn, 0, 0, 0), (62, .aload_n 0, 0, 0, 0), (63, .getfield 26, 3, 2, 0), (66, .getfield 86, 1, 7, 0), (69, .iload_n 1, 0, 0, 0), (70, .iaload, 0, 0, 0), (71, .ireturn, 0, 0, 0), (72, .aload_n 0, 0, 0, 0), (73, .getfield 26, 3, 2, 0), (76, .getfield 89, 1, 8, 0), (79, .iload_n 1, 0, 0, 0), (80, .iaload, 0, 0, 0), (81, .ireturn, 0, 0, 0), (82, .aload_n 0, 0, 0, 0), (83, .getfield 26, 3, 2, 0), (86, .getfield 92, 1, 9, 0), (89, .iload_n 1, 0, 0, 0), (90, .iaload, 0, 0, 0), (91, .ireturn, 0, 0, 0), (92, .aload_n 0, 0, 0, 0), (93, .getfield 95, 3, 4, 0), (96, .iload_n 1, 0, 0, 0), (97, .invokestatic 98, 19, 2, 0), (100, .ireturn, 0, 0, 0), (101, .aload_n 0, 0, 0, 0), (102, .getfield 102, 3, 5, 0), (105, .iload_n 1, 0, 0, 0)]
def gk67_1 : List (Nat × gI) := [(106, .invokestatic 98, 19, 2, 0), (109, .ireturn, 0, 0, 0), (110, .aload_n 0, 0, 0, 0), (111, .iload_n 1, 0, 0, 0), (112, .invokevirtual 105, 66, 1, 0), (115, .ireturn, 0, 0, 0), (116, .iconst (-1), 0, 0, (-1)), (117, .ireturn, 0, 0, 0)]
def gk67 : List (Nat × gI) := gk67_0 ++ gk67_1
def gk68_0 : List (Nat × gI) := [(0, .iload_n 1, 0, 0, 0), (1, .iconst 0, 0, 0, 0), (2, .aload_n 0, 0, 0, 0), (3, .getfield 13, 4, 8, 0), (6, .iconst 3, 0, 0, 3), (7, .iaload, 0, 0, 0), (8, .iconst 1, 0, 0, 1), (9, .isub, 0, 0, 0), (10, .invokestatic 66, 10, 3, 0), (13, .ireturn, 0, 0, 0)]
def gk68 : List (Nat × gI) := gk68_0
def gk69_0 : List (Nat × gI) := [(0, .iconst 0, 0, 0, 0), (1, .istore_n 2, 0, 0, 0), (2, .iconst 0, 0, 0, 0), (3, .istore_n 3, 0, 0, 0), (4, .iload_n 3, 0, 0, 0), (5, .aload_n 0, 0, 0, 0), (6, .getfield 13, 4, 8, 0), (9, .iconst 0, 0, 0, 0), (10, .iaload, 0, 0, 0), (11, .if_icmp .ge (47), 58, 0, 0), (14, .iload_n 2, 0, 0, 0), (15, .ifCond .ne (31), 46, 0, 0), (18, .aload_n 0, 0, 0, 0), (19, .getfield 44, 4, 21, 0), (22, .iload_n 3, 0, 0, 0), (23, .iaload, 0, 0, 0), (24, .aload_n 0, 0, 0, 0), (25, .getfield 44, 4, 21, 0), (28, .iload_n 1, 0, 0, 0), (29, .iaload, 0, 0, 0), (30, .if_icmp .ne (20), 50, 0, 0), (33, .aload_n 0, 0, 0, 0), (34, .getfield 13, 4, 8, 0), (37, .iconst 2, 0, 0, 2), (38, .iaload, 0, 0, 0), (39, .iload_n 3, 0, 0, 0), (40, .invokestatic 111, 53, 2, 0), (43, .ifCond .eq (7), 50, 0, 0), (46, .iconst 1, 0, 0, 1), (47, .goto (4), 51, 0, 0), (50, .iconst 0, 0, 0, 0), (51, .istore_n 2, 0, 0, 0), (52, .iinc 3 (1), 0, 0, 1), (55, .goto (-51), 4, 0, 0), (58, .iload_n 2, 0, 0, 0), (59, .ireturn, 0, 0, 0)]
def gk69 : List (Nat × gI) := gk69_0
def gk70_0 : List (Nat × gI) := [(0, .aload_n 0, 0, 0, 0), (1, .getfield 22, 4, 11, 0), (4, .iconst 1, 0, 0, 1), (5, .iaload, 0, 0, 0), (6, .iload_n 1, 0, 0, 0), (7, .invokestatic 111, 53, 2, 0), (10, .ifCond .eq (5), 15, 0, 0), (13, .iconst 1, 0, 0, 1), (14, .ireturn, 0, 0, 0), (15, .aload_n 0, 0, 0, 0), (16, .getfield 13, 4, 8, 0), (19, .iconst 4, 0, 0, 4), (20, .iload_n 1, 0, 0, 0), (21, .iadd, 0, 0, 0), (22, .iaload, 0, 0, 0), (23, .iconst 1, 0, 0, 1), (24, .if_icmp .ne (113), 137, 0, 0), (27, .aload_n 0, 0, 0, 0), (28, .getfield 13, 4, 8, 0), (31, .bipush (20), 0, 0, 20), (33, .iload_n 1, 0, 0, 0), (34, .iadd, 0, 0, 0), (35, .iaload, 0, 0, 0), (36, .istore_n 3, 0, 0, 0), (37, .aload_n 0, 0, 0, 0), (38, .getfield 13, 4, 8, 0), (41, .bipush (28), 0, 0, 28), (43, .iload_n 1, 0, 0, 0), (44, .iadd, 0, 0, 0), (45, .iaload, 0, 0, 0), (46, .istore 4, 0, 0, 0), (48, .aload_n 0, 0, 0, 0), (49, .aload_n 0, 0, 0, 0), (50, .getfield 13, 4, 8, 0), (53, .iload_n 2, 0, 0, 0), (54, .iconst 1, 0, 0, 1), (55, .iload_n 1, 0, 0, 0), (56, .ishl, 0, 0, 0), (57, .iconst (-1), 0, 0, (-1)), (58, .ixor, 0, 0, 0)]
def gk70_1 : List (Nat × gI) := [(59, .iand, 0, 0, 0), (60, .invokevirtual 135, 61, 2, 0), (63, .istore 5, 0, 0, 0), (65, .iload 5, 0, 0, 0), (67, .iload_n 3, 0, 0, 0), (68, .invokestatic 111, 53, 2, 0), (71, .istore 6, 0, 0, 0), (73, .iload 5, 0, 0, 0), (75, .iload 4, 0, 0, 0), (77, .invokestatic 111, 53, 2, 0), (80, .istore 7, 0, 0, 0), (82, .aload_n 0, 0, 0, 0), (83, .getfield 44, 4, 21, 0), (86, .iload_n 3, 0, 0, 0), (87, .iaload, 0, 0, 0), (88, .aload_n 0, 0, 0, 0), (89, .getfield 44, 4, 21, 0), (92, .iload 4, 0, 0, 0), (94, .iaload, 0, 0, 0), (95, .if_icmp .eq (42), 137, 0, 0), (98, .iload 6, 0, 0, 0), (100, .ifCond .eq (8), 108, 0, 0), (103, .iload 7, 0, 0, 0), (105, .ifCond .ne (30), 135, 0, 0), (108, .iload 6, 0, 0, 0), (110, .ifCond .eq (12), 122, 0, 0), (113, .aload_n 0, 0, 0, 0), (114, .iload 4, 0, 0, 0), (116, .invokevirtual 157, 69, 1, 0), (119, .ifCond .ne (16), 135, 0, 0), (122, .iload 7, 0, 0, 0), (124, .ifCond .eq (13), 137, 0, 0), (127, .aload_n 0, 0, 0, 0), (128, .iload_n 3, 0, 0, 0), (129, .invokevirtual 157, 69, 1, 0), (132, .ifCond .eq (5), 137, 0, 0), (135, .iconst 2, 0, 0, 2), (136, .ireturn, 0, 0, 0), (137, .iload_n 2, 0, 0, 0), (138, .iconst 1, 0, 0, 1)]
def gk70_2 : List (Nat × gI) := [(139, .iload_n 1, 0, 0, 0), (140, .ishl, 0, 0, 0), (141, .ixor, 0, 0, 0), (142, .istore_n 3, 0, 0, 0), (143, .aload_n 0, 0, 0, 0), (144, .aload_n 0, 0, 0, 0), (145, .getfield 13, 4, 8, 0), (148, .iload_n 3, 0, 0, 0), (149, .invokevirtual 135, 61, 2, 0), (152, .aload_n 0, 0, 0, 0), (153, .aload_n 0, 0, 0, 0), (154, .getfield 13, 4, 8, 0), (157, .iload_n 3, 0, 0, 0), (158, .invokevirtual 138, 62, 2, 0), (161, .iand, 0, 0, 0), (162, .ifCond .ne (7), 169, 0, 0), (165, .iconst 0, 0, 0, 0), (166, .goto (4), 170, 0, 0), (169, .iconst 3, 0, 0, 3), (170, .ireturn, 0, 0, 0)]
def gk70 : List (Nat × gI) := gk70_0 ++ gk70_1 ++ gk70_2
def gk71_0 : List (Nat × gI) := [(0, .aload_n 0, 0, 0, 0), (1, .iconst 0, 0, 0, 0), (2, .putfield 62, 4, 0, 0), (5, .aload_n 0, 0, 0, 0), (6, .iload_n 1, 0, 0, 0), (7, .invokevirtual 160, 68, 1, 0), (10, .ifCond .eq (13), 23, 0, 0), (13, .iload_n 2, 0, 0, 0), (14, .iconst 0, 0, 0, 0), (15, .bipush (6), 0, 0, 6), (17, .invokestatic 66, 10, 3, 0), (20, .ifCond .ne (5), 25, 0, 0), (23, .iconst (-1), 0, 0, (-1)), (24, .ireturn, 0, 0, 0), (25, .iload_n 2, 0, 0, 0), (26, .iconst 4, 0, 0, 4), (27, .if_icmp .ge (62), 89, 0, 0), (30, .iload_n 2, 0, 0, 0), (31, .ifCond .ne (14), 45, 0, 0), (34, .aload_n 0, 0, 0, 0), (35, .getfield 13, 4, 8, 0), (38, .iconst 4, 0, 0, 4), (39, .iload_n 1, 0, 0, 0), (40, .iadd, 0, 0, 0), (41, .iaload, 0, 0, 0), (42, .goto (46), 88, 0, 0), (45, .iload_n 2, 0, 0, 0), (46, .iconst 1, 0, 0, 1), (47, .if_icmp .ne (15), 62, 0, 0), (50, .aload_n 0, 0, 0, 0), (51, .getfield 13, 4, 8, 0), (54, .bipush (12), 0, 0, 12), (56, .iload_n 1, 0, 0, 0), (57, .iadd, 0, 0, 0), (58, .iaload, 0, 0, 0), (59, .goto (29), 88, 0, 0), (62, .iload_n 2, 0, 0, 0), (63, .iconst 2, 0, 0, 2), (64, .if_icmp .ne (15), 79, 0, 0), (67, .aload_n 0, 0, 0, 0)]
def gk71_1 : List (Nat × gI) := [(68, .getfield 13, 4, 8, 0), (71, .bipush (20), 0, 0, 20), (73, .iload_n 1, 0, 0, 0), (74, .iadd, 0, 0, 0), (75, .iaload, 0, 0, 0), (76, .goto (12), 88, 0, 0), (79, .aload_n 0, 0, 0, 0), (80, .getfield 13, 4, 8, 0), (83, .bipush (28), 0, 0, 28), (85, .iload_n 1, 0, 0, 0), (86, .iadd, 0, 0, 0), (87, .iaload, 0, 0, 0), (88, .ireturn, 0, 0, 0), (89, .iload_n 2, 0, 0, 0), (90, .iconst 4, 0, 0, 4), (91, .if_icmp .ne (16), 107, 0, 0), (94, .aload_n 0, 0, 0, 0), (95, .getfield 22, 4, 11, 0), (98, .iconst 0, 0, 0, 0), (99, .iaload, 0, 0, 0), (100, .iload_n 1, 0, 0, 0), (101, .ishr, 0, 0, 0), (102, .iconst 1, 0, 0, 1), (103, .iand, 0, 0, 0), (104, .goto (32), 136, 0, 0), (107, .iload_n 2, 0, 0, 0), (108, .iconst 5, 0, 0, 5), (109, .if_icmp .ne (16), 125, 0, 0), (112, .aload_n 0, 0, 0, 0), (113, .getfield 22, 4, 11, 0), (116, .iconst 1, 0, 0, 1), (117, .iaload, 0, 0, 0), (118, .iload_n 1, 0, 0, 0), (119, .ishr, 0, 0, 0), (120, .iconst 1, 0, 0, 1), (121, .iand, 0, 0, 0), (122, .goto (14), 136, 0, 0), (125, .aload_n 0, 0, 0, 0), (126, .iload_n 1, 0, 0, 0), (127, .aload_n 0, 0, 0, 0)]
def gk71_2 : List (Nat × gI) := [(128, .getfield 22, 4, 11, 0), (131, .iconst 0, 0, 0, 0), (132, .iaload, 0, 0, 0), (133, .invokevirtual 163, 70, 2, 0), (136, .ireturn, 0, 0, 0)]
def gk71 : List (Nat × gI) := gk71_0 ++ gk71_1 ++ gk71_2
def gk72_0 : List (Nat × gI) := [(0, .iload_n 1, 0, 0, 0), (1, .invokestatic 109, 17, 1, 0), (4, .ifCond .ne (5), 9, 0, 0), (7, .iconst (-1), 0, 0, (-1)), (8, .ireturn, 0, 0, 0), (9, .iconst 0, 0, 0, 0), (10, .istore_n 2, 0, 0, 0), (11, .iload_n 2, 0, 0, 0), (12, .aload_n 0, 0, 0, 0), (13, .getfield 26, 3, 2, 0), (16, .getfield 112, 1, 3, 0), (19, .if_icmp .ge (24), 43, 0, 0), (22, .aload_n 0, 0, 0, 0), (23, .getfield 26, 3, 2, 0), (26, .getfield 86, 1, 7, 0), (29, .iload_n 2, 0, 0, 0), (30, .iaload, 0, 0, 0), (31, .iload_n 1, 0, 0, 0), (32, .if_icmp .ne (5), 37, 0, 0), (35, .iload_n 2, 0, 0, 0), (36, .ireturn, 0, 0, 0), (37, .iinc 2 (1), 0, 0, 1), (40, .goto (-29), 11, 0, 0), (43, .bipush (-9), 0, 0, (-9)), (45, .ireturn, 0, 0, 0)]
def gk72 : List (Nat × gI) := gk72_0
def gk73_0 : List (Nat × gI) := [(0, .aload_n 0, 0, 0, 0), (1, .iconst 0, 0, 0, 0), (2, .putfield 62, 4, 0, 0), (5, .iload_n 1, 0, 0, 0), (6, .bipush (97), 0, 0, 97), (8, .bipush (122), 0, 0, 122), (10, .invokestatic 66, 10, 3, 0), (13, .ifCond .eq (14), 27, 0, 0), (16, .aload_n 0, 0, 0, 0), (17, .getfield 13, 4, 8, 0), (20, .iload_n 1, 0, 0, 0), (21, .invokestatic 99, 52, 2, 0), (24, .goto (4), 28, 0, 0), (27, .iconst (-1), 0, 0, (-1)), (28, .ireturn, 0, 0, 0)]
def gk73 : List (Nat × gI) := gk73_0
def gk74_0 : List (Nat × gI) := [(0, .iload_n 1, 0, 0, 0), (1, .ifCond .lt (18), 19, 0, 0), (4, .iload_n 1, 0, 0, 0), (5, .aload_n 0, 0, 0, 0), (6, .getfield 26, 3, 2, 0), (9, .getfield 202, 1, 0, 0), (12, .if_icmp .ge (7), 19, 0, 0), (15, .iconst 1, 0, 0, 1), (16, .goto (4), 20, 0, 0), (19, .iconst 0, 0, 0, 0), (20, .ireturn, 0, 0, 0)]
def gk74 : List (Nat × gI) := gk74_0
def gk75_0 : List (Nat × gI) := [(0, .aload_n 0, 0, 0, 0), (1, .iload_n 1, 0, 0, 0), (2, .invokevirtual 93, 37, 1, 0), (5, .iconst 0, 0, 0, 0), (6, .istore_n 3, 0, 0, 0), (7, .iload_n 3, 0, 0, 0), (8, .iload_n 2, 0, 0, 0), (9, .if_icmp .ge (22), 31, 0, 0), (12, .aload_n 0, 0, 0, 0), (13, .getfield 37, 1, 13, 0), (16, .iload_n 2, 0, 0, 0), (17, .iaload, 0, 0, 0), (18, .iload_n 3, 0, 0, 0), (19, .invokestatic 63, 19, 2, 0), (22, .ifCond .ne (9), 31, 0, 0), (25, .iinc 3 (1), 0, 0, 1), (28, .goto (-21), 7, 0, 0), (31, .iload_n 3, 0, 0, 0), (32, .ireturn, 0, 0, 0)]
def gk75 : List (Nat × gI) := gk75_0
def gk76_0 : List (Nat × gI) := [(0, .aload_n 0, 0, 0, 0), (1, .iload_n 1, 0, 0, 0), (2, .invokevirtual 115, 74, 1, 0), (5, .ifCond .ne (5), 10, 0, 0), (8, .iconst (-1), 0, 0, (-1)), (9, .ireturn, 0, 0, 0), (10, .iload_n 2, 0, 0, 0), (11, .tableswitch (104) (0) (4) #[33, 50, 67, 80, 92], 0, 0, 0), (44, .aload_n 0, 0, 0, 0), (45, .getfield 26, 3, 2, 0), (48, .getfield 118, 1, 10, 0), (51, .aload_n 0, 0, 0, 0), (52, .getfield 95, 3, 4, 0), (55, .iaload, 0, 0, 0), (56, .iload_n 1, 0, 0, 0), (57, .invokestatic 98, 19, 2, 0), (60, .ireturn, 0, 0, 0), (61, .aload_n 0, 0, 0, 0), (62, .getfield 26, 3, 2, 0), (65, .getfield 121, 1, 11, 0), (68, .aload_n 0, 0, 0, 0), (69, .getfield 95, 3, 4, 0), (72, .iaload, 0, 0, 0), (73, .iload_n 1, 0, 0, 0), (74, .invokestatic 98, 19, 2, 0), (77, .ireturn, 0, 0, 0), (78, .aload_n 0, 0, 0, 0), (79, .getfield 26, 3, 2, 0), (82, .aload_n 0, 0, 0, 0), (83, .getfield 95, 3, 4, 0), (86, .iload_n 1, 0, 0, 0), (87, .invokevirtual 124, 75, 2, 0), (90, .ireturn, 0, 0, 0), (91, .aload_n 0, 0, 0, 0), (92, .getfield 26, 3, 2, 0), (95, .getfield 127, 1, 1, 0), (98, .iload_n 1, 0, 0, 0), (99, .invokestatic 98, 19, 2, 0), (102, .ireturn, 0, 0, 0), (103, .aload_n 0, 0, 0, 0)]
def gk76_1 : List (Nat × gI) := [(104, .getfield 26, 3, 2, 0), (107, .getfield 130, 1, 2, 0), (110, .iload_n 1, 0, 0, 0), (111, .invokestatic 98, 19, 2, 0), (114, .ireturn, 0, 0, 0), (115, .iconst (-1), 0, 0, (-1)), (116, .ireturn, 0, 0, 0)]
def gk76 : List (Nat × gI) := gk76_0 ++ gk76_1
def gk77_0 : List (Nat × gI) := [(0, .iload_n 1, 0, 0, 0), (1, .iconst 0, 0, 0, 0), (2, .aload_n 0, 0, 0, 0), (3, .getfield 13, 4, 8, 0), (6, .iconst 0, 0, 0, 0), (7, .iaload, 0, 0, 0), (8, .iconst 1, 0, 0, 1), (9, .isub, 0, 0, 0), (10, .invokestatic 66, 10, 3, 0), (13, .ireturn, 0, 0, 0)]
def gk77 : List (Nat × gI) := gk77_0
def gk78_0 : List (Nat × gI) := [(0, .aload_n 0, 0, 0, 0), (1, .iconst 0, 0, 0, 0), (2, .putfield 62, 4, 0, 0), (5, .aload_n 0, 0, 0, 0), (6, .iload_n 1, 0, 0, 0), (7, .invokevirtual 167, 77, 1, 0), (10, .ifCond .eq (12), 22, 0, 0), (13, .iload_n 2, 0, 0, 0), (14, .iconst 0, 0, 0, 0), (15, .iconst 4, 0, 0, 4), (16, .invokestatic 66, 10, 3, 0), (19, .ifCond .ne (5), 24, 0, 0), (22, .iconst (-1), 0, 0, (-1)), (23, .ireturn, 0, 0, 0), (24, .iload_n 2, 0, 0, 0), (25, .iconst 2, 0, 0, 2), (26, .if_icmp .le (28), 54, 0, 0), (29, .iload_n 2, 0, 0, 0), (30, .iconst 3, 0, 0, 3), (31, .if_icmp .ne (12), 43, 0, 0), (34, .aload_n 0, 0, 0, 0), (35, .getfield 13, 4, 8, 0), (38, .iconst 1, 0, 0, 1), (39, .iaload, 0, 0, 0), (40, .goto (9), 49, 0, 0), (43, .aload_n 0, 0, 0, 0), (44, .getfield 13, 4, 8, 0), (47, .iconst 2, 0, 0, 2), (48, .iaload, 0, 0, 0), (49, .iload_n 1, 0, 0, 0), (50, .ishr, 0, 0, 0), (51, .iconst 1, 0, 0, 1), (52, .iand, 0, 0, 0), (53, .ireturn, 0, 0, 0), (54, .aload_n 0, 0, 0, 0), (55, .aload_n 0, 0, 0, 0), (56, .getfield 13, 4, 8, 0), (59, .aload_n 0, 0, 0, 0), (60, .getfield 22, 4, 11, 0), (63, .iconst 0, 0, 0, 0)]
def gk78_1 : List (Nat × gI) := [(64, .iaload, 0, 0, 0), (65, .invokevirtual 135, 61, 2, 0), (68, .istore_n 3, 0, 0, 0), (69, .aload_n 0, 0, 0, 0), (70, .aload_n 0, 0, 0, 0), (71, .getfield 13, 4, 8, 0), (74, .aload_n 0, 0, 0, 0), (75, .getfield 22, 4, 11, 0), (78, .iconst 0, 0, 0, 0), (79, .iaload, 0, 0, 0), (80, .invokevirtual 138, 62, 2, 0), (83, .istore 4, 0, 0, 0), (85, .iload_n 2, 0, 0, 0), (86, .ifCond .ne (11), 97, 0, 0), (89, .iload_n 3, 0, 0, 0), (90, .iload_n 1, 0, 0, 0), (91, .ishr, 0, 0, 0), (92, .iconst 1, 0, 0, 1), (93, .iand, 0, 0, 0), (94, .goto (23), 117, 0, 0), (97, .iload_n 2, 0, 0, 0), (98, .iconst 1, 0, 0, 1), (99, .if_icmp .ne (12), 111, 0, 0), (102, .iload 4, 0, 0, 0), (104, .iload_n 1, 0, 0, 0), (105, .ishr, 0, 0, 0), (106, .iconst 1, 0, 0, 1), (107, .iand, 0, 0, 0), (108, .goto (9), 117, 0, 0), (111, .aload_n 0, 0, 0, 0), (112, .getfield 44, 4, 21, 0), (115, .iload_n 1, 0, 0, 0), (116, .iaload, 0, 0, 0), (117, .ireturn, 0, 0, 0)]
def gk78 : List (Nat × gI) := gk78_0 ++ gk78_1
def gk79_0 : List (Nat × gI) := [(0, .iconst 0, 0, 0, 0), (1, .istore_n 1, 0, 0, 0), (2, .iconst 0, 0, 0, 0), (3, .istore_n 2, 0, 0, 0), (4, .iload_n 2, 0, 0, 0), (5, .aload_n 0, 0, 0, 0), (6, .getfield 26, 3, 2, 0), (9, .getfield 112, 1, 3, 0), (12, .if_icmp .ge (23), 35, 0, 0), (15, .aload_n 0, 0, 0, 0), (16, .iload_n 2, 0, 0, 0), (17, .invokevirtual 105, 66, 1, 0), (20, .ifCond .ne (9), 29, 0, 0), (23, .iload_n 1, 0, 0, 0), (24, .iconst 1, 0, 0, 1), (25, .iload_n 2, 0, 0, 0), (26, .ishl, 0, 0, 0), (27, .ior, 0, 0, 0), (28, .istore_n 1, 0, 0, 0), (29, .iinc 2 (1), 0, 0, 1), (32, .goto (-28), 4, 0, 0), (35, .iload_n 1, 0, 0, 0), (36, .ireturn, 0, 0, 0)]
def gk79 : List (Nat × gI) := gk79_0
def gk80_0 : List (Nat × gI) := [(0, .iconst 0, 0, 0, 0), (1, .istore_n 2, 0, 0, 0), (2, .iconst 0, 0, 0, 0), (3, .istore_n 3, 0, 0, 0), (4, .iload_n 3, 0, 0, 0), (5, .aload_n 0, 0, 0, 0), (6, .getfield 9, 1, 0, 0), (9, .if_icmp .ge (22), 31, 0, 0), (12, .aload_n 0, 0, 0, 0), (13, .iload_n 1, 0, 0, 0), (14, .iload_n 3, 0, 0, 0), (15, .invokevirtual 119, 75, 2, 0), (18, .iload_n 3, 0, 0, 0), (19, .if_icmp .ne (6), 25, 0, 0), (22, .iinc 2 (1), 0, 0, 1), (25, .iinc 3 (1), 0, 0, 1), (28, .goto (-24), 4, 0, 0), (31, .iload_n 2, 0, 0, 0), (32, .ireturn, 0, 0, 0)]
def gk80 : List (Nat × gI) := gk80_0
def gk81_0 : List (Nat × gI) := [(0, .iconst 0, 0, 0, 0), (1, .istore_n 2, 0, 0, 0), (2, .iconst 0, 0, 0, 0), (3, .istore_n 3, 0, 0, 0), (4, .iload_n 3, 0, 0, 0), (5, .aload_n 0, 0, 0, 0), (6, .getfield 26, 3, 2, 0), (9, .getfield 112, 1, 3, 0), (12, .if_icmp .ge (105), 117, 0, 0), (15, .aload_n 0, 0, 0, 0), (16, .getfield 102, 3, 5, 0), (19, .iload_n 3, 0, 0, 0), (20, .invokestatic 98, 19, 2, 0), (23, .iconst 1, 0, 0, 1), (24, .if_icmp .eq (87), 111, 0, 0), (27, .aload_n 0, 0, 0, 0), (28, .getfield 26, 3, 2, 0), (31, .iload_n 1, 0, 0, 0), (32, .iload_n 3, 0, 0, 0), (33, .invokevirtual 225, 65, 2, 0), (36, .ifCond .eq (6), 42, 0, 0), (39, .goto (72), 111, 0, 0), (42, .iload_n 1, 0, 0, 0), (43, .iconst 1, 0, 0, 1), (44, .iload_n 3, 0, 0, 0), (45, .ishl, 0, 0, 0), (46, .ixor, 0, 0, 0), (47, .istore 4, 0, 0, 0), (49, .aload_n 0, 0, 0, 0), (50, .getfield 49, 3, 15, 0), (53, .iload_n 1, 0, 0, 0), (54, .iaload, 0, 0, 0), (55, .aload_n 0, 0, 0, 0), (56, .getfield 33, 3, 6, 0), (59, .aload_n 0, 0, 0, 0), (60, .getfield 26, 3, 2, 0), (63, .getfield 83, 1, 6, 0), (66, .iload_n 3, 0, 0, 0), (67, .iaload, 0, 0, 0), (68, .iaload, 0, 0, 0)]
def gk81_1 : List (Nat × gI) := [(69, .iadd, 0, 0, 0), (70, .istore 5, 0, 0, 0), (72, .aload_n 0, 0, 0, 0), (73, .getfield 49, 3, 15, 0), (76, .iload 4, 0, 0, 0), (78, .iaload, 0, 0, 0), (79, .iconst (-1), 0, 0, (-1)), (80, .if_icmp .eq (15), 95, 0, 0), (83, .aload_n 0, 0, 0, 0), (84, .getfield 49, 3, 15, 0), (87, .iload 4, 0, 0, 0), (89, .iaload, 0, 0, 0), (90, .iload 5, 0, 0, 0), (92, .if_icmp .le (19), 111, 0, 0), (95, .aload_n 0, 0, 0, 0), (96, .getfield 49, 3, 15, 0), (99, .iload 4, 0, 0, 0), (101, .iload 5, 0, 0, 0), (103, .iastore, 0, 0, 0), (104, .iload_n 2, 0, 0, 0), (105, .iload 5, 0, 0, 0), (107, .invokestatic 208, 998, 2, 0), (110, .istore_n 2, 0, 0, 0), (111, .iinc 3 (1), 0, 0, 1), (114, .goto (-110), 4, 0, 0), (117, .iload_n 2, 0, 0, 0), (118, .ireturn, 0, 0, 0)]
def gk81 : List (Nat × gI) := gk81_0 ++ gk81_1
def gk82_0 : List (Nat × gI) := [(0, .aload_n 0, 0, 0, 0), (1, .getfield 26, 3, 2, 0), (4, .invokevirtual 166, 35, 0, 0), (7, .istore_n 1, 0, 0, 0), (8, .iconst 0, 0, 0, 0), (9, .istore_n 2, 0, 0, 0), (10, .iconst 0, 0, 0, 0), (11, .istore_n 3, 0, 0, 0), (12, .iload_n 3, 0, 0, 0), (13, .iload_n 2, 0, 0, 0), (14, .if_icmp .gt (53), 67, 0, 0), (17, .iload_n 3, 0, 0, 0), (18, .sipush (2295), 0, 0, 2295), (21, .if_icmp .gt (46), 67, 0, 0), (24, .iconst 0, 0, 0, 0), (25, .istore 4, 0, 0, 0), (27, .iload 4, 0, 0, 0), (29, .iload_n 1, 0, 0, 0), (30, .if_icmp .gt (31), 61, 0, 0), (33, .aload_n 0, 0, 0, 0), (34, .getfield 49, 3, 15, 0), (37, .iload 4, 0, 0, 0), (39, .iaload, 0, 0, 0), (40, .iload_n 3, 0, 0, 0), (41, .if_icmp .ne (14), 55, 0, 0), (44, .iload_n 2, 0, 0, 0), (45, .aload_n 0, 0, 0, 0), (46, .iload 4, 0, 0, 0), (48, .invokevirtual 230, 81, 1, 0), (51, .invokestatic 208, 998, 2, 0), (54, .istore_n 2, 0, 0, 0), (55, .iinc 4 (1), 0, 0, 1), (58, .goto (-31), 27, 0, 0), (61, .iinc 3 (1), 0, 0, 1), (64, .goto (-52), 12, 0, 0), (67, .return_, 0, 0, 0)]
def gk82 : List (Nat × gI) := gk82_0
def gk83_0 : List (Nat × gI) := [(0, .aload_n 0, 0, 0, 0), (1, .getfield 26, 3, 2, 0), (4, .invokevirtual 166, 35, 0, 0), (7, .istore 5, 0, 0, 0), (9, .iconst 0, 0, 0, 0), (10, .istore 6, 0, 0, 0), (12, .iload 6, 0, 0, 0), (14, .iload 5, 0, 0, 0), (16, .if_icmp .gt (96), 112, 0, 0), (19, .aload_n 0, 0, 0, 0), (20, .getfield 26, 3, 2, 0), (23, .getfield 118, 1, 10, 0), (26, .iload 6, 0, 0, 0), (28, .iaload, 0, 0, 0), (29, .istore 7, 0, 0, 0), (31, .iload 6, 0, 0, 0), (33, .iload_n 1, 0, 0, 0), (34, .iand, 0, 0, 0), (35, .iload_n 2, 0, 0, 0), (36, .if_icmp .ne (50), 86, 0, 0), (39, .aload_n 0, 0, 0, 0), (40, .getfield 26, 3, 2, 0), (43, .getfield 121, 1, 11, 0), (46, .iload 6, 0, 0, 0), (48, .iaload, 0, 0, 0), (49, .iload 7, 0, 0, 0), (51, .iconst (-1), 0, 0, (-1)), (52, .ixor, 0, 0, 0), (53, .iand, 0, 0, 0), (54, .iload_n 3, 0, 0, 0), (55, .iand, 0, 0, 0), (56, .iload_n 3, 0, 0, 0), (57, .if_icmp .ne (29), 86, 0, 0), (60, .iload 7, 0, 0, 0), (62, .iload 4, 0, 0, 0), (64, .iand, 0, 0, 0), (65, .iload 4, 0, 0, 0), (67, .if_icmp .ne (19), 86, 0, 0), (70, .aload_n 0, 0, 0, 0), (71, .getfield 26, 3, 2, 0)]
def gk83_1 : List (Nat × gI) := [(74, .iload 6, 0, 0, 0), (76, .invokevirtual 76, 44, 1, 0), (79, .ifCond .eq (7), 86, 0, 0), (82, .iconst 1, 0, 0, 1), (83, .goto (4), 87, 0, 0), (86, .iconst 0, 0, 0, 0), (87, .istore 8, 0, 0, 0), (89, .aload_n 0, 0, 0, 0), (90, .getfield 49, 3, 15, 0), (93, .iload 6, 0, 0, 0), (95, .iload 8, 0, 0, 0), (97, .ifCond .eq (7), 104, 0, 0), (100, .iconst 0, 0, 0, 0), (101, .goto (4), 105, 0, 0), (104, .iconst (-1), 0, 0, (-1)), (105, .iastore, 0, 0, 0), (106, .iinc 6 (1), 0, 0, 1), (109, .goto (-97), 12, 0, 0), (112, .aload_n 0, 0, 0, 0), (113, .invokevirtual 227, 82, 0, 0), (116, .return_, 0, 0, 0)]
def gk83 : List (Nat × gI) := gk83_0 ++ gk83_1
def gk84_0 : List (Nat × gI) := [(0, .aload_n 0, 0, 0, 0), (1, .aload_n 0, 0, 0, 0), (2, .getfield 26, 3, 2, 0), (5, .invokevirtual 166, 35, 0, 0), (8, .aload_n 0, 0, 0, 0), (9, .getfield 95, 3, 4, 0), (12, .iconst 0, 0, 0, 0), (13, .iconst 0, 0, 0, 0), (14, .invokevirtual 169, 83, 4, 0), (17, .iconst 0, 0, 0, 0), (18, .istore_n 1, 0, 0, 0), (19, .iconst 0, 0, 0, 0), (20, .istore_n 2, 0, 0, 0), (21, .iload_n 2, 0, 0, 0), (22, .aload_n 0, 0, 0, 0), (23, .getfield 26, 3, 2, 0), (26, .invokevirtual 166, 35, 0, 0), (29, .if_icmp .gt (22), 51, 0, 0), (32, .aload_n 0, 0, 0, 0), (33, .getfield 49, 3, 15, 0), (36, .iload_n 2, 0, 0, 0), (37, .iaload, 0, 0, 0), (38, .iconst (-1), 0, 0, (-1)), (39, .if_icmp .eq (6), 45, 0, 0), (42, .iinc 1 (1), 0, 0, 1), (45, .iinc 2 (1), 0, 0, 1), (48, .goto (-27), 21, 0, 0), (51, .iload_n 1, 0, 0, 0), (52, .ireturn, 0, 0, 0)]
def gk84 : List (Nat × gI) := gk84_0
def gk85_0 : List (Nat × gI) := [(0, .aload_n 0, 0, 0, 0), (1, .aload_n 0, 0, 0, 0), (2, .getfield 26, 3, 2, 0), (5, .invokevirtual 166, 35, 0, 0), (8, .aload_n 0, 0, 0, 0), (9, .getfield 95, 3, 4, 0), (12, .iconst 0, 0, 0, 0), (13, .iconst 0, 0, 0, 0), (14, .invokevirtual 169, 83, 4, 0), (17, .iconst 0, 0, 0, 0), (18, .istore_n 1, 0, 0, 0), (19, .iconst 0, 0, 0, 0), (20, .istore_n 2, 0, 0, 0), (21, .iload_n 2, 0, 0, 0), (22, .aload_n 0, 0, 0, 0), (23, .getfield 26, 3, 2, 0), (26, .invokevirtual 166, 35, 0, 0), (29, .if_icmp .gt (20), 49, 0, 0), (32, .iload_n 1, 0, 0, 0), (33, .aload_n 0, 0, 0, 0), (34, .getfield 49, 3, 15, 0), (37, .iload_n 2, 0, 0, 0), (38, .iaload, 0, 0, 0), (39, .invokestatic 208, 998, 2, 0), (42, .istore_n 1, 0, 0, 0), (43, .iinc 2 (1), 0, 0, 1), (46, .goto (-25), 21, 0, 0), (49, .iload_n 1, 0, 0, 0), (50, .ireturn, 0, 0, 0)]
def gk85 : List (Nat × gI) := gk85_0
def gk86_0 : List (Nat × gI) := [(0, .iload_n 1, 0, 0, 0), (1, .tableswitch (135) (0) (8) #[51, 56, 69, 82, 103, 108, 120, 125, 130], 0, 0, 0), (52, .aload_n 0, 0, 0, 0), (53, .getfield 95, 3, 4, 0), (56, .ireturn, 0, 0, 0), (57, .aload_n 0, 0, 0, 0), (58, .getfield 26, 3, 2, 0), (61, .getfield 118, 1, 10, 0), (64, .aload_n 0, 0, 0, 0), (65, .getfield 95, 3, 4, 0), (68, .iaload, 0, 0, 0), (69, .ireturn, 0, 0, 0), (70, .aload_n 0, 0, 0, 0), (71, .getfield 26, 3, 2, 0), (74, .getfield 121, 1, 11, 0), (77, .aload_n 0, 0, 0, 0), (78, .getfield 95, 3, 4, 0), (81, .iaload, 0, 0, 0), (82, .ireturn, 0, 0, 0), (83, .aload_n 0, 0, 0, 0), (84, .getfield 26, 3, 2, 0), (87, .getfield 118, 1, 10, 0), (90, .aload_n 0, 0, 0, 0), (91, .getfield 95, 3, 4, 0), (94, .iaload, 0, 0, 0), (95, .aload_n 0, 0, 0, 0), (96, .getfield 26, 3, 2, 0), (99, .getfield 130, 1, 2, 0), (102, .iand, 0, 0, 0), (103, .ireturn, 0, 0, 0), (104, .aload_n 0, 0, 0, 0), (105, .invokevirtual 133, 79, 0, 0), (108, .ireturn, 0, 0, 0), (109, .aload_n 0, 0, 0, 0), (110, .getfield 26, 3, 2, 0), (113, .aload_n 0, 0, 0, 0), (114, .getfield 95, 3, 4, 0), (117, .invokevirtual 137, 80, 1, 0), (120, .ireturn, 0, 0, 0), (121, .aload_n 0, 0, 0, 0)]
def gk86_1 : List (Nat × gI) := [(122, .invokevirtual 140, 84, 0, 0), (125, .ireturn, 0, 0, 0), (126, .aload_n 0, 0, 0, 0), (127, .invokevirtual 143, 85, 0, 0), (130, .ireturn, 0, 0, 0), (131, .aload_n 0, 0, 0, 0), (132, .getfield 146, 3, 10, 0), (135, .ireturn, 0, 0, 0), (136, .iconst (-1), 0, 0, (-1)), (137, .ireturn, 0, 0, 0)]
def gk86 : List (Nat × gI) := gk86_0 ++ gk86_1
def gk87_0 : List (Nat × gI) := [(0, .iconst 0, 0, 0, 0), (1, .istore_n 1, 0, 0, 0), (2, .iconst 0, 0, 0, 0), (3, .istore_n 2, 0, 0, 0), (4, .iload_n 2, 0, 0, 0), (5, .aload_n 0, 0, 0, 0), (6, .getfield 13, 4, 8, 0), (9, .iconst 3, 0, 0, 3), (10, .iaload, 0, 0, 0), (11, .if_icmp .ge (33), 44, 0, 0), (14, .iload_n 1, 0, 0, 0), (15, .aload_n 0, 0, 0, 0), (16, .iload_n 2, 0, 0, 0), (17, .aload_n 0, 0, 0, 0), (18, .getfield 22, 4, 11, 0), (21, .iconst 0, 0, 0, 0), (22, .iaload, 0, 0, 0), (23, .invokevirtual 163, 70, 2, 0), (26, .ifCond .ne (9), 35, 0, 0), (29, .iconst 1, 0, 0, 1), (30, .iload_n 2, 0, 0, 0), (31, .ishl, 0, 0, 0), (32, .goto (4), 36, 0, 0), (35, .iconst 0, 0, 0, 0), (36, .ior, 0, 0, 0), (37, .istore_n 1, 0, 0, 0), (38, .iinc 2 (1), 0, 0, 1), (41, .goto (-37), 4, 0, 0), (44, .iload_n 1, 0, 0, 0), (45, .ireturn, 0, 0, 0)]
def gk87 : List (Nat × gI) := gk87_0
def gk88_0 : List (Nat × gI) := [(0, .aload_n 0, 0, 0, 0), (1, .aload_n 0, 0, 0, 0), (2, .getfield 13, 4, 8, 0), (5, .aload_n 0, 0, 0, 0), (6, .getfield 22, 4, 11, 0), (9, .iconst 0, 0, 0, 0), (10, .iaload, 0, 0, 0), (11, .invokevirtual 150, 59, 2, 0), (14, .iconst 0, 0, 0, 0), (15, .istore_n 1, 0, 0, 0), (16, .iconst 0, 0, 0, 0), (17, .istore_n 2, 0, 0, 0), (18, .iload_n 2, 0, 0, 0), (19, .aload_n 0, 0, 0, 0), (20, .getfield 13, 4, 8, 0), (23, .iconst 0, 0, 0, 0), (24, .iaload, 0, 0, 0), (25, .if_icmp .ge (27), 52, 0, 0), (28, .iload_n 1, 0, 0, 0), (29, .aload_n 0, 0, 0, 0), (30, .getfield 44, 4, 21, 0), (33, .iload_n 2, 0, 0, 0), (34, .iaload, 0, 0, 0), (35, .iload_n 2, 0, 0, 0), (36, .if_icmp .ne (7), 43, 0, 0), (39, .iconst 1, 0, 0, 1), (40, .goto (4), 44, 0, 0), (43, .iconst 0, 0, 0, 0), (44, .iadd, 0, 0, 0), (45, .istore_n 1, 0, 0, 0), (46, .iinc 2 (1), 0, 0, 1), (49, .goto (-31), 18, 0, 0), (52, .iload_n 1, 0, 0, 0), (53, .ireturn, 0, 0, 0)]
def gk88 : List (Nat × gI) := gk88_0
def gk89_0 : List (Nat × gI) := [(0, .iconst 1, 0, 0, 1), (1, .aload_n 0, 0, 0, 0), (2, .getfield 13, 4, 8, 0), (5, .iconst 3, 0, 0, 3), (6, .iaload, 0, 0, 0), (7, .ishl, 0, 0, 0), (8, .ireturn, 0, 0, 0)]
def gk89 : List (Nat × gI) := gk89_0
def gk90_0 : List (Nat × gI) := [(0, .iconst 0, 0, 0, 0), (1, .istore_n 1, 0, 0, 0), (2, .iload_n 1, 0, 0, 0), (3, .aload_n 0, 0, 0, 0), (4, .invokevirtual 183, 89, 0, 0), (7, .if_icmp .ge (52), 59, 0, 0), (10, .iconst 0, 0, 0, 0), (11, .istore_n 2, 0, 0, 0), (12, .iload_n 2, 0, 0, 0), (13, .aload_n 0, 0, 0, 0), (14, .getfield 13, 4, 8, 0), (17, .iconst 3, 0, 0, 3), (18, .iaload, 0, 0, 0), (19, .if_icmp .ge (34), 53, 0, 0), (22, .aload_n 0, 0, 0, 0), (23, .getfield 53, 4, 24, 0), (26, .bipush (8), 0, 0, 8), (28, .iload_n 1, 0, 0, 0), (29, .imul, 0, 0, 0), (30, .iload_n 2, 0, 0, 0), (31, .iadd, 0, 0, 0), (32, .aload_n 0, 0, 0, 0), (33, .iload_n 2, 0, 0, 0), (34, .iload_n 1, 0, 0, 0), (35, .invokevirtual 163, 70, 2, 0), (38, .ifCond .ne (7), 45, 0, 0), (41, .iconst 1, 0, 0, 1), (42, .goto (4), 46, 0, 0), (45, .iconst 0, 0, 0, 0), (46, .bastore, 0, 0, 0), (47, .iinc 2 (1), 0, 0, 1), (50, .goto (-38), 12, 0, 0), (53, .iinc 1 (1), 0, 0, 1), (56, .goto (-54), 2, 0, 0), (59, .return_, 0, 0, 0)]
def gk90 : List (Nat × gI) := gk90_0
def gk91_0 : List (Nat × gI) := [(0, .aload_n 0, 0, 0, 0), (1, .getfield 22, 4, 11, 0), (4, .iconst 2, 0, 0, 2), (5, .aload_n 0, 0, 0, 0), (6, .getfield 13, 4, 8, 0), (9, .iconst 4, 0, 0, 4), (10, .iload_n 1, 0, 0, 0), (11, .iadd, 0, 0, 0), (12, .iaload, 0, 0, 0), (13, .iadd, 0, 0, 0), (14, .iaload, 0, 0, 0), (15, .ireturn, 0, 0, 0)]
def gk91 : List (Nat × gI) := gk91_0
def gk92_0 : List (Nat × gI) := [(0, .aload_n 0, 0, 0, 0), (1, .invokevirtual 186, 90, 0, 0), (4, .iconst 0, 0, 0, 0), (5, .istore_n 2, 0, 0, 0), (6, .iload_n 2, 0, 0, 0), (7, .aload_n 0, 0, 0, 0), (8, .invokevirtual 183, 89, 0, 0), (11, .if_icmp .ge (31), 42, 0, 0), (14, .aload_n 0, 0, 0, 0), (15, .getfield 47, 4, 22, 0), (18, .iload_n 2, 0, 0, 0), (19, .iload_n 2, 0, 0, 0), (20, .aload_n 0, 0, 0, 0), (21, .getfield 22, 4, 11, 0), (24, .iconst 0, 0, 0, 0), (25, .iaload, 0, 0, 0), (26, .if_icmp .ne (7), 33, 0, 0), (29, .iconst 0, 0, 0, 0), (30, .goto (5), 35, 0, 0), (33, .ldc 189, 0, 0, 99999), (35, .iastore, 0, 0, 0), (36, .iinc 2 (1), 0, 0, 1), (39, .goto (-33), 6, 0, 0), (42, .iconst 1, 0, 0, 1), (43, .istore_n 2, 0, 0, 0), (44, .iload_n 2, 0, 0, 0), (45, .ifCond .eq (159), 204, 0, 0), (48, .iconst 0, 0, 0, 0), (49, .istore_n 2, 0, 0, 0), (50, .iconst 0, 0, 0, 0), (51, .istore_n 3, 0, 0, 0), (52, .iload_n 3, 0, 0, 0), (53, .aload_n 0, 0, 0, 0), (54, .invokevirtual 183, 89, 0, 0), (57, .if_icmp .ge (144), 201, 0, 0), (60, .iconst 0, 0, 0, 0), (61, .istore 4, 0, 0, 0), (63, .iload 4, 0, 0, 0), (65, .aload_n 0, 0, 0, 0), (66, .getfield 13, 4, 8, 0)]
def gk92_1 : List (Nat × gI) := [(69, .iconst 3, 0, 0, 3), (70, .iaload, 0, 0, 0), (71, .if_icmp .ge (124), 195, 0, 0), (74, .aload_n 0, 0, 0, 0), (75, .getfield 47, 4, 22, 0), (78, .iload_n 3, 0, 0, 0), (79, .iaload, 0, 0, 0), (80, .ldc 189, 0, 0, 99999), (82, .if_icmp .ge (34), 116, 0, 0), (85, .aload_n 0, 0, 0, 0), (86, .getfield 53, 4, 24, 0), (89, .bipush (8), 0, 0, 8), (91, .iload_n 3, 0, 0, 0), (92, .imul, 0, 0, 0), (93, .iload 4, 0, 0, 0), (95, .iadd, 0, 0, 0), (96, .baload, 0, 0, 0), (97, .ifCond .eq (19), 116, 0, 0), (100, .aload_n 0, 0, 0, 0), (101, .getfield 47, 4, 22, 0), (104, .iload_n 3, 0, 0, 0), (105, .iaload, 0, 0, 0), (106, .aload_n 0, 0, 0, 0), (107, .iload 4, 0, 0, 0), (109, .invokevirtual 190, 91, 1, 0), (112, .iadd, 0, 0, 0), (113, .goto (5), 118, 0, 0), (116, .ldc 189, 0, 0, 99999), (118, .istore 5, 0, 0, 0), (120, .iload_n 2, 0, 0, 0), (121, .ifCond .ne (19), 140, 0, 0), (124, .iload 5, 0, 0, 0), (126, .aload_n 0, 0, 0, 0), (127, .getfield 47, 4, 22, 0), (130, .iload_n 3, 0, 0, 0), (131, .iconst 1, 0, 0, 1), (132, .iload 4, 0, 0, 0), (134, .ishl, 0, 0, 0), (135, .ixor, 0, 0, 0), (136, .iaload, 0, 0, 0)]
def gk92_2 : List (Nat × gI) := [(137, .if_icmp .ge (7), 144, 0, 0), (140, .iconst 1, 0, 0, 1), (141, .goto (4), 145, 0, 0), (144, .iconst 0, 0, 0, 0), (145, .istore_n 2, 0, 0, 0), (146, .aload_n 0, 0, 0, 0), (147, .getfield 47, 4, 22, 0), (150, .iload_n 3, 0, 0, 0), (151, .iconst 1, 0, 0, 1), (152, .iload 4, 0, 0, 0), (154, .ishl, 0, 0, 0), (155, .ixor, 0, 0, 0), (156, .iload 5, 0, 0, 0), (158, .aload_n 0, 0, 0, 0), (159, .getfield 47, 4, 22, 0), (162, .iload_n 3, 0, 0, 0), (163, .iconst 1, 0, 0, 1), (164, .iload 4, 0, 0, 0), (166, .ishl, 0, 0, 0), (167, .ixor, 0, 0, 0), (168, .iaload, 0, 0, 0), (169, .if_icmp .ge (8), 177, 0, 0), (172, .iload 5, 0, 0, 0), (174, .goto (14), 188, 0, 0), (177, .aload_n 0, 0, 0, 0), (178, .getfield 47, 4, 22, 0), (181, .iload_n 3, 0, 0, 0), (182, .iconst 1, 0, 0, 1), (183, .iload 4, 0, 0, 0), (185, .ishl, 0, 0, 0), (186, .ixor, 0, 0, 0), (187, .iaload, 0, 0, 0), (188, .iastore, 0, 0, 0), (189, .iinc 4 (1), 0, 0, 1), (192, .goto (-129), 63, 0, 0), (195, .iinc 3 (1), 0, 0, 1), (198, .goto (-146), 52, 0, 0), (201, .goto (-157), 44, 0, 0), (204, .iconst 0, 0, 0, 0), (205, .istore_n 3, 0, 0, 0)]
def gk92_3 : List (Nat × gI) := [(206, .iconst 0, 0, 0, 0), (207, .istore 4, 0, 0, 0), (209, .iconst 0, 0, 0, 0), (210, .istore 5, 0, 0, 0), (212, .iload 5, 0, 0, 0), (214, .aload_n 0, 0, 0, 0), (215, .invokevirtual 183, 89, 0, 0), (218, .if_icmp .ge (67), 285, 0, 0), (221, .iload_n 3, 0, 0, 0), (222, .aload_n 0, 0, 0, 0), (223, .getfield 47, 4, 22, 0), (226, .iload 5, 0, 0, 0), (228, .iaload, 0, 0, 0), (229, .ldc 189, 0, 0, 99999), (231, .if_icmp .ge (7), 238, 0, 0), (234, .iconst 1, 0, 0, 1), (235, .goto (4), 239, 0, 0), (238, .iconst 0, 0, 0, 0), (239, .iadd, 0, 0, 0), (240, .istore_n 3, 0, 0, 0), (241, .aload_n 0, 0, 0, 0), (242, .getfield 47, 4, 22, 0), (245, .iload 5, 0, 0, 0), (247, .iaload, 0, 0, 0), (248, .ldc 189, 0, 0, 99999), (250, .if_icmp .ge (25), 275, 0, 0), (253, .aload_n 0, 0, 0, 0), (254, .getfield 47, 4, 22, 0), (257, .iload 5, 0, 0, 0), (259, .iaload, 0, 0, 0), (260, .iload 4, 0, 0, 0), (262, .if_icmp .le (13), 275, 0, 0), (265, .aload_n 0, 0, 0, 0), (266, .getfield 47, 4, 22, 0), (269, .iload 5, 0, 0, 0), (271, .iaload, 0, 0, 0), (272, .goto (5), 277, 0, 0), (275, .iload 4, 0, 0, 0), (277, .istore 4, 0, 0, 0), (279, .iinc 5 (1), 0, 0, 1)]
def gk92_4 : List (Nat × gI) := [(282, .goto (-70), 212, 0, 0), (285, .iload_n 1, 0, 0, 0), (286, .ifCond .eq (8), 294, 0, 0), (289, .iload 4, 0, 0, 0), (291, .goto (4), 295, 0, 0), (294, .iload_n 3, 0, 0, 0), (295, .ireturn, 0, 0, 0)]
def gk92 : List (Nat × gI) := gk92_0 ++ gk92_1 ++ gk92_2 ++ gk92_3 ++ gk92_4
def gk93_0 : List (Nat × gI) := [(0, .aload_n 0, 0, 0, 0), (1, .iconst 0, 0, 0, 0), (2, .putfield 62, 4, 0, 0), (5, .iload_n 1, 0, 0, 0), (6, .iconst 0, 0, 0, 0), (7, .bipush (8), 0, 0, 8), (9, .invokestatic 66, 10, 3, 0), (12, .ifCond .ne (5), 17, 0, 0), (15, .iconst (-1), 0, 0, (-1)), (16, .ireturn, 0, 0, 0), (17, .iload_n 1, 0, 0, 0), (18, .iconst 4, 0, 0, 4), (19, .if_icmp .ge (71), 90, 0, 0), (22, .aload_n 0, 0, 0, 0), (23, .aload_n 0, 0, 0, 0), (24, .getfield 13, 4, 8, 0), (27, .aload_n 0, 0, 0, 0), (28, .getfield 22, 4, 11, 0), (31, .iconst 0, 0, 0, 0), (32, .iaload, 0, 0, 0), (33, .invokevirtual 135, 61, 2, 0), (36, .istore_n 2, 0, 0, 0), (37, .iload_n 1, 0, 0, 0), (38, .ifCond .ne (12), 50, 0, 0), (41, .aload_n 0, 0, 0, 0), (42, .getfield 22, 4, 11, 0), (45, .iconst 0, 0, 0, 0), (46, .iaload, 0, 0, 0), (47, .goto (42), 89, 0, 0), (50, .iload_n 1, 0, 0, 0), (51, .iconst 1, 0, 0, 1), (52, .if_icmp .ne (7), 59, 0, 0), (55, .iload_n 2, 0, 0, 0), (56, .goto (33), 89, 0, 0), (59, .iload_n 1, 0, 0, 0), (60, .iconst 2, 0, 0, 2), (61, .if_icmp .ne (20), 81, 0, 0), (64, .aload_n 0, 0, 0, 0), (65, .aload_n 0, 0, 0, 0), (66, .getfield 13, 4, 8, 0)]
def gk93_1 : List (Nat × gI) := [(69, .aload_n 0, 0, 0, 0), (70, .getfield 22, 4, 11, 0), (73, .iconst 0, 0, 0, 0), (74, .iaload, 0, 0, 0), (75, .invokevirtual 138, 62, 2, 0), (78, .goto (11), 89, 0, 0), (81, .iload_n 2, 0, 0, 0), (82, .aload_n 0, 0, 0, 0), (83, .getfield 13, 4, 8, 0), (86, .iconst 2, 0, 0, 2), (87, .iaload, 0, 0, 0), (88, .iand, 0, 0, 0), (89, .ireturn, 0, 0, 0), (90, .iload_n 1, 0, 0, 0), (91, .iconst 4, 0, 0, 4), (92, .if_icmp .ne (10), 102, 0, 0), (95, .aload_n 0, 0, 0, 0), (96, .invokevirtual 170, 87, 0, 0), (99, .goto (43), 142, 0, 0), (102, .iload_n 1, 0, 0, 0), (103, .iconst 5, 0, 0, 5), (104, .if_icmp .ne (10), 114, 0, 0), (107, .aload_n 0, 0, 0, 0), (108, .invokevirtual 174, 88, 0, 0), (111, .goto (31), 142, 0, 0), (114, .iload_n 1, 0, 0, 0), (115, .bipush (8), 0, 0, 8), (117, .if_icmp .ne (10), 127, 0, 0), (120, .aload_n 0, 0, 0, 0), (121, .getfield 147, 4, 13, 0), (124, .goto (18), 142, 0, 0), (127, .aload_n 0, 0, 0, 0), (128, .iload_n 1, 0, 0, 0), (129, .bipush (7), 0, 0, 7), (131, .if_icmp .ne (7), 138, 0, 0), (134, .iconst 1, 0, 0, 1), (135, .goto (4), 139, 0, 0), (138, .iconst 0, 0, 0, 0), (139, .invokevirtual 177, 92, 1, 0), (142, .ireturn, 0, 0, 0)]
def gk93 : List (Nat × gI) := gk93_0 ++ gk93_1
def gk94_0 : List (Nat × gI) := [(0, .aload_n 0, 0, 0, 0), (1, .getfield 95, 3, 4, 0), (4, .aload_n 0, 0, 0, 0), (5, .getfield 102, 3, 5, 0), (8, .bipush (8), 0, 0, 8), (10, .ishl, 0, 0, 0), (11, .ior, 0, 0, 0), (12, .aload_n 0, 0, 0, 0), (13, .getfield 33, 3, 6, 0), (16, .iconst 0, 0, 0, 0), (17, .iaload, 0, 0, 0), (18, .bipush (16), 0, 0, 16), (20, .ishl, 0, 0, 0), (21, .ior, 0, 0, 0), (22, .aload_n 0, 0, 0, 0), (23, .getfield 33, 3, 6, 0), (26, .iconst 1, 0, 0, 1), (27, .iaload, 0, 0, 0), (28, .bipush (20), 0, 0, 20), (30, .ishl, 0, 0, 0), (31, .ior, 0, 0, 0), (32, .aload_n 0, 0, 0, 0), (33, .getfield 33, 3, 6, 0), (36, .iconst 2, 0, 0, 2), (37, .iaload, 0, 0, 0), (38, .bipush (24), 0, 0, 24), (40, .ishl, 0, 0, 0), (41, .ior, 0, 0, 0), (42, .ireturn, 0, 0, 0)]
def gk94 : List (Nat × gI) := gk94_0
def gk95_0 : List (Nat × gI) := [(0, .aload_n 0, 0, 0, 0), (1, .getfield 146, 3, 10, 0), (4, .bipush (10), 0, 0, 10), (6, .if_icmp .lt (37), 43, 0, 0), (9, .iconst 1, 0, 0, 1), (10, .istore_n 1, 0, 0, 0), (11, .iload_n 1, 0, 0, 0), (12, .bipush (10), 0, 0, 10), (14, .if_icmp .ge (23), 37, 0, 0), (17, .aload_n 0, 0, 0, 0), (18, .getfield 40, 3, 9, 0), (21, .iload_n 1, 0, 0, 0), (22, .iconst 1, 0, 0, 1), (23, .isub, 0, 0, 0), (24, .aload_n 0, 0, 0, 0), (25, .getfield 40, 3, 9, 0), (28, .iload_n 1, 0, 0, 0), (29, .iaload, 0, 0, 0), (30, .iastore, 0, 0, 0), (31, .iinc 1 (1), 0, 0, 1), (34, .goto (-23), 11, 0, 0), (37, .aload_n 0, 0, 0, 0), (38, .bipush (9), 0, 0, 9), (40, .putfield 146, 3, 10, 0), (43, .aload_n 0, 0, 0, 0), (44, .getfield 40, 3, 9, 0), (47, .aload_n 0, 0, 0, 0), (48, .getfield 146, 3, 10, 0), (51, .aload_n 0, 0, 0, 0), (52, .invokevirtual 216, 94, 0, 0), (55, .iastore, 0, 0, 0), (56, .aload_n 0, 0, 0, 0), (57, .dup, 0, 0, 0), (58, .getfield 146, 3, 10, 0), (61, .iconst 1, 0, 0, 1), (62, .iadd, 0, 0, 0), (63, .putfield 146, 3, 10, 0), (66, .return_, 0, 0, 0)]
def gk95 : List (Nat × gI) := gk95_0
def gk96_0 : List (Nat × gI) := [(0, .aload_n 0, 0, 0, 0), (1, .iload_n 1, 0, 0, 0), (2, .invokevirtual 80, 64, 1, 0), (5, .ifCond .ne (5), 10, 0, 0), (8, .iconst (-1), 0, 0, (-1)), (9, .ireturn, 0, 0, 0), (10, .aload_n 0, 0, 0, 0), (11, .iload_n 1, 0, 0, 0), (12, .invokevirtual 105, 66, 1, 0), (15, .ifCond .eq (6), 21, 0, 0), (18, .bipush (-2), 0, 0, (-2)), (20, .ireturn, 0, 0, 0), (21, .aload_n 0, 0, 0, 0), (22, .invokevirtual 149, 95, 0, 0), (25, .aload_n 0, 0, 0, 0), (26, .dup, 0, 0, 0), (27, .getfield 95, 3, 4, 0), (30, .iconst 1, 0, 0, 1), (31, .iload_n 1, 0, 0, 0), (32, .ishl, 0, 0, 0), (33, .ixor, 0, 0, 0), (34, .putfield 95, 3, 4, 0), (37, .aload_n 0, 0, 0, 0), (38, .getfield 95, 3, 4, 0), (41, .ireturn, 0, 0, 0)]
def gk96 : List (Nat × gI) := gk96_0
def gk97_0 : List (Nat × gI) := [(0, .aload_n 0, 0, 0, 0), (1, .getfield 147, 4, 13, 0), (4, .bipush (10), 0, 0, 10), (6, .if_icmp .ne (37), 43, 0, 0), (9, .iconst 0, 0, 0, 0), (10, .istore_n 1, 0, 0, 0), (11, .iload_n 1, 0, 0, 0), (12, .bipush (45), 0, 0, 45), (14, .if_icmp .ge (23), 37, 0, 0), (17, .aload_n 0, 0, 0, 0), (18, .getfield 25, 4, 12, 0), (21, .iload_n 1, 0, 0, 0), (22, .aload_n 0, 0, 0, 0), (23, .getfield 25, 4, 12, 0), (26, .iload_n 1, 0, 0, 0), (27, .iconst 5, 0, 0, 5), (28, .iadd, 0, 0, 0), (29, .iaload, 0, 0, 0), (30, .iastore, 0, 0, 0), (31, .iinc 1 (1), 0, 0, 1), (34, .goto (-23), 11, 0, 0), (37, .aload_n 0, 0, 0, 0), (38, .bipush (9), 0, 0, 9), (40, .putfield 147, 4, 13, 0), (43, .iconst 0, 0, 0, 0), (44, .istore_n 1, 0, 0, 0), (45, .iload_n 1, 0, 0, 0), (46, .iconst 5, 0, 0, 5), (47, .if_icmp .ge (28), 75, 0, 0), (50, .aload_n 0, 0, 0, 0), (51, .getfield 25, 4, 12, 0), (54, .iconst 5, 0, 0, 5), (55, .aload_n 0, 0, 0, 0), (56, .getfield 147, 4, 13, 0), (59, .imul, 0, 0, 0), (60, .iload_n 1, 0, 0, 0), (61, .iadd, 0, 0, 0), (62, .aload_n 0, 0, 0, 0), (63, .getfield 22, 4, 11, 0), (66, .iload_n 1, 0, 0, 0)]
def gk97_1 : List (Nat × gI) := [(67, .iaload, 0, 0, 0), (68, .iastore, 0, 0, 0), (69, .iinc 1 (1), 0, 0, 1), (72, .goto (-27), 45, 0, 0), (75, .aload_n 0, 0, 0, 0), (76, .dup, 0, 0, 0), (77, .getfield 147, 4, 13, 0), (80, .iconst 1, 0, 0, 1), (81, .iadd, 0, 0, 0), (82, .putfield 147, 4, 13, 0), (85, .return_, 0, 0, 0)]
def gk97 : List (Nat × gI) := gk97_0 ++ gk97_1
def gk98_0 : List (Nat × gI) := [(0, .aload_n 0, 0, 0, 0), (1, .iconst 0, 0, 0, 0), (2, .putfield 62, 4, 0, 0), (5, .aload_n 0, 0, 0, 0), (6, .iload_n 1, 0, 0, 0), (7, .invokevirtual 160, 68, 1, 0), (10, .ifCond .ne (5), 15, 0, 0), (13, .iconst (-1), 0, 0, (-1)), (14, .ireturn, 0, 0, 0), (15, .aload_n 0, 0, 0, 0), (16, .iload_n 1, 0, 0, 0), (17, .aload_n 0, 0, 0, 0), (18, .getfield 22, 4, 11, 0), (21, .iconst 0, 0, 0, 0), (22, .iaload, 0, 0, 0), (23, .invokevirtual 163, 70, 2, 0), (26, .ifCond .eq (6), 32, 0, 0), (29, .bipush (-2), 0, 0, (-2)), (31, .ireturn, 0, 0, 0), (32, .aload_n 0, 0, 0, 0), (33, .invokevirtual 180, 97, 0, 0), (36, .aload_n 0, 0, 0, 0), (37, .getfield 22, 4, 11, 0), (40, .iconst 0, 0, 0, 0), (41, .dup2, 0, 0, 0), (42, .iaload, 0, 0, 0), (43, .iconst 1, 0, 0, 1), (44, .iload_n 1, 0, 0, 0), (45, .ishl, 0, 0, 0), (46, .ixor, 0, 0, 0), (47, .iastore, 0, 0, 0), (48, .aload_n 0, 0, 0, 0), (49, .getfield 22, 4, 11, 0), (52, .iconst 0, 0, 0, 0), (53, .iaload, 0, 0, 0), (54, .ireturn, 0, 0, 0)]
def gk98 : List (Nat × gI) := gk98_0
def gk99_0 : List (Nat × gI) := [(0, .aload_n 0, 0, 0, 0), (1, .iload_n 1, 0, 0, 0), (2, .invokevirtual 80, 64, 1, 0), (5, .ifCond .ne (5), 10, 0, 0), (8, .iconst (-1), 0, 0, (-1)), (9, .ireturn, 0, 0, 0), (10, .aload_n 0, 0, 0, 0), (11, .invokevirtual 149, 95, 0, 0), (14, .aload_n 0, 0, 0, 0), (15, .dup, 0, 0, 0), (16, .getfield 102, 3, 5, 0), (19, .iconst 1, 0, 0, 1), (20, .iload_n 1, 0, 0, 0), (21, .ishl, 0, 0, 0), (22, .ixor, 0, 0, 0), (23, .putfield 102, 3, 5, 0), (26, .aload_n 0, 0, 0, 0), (27, .getfield 102, 3, 5, 0), (30, .iload_n 1, 0, 0, 0), (31, .invokestatic 98, 19, 2, 0), (34, .ireturn, 0, 0, 0)]
def gk99 : List (Nat × gI) := gk99_0
def gk100_0 : List (Nat × gI) := [(0, .aload_n 0, 0, 0, 0), (1, .iconst 0, 0, 0, 0), (2, .putfield 62, 4, 0, 0), (5, .aload_n 0, 0, 0, 0), (6, .iload_n 1, 0, 0, 0), (7, .invokevirtual 160, 68, 1, 0), (10, .ifCond .ne (5), 15, 0, 0), (13, .iconst (-1), 0, 0, (-1)), (14, .ireturn, 0, 0, 0), (15, .aload_n 0, 0, 0, 0), (16, .invokevirtual 180, 97, 0, 0), (19, .aload_n 0, 0, 0, 0), (20, .getfield 22, 4, 11, 0), (23, .iconst 1, 0, 0, 1), (24, .dup2, 0, 0, 0), (25, .iaload, 0, 0, 0), (26, .iconst 1, 0, 0, 1), (27, .iload_n 1, 0, 0, 0), (28, .ishl, 0, 0, 0), (29, .ixor, 0, 0, 0), (30, .iastore, 0, 0, 0), (31, .aload_n 0, 0, 0, 0), (32, .getfield 22, 4, 11, 0), (35, .iconst 1, 0, 0, 1), (36, .iaload, 0, 0, 0), (37, .iload_n 1, 0, 0, 0), (38, .ishr, 0, 0, 0), (39, .iconst 1, 0, 0, 1), (40, .iand, 0, 0, 0), (41, .ireturn, 0, 0, 0)]
def gk100 : List (Nat × gI) := gk100_0
def gk101_0 : List (Nat × gI) := [(0, .iload_n 0, 0, 0, 0), (1, .iconst 1, 0, 0, 1), (2, .if_icmp .lt (13), 15, 0, 0), (5, .iload_n 0, 0, 0, 0), (6, .bipush (9), 0, 0, 9), (8, .if_icmp .gt (7), 15, 0, 0), (11, .iconst 1, 0, 0, 1), (12, .goto (4), 16, 0, 0), (15, .iconst 0, 0, 0, 0), (16, .ireturn, 0, 0, 0)]
def gk101 : List (Nat × gI) := gk101_0
def gk102_0 : List (Nat × gI) := [(0, .iload_n 1, 0, 0, 0), (1, .invokestatic 152, 101, 1, 0), (4, .ifCond .eq (17), 21, 0, 0), (7, .iload_n 2, 0, 0, 0), (8, .invokestatic 152, 101, 1, 0), (11, .ifCond .eq (10), 21, 0, 0), (14, .iload_n 3, 0, 0, 0), (15, .invokestatic 152, 101, 1, 0), (18, .ifCond .ne (5), 23, 0, 0), (21, .iconst (-1), 0, 0, (-1)), (22, .ireturn, 0, 0, 0), (23, .aload_n 0, 0, 0, 0), (24, .invokevirtual 149, 95, 0, 0), (27, .aload_n 0, 0, 0, 0), (28, .iload_n 1, 0, 0, 0), (29, .iload_n 2, 0, 0, 0), (30, .iload_n 3, 0, 0, 0), (31, .invokevirtual 155, 3, 3, 0), (34, .iload_n 1, 0, 0, 0), (35, .iload_n 2, 0, 0, 0), (36, .iadd, 0, 0, 0), (37, .iload_n 3, 0, 0, 0), (38, .iadd, 0, 0, 0), (39, .ireturn, 0, 0, 0)]
def gk102 : List (Nat × gI) := gk102_0
def gk103_0 : List (Nat × gI) := [(0, .aload_n 0, 0, 0, 0), (1, .iconst 0, 0, 0, 0), (2, .putfield 62, 4, 0, 0), (5, .iload_n 1, 0, 0, 0), (6, .iconst 1, 0, 0, 1), (7, .bipush (9), 0, 0, 9), (9, .invokestatic 66, 10, 3, 0), (12, .ifCond .eq (23), 35, 0, 0), (15, .iload_n 2, 0, 0, 0), (16, .iconst 1, 0, 0, 1), (17, .bipush (9), 0, 0, 9), (19, .invokestatic 66, 10, 3, 0), (22, .ifCond .eq (13), 35, 0, 0), (25, .iload_n 3, 0, 0, 0), (26, .iconst 1, 0, 0, 1), (27, .bipush (9), 0, 0, 9), (29, .invokestatic 66, 10, 3, 0), (32, .ifCond .ne (5), 37, 0, 0), (35, .iconst (-1), 0, 0, (-1)), (36, .ireturn, 0, 0, 0), (37, .aload_n 0, 0, 0, 0), (38, .invokevirtual 180, 97, 0, 0), (41, .aload_n 0, 0, 0, 0), (42, .getfield 22, 4, 11, 0), (45, .iconst 2, 0, 0, 2), (46, .iload_n 1, 0, 0, 0), (47, .iastore, 0, 0, 0), (48, .aload_n 0, 0, 0, 0), (49, .getfield 22, 4, 11, 0), (52, .iconst 3, 0, 0, 3), (53, .iload_n 2, 0, 0, 0), (54, .iastore, 0, 0, 0), (55, .aload_n 0, 0, 0, 0), (56, .getfield 22, 4, 11, 0), (59, .iconst 4, 0, 0, 4), (60, .iload_n 3, 0, 0, 0), (61, .iastore, 0, 0, 0), (62, .iload_n 1, 0, 0, 0), (63, .iload_n 2, 0, 0, 0), (64, .iadd, 0, 0, 0)]
def gk103_1 : List (Nat × gI) := [(65, .iload_n 3, 0, 0, 0), (66, .iadd, 0, 0, 0), (67, .ireturn, 0, 0, 0)]
def gk103 : List (Nat × gI) := gk103_0 ++ gk103_1
def gk104_0 : List (Nat × gI) := [(0, .aload_n 0, 0, 0, 0), (1, .iload_n 1, 0, 0, 0), (2, .invokevirtual 80, 64, 1, 0), (5, .ifCond .ne (5), 10, 0, 0), (8, .iconst (-1), 0, 0, (-1)), (9, .ireturn, 0, 0, 0), (10, .aload_n 0, 0, 0, 0), (11, .getfield 159, 3, 8, 0), (14, .bipush (12), 0, 0, 12), (16, .if_icmp .lt (6), 22, 0, 0), (19, .bipush (-3), 0, 0, (-3)), (21, .ireturn, 0, 0, 0), (22, .aload_n 0, 0, 0, 0), (23, .getfield 37, 3, 7, 0), (26, .aload_n 0, 0, 0, 0), (27, .getfield 159, 3, 8, 0), (30, .iload_n 1, 0, 0, 0), (31, .iastore, 0, 0, 0), (32, .aload_n 0, 0, 0, 0), (33, .dup, 0, 0, 0), (34, .getfield 159, 3, 8, 0), (37, .iconst 1, 0, 0, 1), (38, .iadd, 0, 0, 0), (39, .putfield 159, 3, 8, 0), (42, .aload_n 0, 0, 0, 0), (43, .getfield 159, 3, 8, 0), (46, .ireturn, 0, 0, 0)]
def gk104 : List (Nat × gI) := gk104_0
def gk105_0 : List (Nat × gI) := [(0, .aload_n 0, 0, 0, 0), (1, .iconst 0, 0, 0, 0), (2, .putfield 62, 4, 0, 0), (5, .aload_n 0, 0, 0, 0), (6, .iload_n 1, 0, 0, 0), (7, .invokevirtual 160, 68, 1, 0), (10, .ifCond .ne (5), 15, 0, 0), (13, .iconst (-1), 0, 0, (-1)), (14, .ireturn, 0, 0, 0), (15, .aload_n 0, 0, 0, 0), (16, .getfield 141, 4, 17, 0), (19, .bipush (12), 0, 0, 12), (21, .if_icmp .ne (6), 27, 0, 0), (24, .bipush (-3), 0, 0, (-3)), (26, .ireturn, 0, 0, 0), (27, .aload_n 0, 0, 0, 0), (28, .getfield 35, 4, 16, 0), (31, .aload_n 0, 0, 0, 0), (32, .getfield 141, 4, 17, 0), (35, .iload_n 1, 0, 0, 0), (36, .iastore, 0, 0, 0), (37, .aload_n 0, 0, 0, 0), (38, .dup, 0, 0, 0), (39, .getfield 141, 4, 17, 0), (42, .iconst 1, 0, 0, 1), (43, .iadd, 0, 0, 0), (44, .putfield 141, 4, 17, 0), (47, .aload_n 0, 0, 0, 0), (48, .getfield 141, 4, 17, 0), (51, .ireturn, 0, 0, 0)]
def gk105 : List (Nat × gI) := gk105_0
def gk106_0 : List (Nat × gI) := [(0, .aload_n 0, 0, 0, 0), (1, .getfield 159, 3, 8, 0), (4, .ifCond .eq (16), 20, 0, 0), (7, .aload_n 0, 0, 0, 0), (8, .aload_n 0, 0, 0, 0), (9, .getfield 37, 3, 7, 0), (12, .iconst 0, 0, 0, 0), (13, .iaload, 0, 0, 0), (14, .invokevirtual 105, 66, 1, 0), (17, .ifCond .eq (6), 23, 0, 0), (20, .bipush (-2), 0, 0, (-2)), (22, .ireturn, 0, 0, 0), (23, .aload_n 0, 0, 0, 0), (24, .invokevirtual 149, 95, 0, 0), (27, .iconst 0, 0, 0, 0), (28, .istore_n 1, 0, 0, 0), (29, .iload_n 1, 0, 0, 0), (30, .aload_n 0, 0, 0, 0), (31, .getfield 159, 3, 8, 0), (34, .if_icmp .ge (39), 73, 0, 0), (37, .aload_n 0, 0, 0, 0), (38, .aload_n 0, 0, 0, 0), (39, .getfield 37, 3, 7, 0), (42, .iload_n 1, 0, 0, 0), (43, .iaload, 0, 0, 0), (44, .invokevirtual 105, 66, 1, 0), (47, .ifCond .ne (26), 73, 0, 0), (50, .aload_n 0, 0, 0, 0), (51, .dup, 0, 0, 0), (52, .getfield 95, 3, 4, 0), (55, .iconst 1, 0, 0, 1), (56, .aload_n 0, 0, 0, 0), (57, .getfield 37, 3, 7, 0), (60, .iload_n 1, 0, 0, 0), (61, .iaload, 0, 0, 0), (62, .ishl, 0, 0, 0), (63, .ixor, 0, 0, 0), (64, .putfield 95, 3, 4, 0), (67, .iinc 1 (1), 0, 0, 1), (70, .goto (-41), 29, 0, 0)]
def gk106_1 : List (Nat × gI) := [(73, .aload_n 0, 0, 0, 0), (74, .dup, 0, 0, 0), (75, .getfield 159, 3, 8, 0), (78, .iload_n 1, 0, 0, 0), (79, .isub, 0, 0, 0), (80, .putfield 159, 3, 8, 0), (83, .iconst 0, 0, 0, 0), (84, .istore_n 2, 0, 0, 0), (85, .iload_n 2, 0, 0, 0), (86, .aload_n 0, 0, 0, 0), (87, .getfield 159, 3, 8, 0), (90, .if_icmp .ge (23), 113, 0, 0), (93, .aload_n 0, 0, 0, 0), (94, .getfield 37, 3, 7, 0), (97, .iload_n 2, 0, 0, 0), (98, .aload_n 0, 0, 0, 0), (99, .getfield 37, 3, 7, 0), (102, .iload_n 2, 0, 0, 0), (103, .iload_n 1, 0, 0, 0), (104, .iadd, 0, 0, 0), (105, .iaload, 0, 0, 0), (106, .iastore, 0, 0, 0), (107, .iinc 2 (1), 0, 0, 1), (110, .goto (-25), 85, 0, 0), (113, .iload_n 1, 0, 0, 0), (114, .ireturn, 0, 0, 0)]
def gk106 : List (Nat × gI) := gk106_0 ++ gk106_1
def gk107_0 : List (Nat × gI) := [(0, .aload_n 0, 0, 0, 0), (1, .iconst 0, 0, 0, 0), (2, .putfield 62, 4, 0, 0), (5, .aload_n 0, 0, 0, 0), (6, .getfield 141, 4, 17, 0), (9, .ifCond .eq (22), 31, 0, 0), (12, .aload_n 0, 0, 0, 0), (13, .aload_n 0, 0, 0, 0), (14, .getfield 35, 4, 16, 0), (17, .iconst 0, 0, 0, 0), (18, .iaload, 0, 0, 0), (19, .aload_n 0, 0, 0, 0), (20, .getfield 22, 4, 11, 0), (23, .iconst 0, 0, 0, 0), (24, .iaload, 0, 0, 0), (25, .invokevirtual 163, 70, 2, 0), (28, .ifCond .eq (6), 34, 0, 0), (31, .bipush (-2), 0, 0, (-2)), (33, .ireturn, 0, 0, 0), (34, .aload_n 0, 0, 0, 0), (35, .invokevirtual 180, 97, 0, 0), (38, .iconst 0, 0, 0, 0), (39, .istore_n 1, 0, 0, 0), (40, .iload_n 1, 0, 0, 0), (41, .aload_n 0, 0, 0, 0), (42, .getfield 141, 4, 17, 0), (45, .if_icmp .ge (45), 90, 0, 0), (48, .aload_n 0, 0, 0, 0), (49, .aload_n 0, 0, 0, 0), (50, .getfield 35, 4, 16, 0), (53, .iload_n 1, 0, 0, 0), (54, .iaload, 0, 0, 0), (55, .aload_n 0, 0, 0, 0), (56, .getfield 22, 4, 11, 0), (59, .iconst 0, 0, 0, 0), (60, .iaload, 0, 0, 0), (61, .invokevirtual 163, 70, 2, 0), (64, .ifCond .ne (26), 90, 0, 0), (67, .aload_n 0, 0, 0, 0), (68, .getfield 22, 4, 11, 0)]
def gk107_1 : List (Nat × gI) := [(71, .iconst 0, 0, 0, 0), (72, .dup2, 0, 0, 0), (73, .iaload, 0, 0, 0), (74, .iconst 1, 0, 0, 1), (75, .aload_n 0, 0, 0, 0), (76, .getfield 35, 4, 16, 0), (79, .iload_n 1, 0, 0, 0), (80, .iaload, 0, 0, 0), (81, .ishl, 0, 0, 0), (82, .ixor, 0, 0, 0), (83, .iastore, 0, 0, 0), (84, .iinc 1 (1), 0, 0, 1), (87, .goto (-47), 40, 0, 0), (90, .iload_n 1, 0, 0, 0), (91, .istore_n 2, 0, 0, 0), (92, .iload_n 2, 0, 0, 0), (93, .aload_n 0, 0, 0, 0), (94, .getfield 141, 4, 17, 0), (97, .if_icmp .ge (23), 120, 0, 0), (100, .aload_n 0, 0, 0, 0), (101, .getfield 35, 4, 16, 0), (104, .iload_n 2, 0, 0, 0), (105, .iload_n 1, 0, 0, 0), (106, .isub, 0, 0, 0), (107, .aload_n 0, 0, 0, 0), (108, .getfield 35, 4, 16, 0), (111, .iload_n 2, 0, 0, 0), (112, .iaload, 0, 0, 0), (113, .iastore, 0, 0, 0), (114, .iinc 2 (1), 0, 0, 1), (117, .goto (-25), 92, 0, 0), (120, .aload_n 0, 0, 0, 0), (121, .dup, 0, 0, 0), (122, .getfield 141, 4, 17, 0), (125, .iload_n 1, 0, 0, 0), (126, .isub, 0, 0, 0), (127, .putfield 141, 4, 17, 0), (130, .iload_n 1, 0, 0, 0), (131, .ireturn, 0, 0, 0)]
def gk107 : List (Nat × gI) := gk107_0 ++ gk107_1
def gk108_0 : List (Nat × gI) := [(0, .aload_n 0, 0, 0, 0), (1, .getfield 159, 3, 8, 0), (4, .istore_n 1, 0, 0, 0), (5, .aload_n 0, 0, 0, 0), (6, .iconst 0, 0, 0, 0), (7, .putfield 159, 3, 8, 0), (10, .iload_n 1, 0, 0, 0), (11, .ireturn, 0, 0, 0)]
def gk108 : List (Nat × gI) := gk108_0
def gk109_0 : List (Nat × gI) := [(0, .aload_n 0, 0, 0, 0), (1, .iconst 0, 0, 0, 0), (2, .putfield 62, 4, 0, 0), (5, .aload_n 0, 0, 0, 0), (6, .getfield 141, 4, 17, 0), (9, .istore_n 1, 0, 0, 0), (10, .aload_n 0, 0, 0, 0), (11, .iconst 0, 0, 0, 0), (12, .putfield 141, 4, 17, 0), (15, .iload_n 1, 0, 0, 0), (16, .ireturn, 0, 0, 0)]
def gk109 : List (Nat × gI) := gk109_0
def gk110_0 : List (Nat × gI) := [(0, .aload_n 0, 0, 0, 0), (1, .iload_n 1, 0, 0, 0), (2, .sipush (255), 0, 0, 255), (5, .iand, 0, 0, 0), (6, .putfield 95, 3, 4, 0), (9, .aload_n 0, 0, 0, 0), (10, .iload_n 1, 0, 0, 0), (11, .bipush (8), 0, 0, 8), (13, .ishr, 0, 0, 0), (14, .sipush (255), 0, 0, 255), (17, .iand, 0, 0, 0), (18, .putfield 102, 3, 5, 0), (21, .aload_n 0, 0, 0, 0), (22, .iload_n 1, 0, 0, 0), (23, .bipush (16), 0, 0, 16), (25, .ishr, 0, 0, 0), (26, .bipush (15), 0, 0, 15), (28, .iand, 0, 0, 0), (29, .iload_n 1, 0, 0, 0), (30, .bipush (20), 0, 0, 20), (32, .ishr, 0, 0, 0), (33, .bipush (15), 0, 0, 15), (35, .iand, 0, 0, 0), (36, .iload_n 1, 0, 0, 0), (37, .bipush (24), 0, 0, 24), (39, .ishr, 0, 0, 0), (40, .bipush (15), 0, 0, 15), (42, .iand, 0, 0, 0), (43, .invokevirtual 155, 3, 3, 0), (46, .return_, 0, 0, 0)]
def gk110 : List (Nat × gI) := gk110_0
def gk111_0 : List (Nat × gI) := [(0, .aload_n 0, 0, 0, 0), (1, .getfield 146, 3, 10, 0), (4, .ifCond .ne (6), 10, 0, 0), (7, .bipush (-2), 0, 0, (-2)), (9, .ireturn, 0, 0, 0), (10, .aload_n 0, 0, 0, 0), (11, .dup, 0, 0, 0), (12, .getfield 146, 3, 10, 0), (15, .iconst 1, 0, 0, 1), (16, .isub, 0, 0, 0), (17, .putfield 146, 3, 10, 0), (20, .aload_n 0, 0, 0, 0), (21, .aload_n 0, 0, 0, 0), (22, .getfield 40, 3, 9, 0), (25, .aload_n 0, 0, 0, 0), (26, .getfield 146, 3, 10, 0), (29, .iaload, 0, 0, 0), (30, .invokevirtual 162, 110, 1, 0), (33, .aload_n 0, 0, 0, 0), (34, .getfield 146, 3, 10, 0), (37, .ireturn, 0, 0, 0)]
def gk111 : List (Nat × gI) := gk111_0
def gk112_0 : List (Nat × gI) := [(0, .aload_n 0, 0, 0, 0), (1, .iconst 0, 0, 0, 0), (2, .putfield 62, 4, 0, 0), (5, .aload_n 0, 0, 0, 0), (6, .getfield 147, 4, 13, 0), (9, .ifCond .ne (6), 15, 0, 0), (12, .bipush (-2), 0, 0, (-2)), (14, .ireturn, 0, 0, 0), (15, .aload_n 0, 0, 0, 0), (16, .dup, 0, 0, 0), (17, .getfield 147, 4, 13, 0), (20, .iconst 1, 0, 0, 1), (21, .isub, 0, 0, 0), (22, .putfield 147, 4, 13, 0), (25, .iconst 0, 0, 0, 0), (26, .istore_n 1, 0, 0, 0), (27, .iload_n 1, 0, 0, 0), (28, .iconst 5, 0, 0, 5), (29, .if_icmp .ge (28), 57, 0, 0), (32, .aload_n 0, 0, 0, 0), (33, .getfield 22, 4, 11, 0), (36, .iload_n 1, 0, 0, 0), (37, .aload_n 0, 0, 0, 0), (38, .getfield 25, 4, 12, 0), (41, .iconst 5, 0, 0, 5), (42, .aload_n 0, 0, 0, 0), (43, .getfield 147, 4, 13, 0), (46, .imul, 0, 0, 0), (47, .iload_n 1, 0, 0, 0), (48, .iadd, 0, 0, 0), (49, .iaload, 0, 0, 0), (50, .iastore, 0, 0, 0), (51, .iinc 1 (1), 0, 0, 1), (54, .goto (-27), 27, 0, 0), (57, .aload_n 0, 0, 0, 0), (58, .getfield 147, 4, 13, 0), (61, .ireturn, 0, 0, 0)]
def gk112 : List (Nat × gI) := gk112_0
def gk113_0 : List (Nat × gI) := [(0, .iconst 0, 0, 0, 0), (1, .istore_n 2, 0, 0, 0), (2, .iload_n 2, 0, 0, 0), (3, .aload_n 0, 0, 0, 0), (4, .getfield 26, 3, 2, 0), (7, .getfield 112, 1, 3, 0), (10, .if_icmp .ge (68), 78, 0, 0), (13, .aload_n 0, 0, 0, 0), (14, .getfield 102, 3, 5, 0), (17, .iload_n 2, 0, 0, 0), (18, .invokestatic 98, 19, 2, 0), (21, .ifCond .ne (51), 72, 0, 0), (24, .aload_n 0, 0, 0, 0), (25, .getfield 26, 3, 2, 0), (28, .iload_n 1, 0, 0, 0), (29, .iload_n 2, 0, 0, 0), (30, .invokevirtual 225, 65, 2, 0), (33, .ifCond .ne (39), 72, 0, 0), (36, .aload_n 0, 0, 0, 0), (37, .getfield 49, 3, 15, 0), (40, .iload_n 1, 0, 0, 0), (41, .iconst 1, 0, 0, 1), (42, .iload_n 2, 0, 0, 0), (43, .ishl, 0, 0, 0), (44, .ixor, 0, 0, 0), (45, .iaload, 0, 0, 0), (46, .aload_n 0, 0, 0, 0), (47, .getfield 33, 3, 6, 0), (50, .aload_n 0, 0, 0, 0), (51, .getfield 26, 3, 2, 0), (54, .getfield 83, 1, 6, 0), (57, .iload_n 2, 0, 0, 0), (58, .iaload, 0, 0, 0), (59, .iaload, 0, 0, 0), (60, .iadd, 0, 0, 0), (61, .aload_n 0, 0, 0, 0), (62, .getfield 49, 3, 15, 0), (65, .iload_n 1, 0, 0, 0), (66, .iaload, 0, 0, 0), (67, .if_icmp .ne (5), 72, 0, 0)]
def gk113_1 : List (Nat × gI) := [(70, .iload_n 2, 0, 0, 0), (71, .ireturn, 0, 0, 0), (72, .iinc 2 (1), 0, 0, 1), (75, .goto (-73), 2, 0, 0), (78, .bipush (-9), 0, 0, (-9)), (80, .ireturn, 0, 0, 0)]
def gk113 : List (Nat × gI) := gk113_0 ++ gk113_1
def gk114_0 : List (Nat × gI) := [(0, .aload_n 0, 0, 0, 0), (1, .getfield 49, 3, 15, 0), (4, .aload_n 0, 0, 0, 0), (5, .getfield 95, 3, 4, 0), (8, .iaload, 0, 0, 0), (9, .istore_n 2, 0, 0, 0), (10, .iload_n 2, 0, 0, 0), (11, .iconst (-1), 0, 0, (-1)), (12, .if_icmp .ne (6), 18, 0, 0), (15, .bipush (-9), 0, 0, (-9)), (17, .ireturn, 0, 0, 0), (18, .iload_n 1, 0, 0, 0), (19, .ifCond .ge (5), 24, 0, 0), (22, .iload_n 2, 0, 0, 0), (23, .ireturn, 0, 0, 0), (24, .aload_n 0, 0, 0, 0), (25, .getfield 95, 3, 4, 0), (28, .istore_n 3, 0, 0, 0), (29, .iconst 0, 0, 0, 0), (30, .istore 4, 0, 0, 0), (32, .iload 4, 0, 0, 0), (34, .sipush (256), 0, 0, 256), (37, .if_icmp .ge (57), 94, 0, 0), (40, .iload 4, 0, 0, 0), (42, .iload_n 1, 0, 0, 0), (43, .if_icmp .gt (51), 94, 0, 0), (46, .aload_n 0, 0, 0, 0), (47, .getfield 49, 3, 15, 0), (50, .iload_n 3, 0, 0, 0), (51, .iaload, 0, 0, 0), (52, .ifCond .le (42), 94, 0, 0), (55, .aload_n 0, 0, 0, 0), (56, .iload_n 3, 0, 0, 0), (57, .invokevirtual 233, 113, 1, 0), (60, .istore 5, 0, 0, 0), (62, .iload 5, 0, 0, 0), (64, .bipush (-9), 0, 0, (-9)), (66, .if_icmp .ne (6), 72, 0, 0), (69, .bipush (-9), 0, 0, (-9)), (71, .ireturn, 0, 0, 0)]
def gk114_1 : List (Nat × gI) := [(72, .iload 4, 0, 0, 0), (74, .iload_n 1, 0, 0, 0), (75, .if_icmp .ne (6), 81, 0, 0), (78, .iload 5, 0, 0, 0), (80, .ireturn, 0, 0, 0), (81, .iload_n 3, 0, 0, 0), (82, .iconst 1, 0, 0, 1), (83, .iload 5, 0, 0, 0), (85, .ishl, 0, 0, 0), (86, .ixor, 0, 0, 0), (87, .istore_n 3, 0, 0, 0), (88, .iinc 4 (1), 0, 0, 1), (91, .goto (-59), 32, 0, 0), (94, .bipush (-9), 0, 0, (-9)), (96, .ireturn, 0, 0, 0)]
def gk114 : List (Nat × gI) := gk114_0 ++ gk114_1
def gk115_0 : List (Nat × gI) := [(0, .iload_n 1, 0, 0, 0), (1, .aload_n 0, 0, 0, 0), (2, .getfield 26, 3, 2, 0), (5, .invokevirtual 166, 35, 0, 0), (8, .iconst (-1), 0, 0, (-1)), (9, .ixor, 0, 0, 0), (10, .iand, 0, 0, 0), (11, .ifCond .ne (16), 27, 0, 0), (14, .iload_n 2, 0, 0, 0), (15, .iload_n 1, 0, 0, 0), (16, .iconst (-1), 0, 0, (-1)), (17, .ixor, 0, 0, 0), (18, .iand, 0, 0, 0), (19, .ifCond .ne (8), 27, 0, 0), (22, .iload_n 3, 0, 0, 0), (23, .iconst (-1), 0, 0, (-1)), (24, .if_icmp .ge (5), 29, 0, 0), (27, .iconst (-1), 0, 0, (-1)), (28, .ireturn, 0, 0, 0), (29, .aload_n 0, 0, 0, 0), (30, .iload_n 1, 0, 0, 0), (31, .iload_n 2, 0, 0, 0), (32, .iconst 0, 0, 0, 0), (33, .iconst 0, 0, 0, 0), (34, .invokevirtual 169, 83, 4, 0), (37, .aload_n 0, 0, 0, 0), (38, .iload_n 3, 0, 0, 0), (39, .invokevirtual 173, 114, 1, 0), (42, .ireturn, 0, 0, 0)]
def gk115 : List (Nat × gI) := gk115_0
def gk116_0 : List (Nat × gI) := [(0, .aload_n 0, 0, 0, 0), (1, .invokevirtual 186, 90, 0, 0), (4, .iconst 0, 0, 0, 0), (5, .istore_n 1, 0, 0, 0), (6, .iload_n 1, 0, 0, 0), (7, .aload_n 0, 0, 0, 0), (8, .invokevirtual 183, 89, 0, 0), (11, .if_icmp .ge (30), 41, 0, 0), (14, .aload_n 0, 0, 0, 0), (15, .getfield 47, 4, 22, 0), (18, .iload_n 1, 0, 0, 0), (19, .aload_n 0, 0, 0, 0), (20, .getfield 50, 4, 23, 0), (23, .iload_n 1, 0, 0, 0), (24, .baload, 0, 0, 0), (25, .ifCond .eq (7), 32, 0, 0), (28, .iconst 0, 0, 0, 0), (29, .goto (5), 34, 0, 0), (32, .ldc 189, 0, 0, 99999), (34, .iastore, 0, 0, 0), (35, .iinc 1 (1), 0, 0, 1), (38, .goto (-32), 6, 0, 0), (41, .iconst 1, 0, 0, 1), (42, .istore_n 1, 0, 0, 0), (43, .iload_n 1, 0, 0, 0), (44, .ifCond .eq (128), 172, 0, 0), (47, .iconst 0, 0, 0, 0), (48, .istore_n 1, 0, 0, 0), (49, .iconst 0, 0, 0, 0), (50, .istore_n 2, 0, 0, 0), (51, .iload_n 2, 0, 0, 0), (52, .aload_n 0, 0, 0, 0), (53, .invokevirtual 183, 89, 0, 0), (56, .if_icmp .ge (113), 169, 0, 0), (59, .iconst 0, 0, 0, 0), (60, .istore_n 3, 0, 0, 0), (61, .iload_n 3, 0, 0, 0), (62, .aload_n 0, 0, 0, 0), (63, .getfield 13, 4, 8, 0), (66, .iconst 3, 0, 0, 3)]
def gk116_1 : List (Nat × gI) := [(67, .iaload, 0, 0, 0), (68, .if_icmp .ge (95), 163, 0, 0), (71, .aload_n 0, 0, 0, 0), (72, .getfield 53, 4, 24, 0), (75, .bipush (8), 0, 0, 8), (77, .iload_n 2, 0, 0, 0), (78, .imul, 0, 0, 0), (79, .iload_n 3, 0, 0, 0), (80, .iadd, 0, 0, 0), (81, .baload, 0, 0, 0), (82, .ifCond .eq (22), 104, 0, 0), (85, .aload_n 0, 0, 0, 0), (86, .getfield 47, 4, 22, 0), (89, .iload_n 2, 0, 0, 0), (90, .iconst 1, 0, 0, 1), (91, .iload_n 3, 0, 0, 0), (92, .ishl, 0, 0, 0), (93, .ixor, 0, 0, 0), (94, .iaload, 0, 0, 0), (95, .aload_n 0, 0, 0, 0), (96, .iload_n 3, 0, 0, 0), (97, .invokevirtual 190, 91, 1, 0), (100, .iadd, 0, 0, 0), (101, .goto (5), 106, 0, 0), (104, .ldc 189, 0, 0, 99999), (106, .istore 4, 0, 0, 0), (108, .iload_n 1, 0, 0, 0), (109, .ifCond .ne (14), 123, 0, 0), (112, .iload 4, 0, 0, 0), (114, .aload_n 0, 0, 0, 0), (115, .getfield 47, 4, 22, 0), (118, .iload_n 2, 0, 0, 0), (119, .iaload, 0, 0, 0), (120, .if_icmp .ge (7), 127, 0, 0), (123, .iconst 1, 0, 0, 1), (124, .goto (4), 128, 0, 0), (127, .iconst 0, 0, 0, 0), (128, .istore_n 1, 0, 0, 0), (129, .aload_n 0, 0, 0, 0), (130, .getfield 47, 4, 22, 0)]
def gk116_2 : List (Nat × gI) := [(133, .iload_n 2, 0, 0, 0), (134, .iload 4, 0, 0, 0), (136, .aload_n 0, 0, 0, 0), (137, .getfield 47, 4, 22, 0), (140, .iload_n 2, 0, 0, 0), (141, .iaload, 0, 0, 0), (142, .if_icmp .ge (8), 150, 0, 0), (145, .iload 4, 0, 0, 0), (147, .goto (9), 156, 0, 0), (150, .aload_n 0, 0, 0, 0), (151, .getfield 47, 4, 22, 0), (154, .iload_n 2, 0, 0, 0), (155, .iaload, 0, 0, 0), (156, .iastore, 0, 0, 0), (157, .iinc 3 (1), 0, 0, 1), (160, .goto (-99), 61, 0, 0), (163, .iinc 2 (1), 0, 0, 1), (166, .goto (-115), 51, 0, 0), (169, .goto (-126), 43, 0, 0), (172, .return_, 0, 0, 0)]
def gk116 : List (Nat × gI) := gk116_0 ++ gk116_1 ++ gk116_2
def gk117_0 : List (Nat × gI) := [(0, .aload_n 0, 0, 0, 0), (1, .invokevirtual 193, 116, 0, 0), (4, .aload_n 0, 0, 0, 0), (5, .getfield 22, 4, 11, 0), (8, .iconst 0, 0, 0, 0), (9, .iaload, 0, 0, 0), (10, .istore_n 2, 0, 0, 0), (11, .aload_n 0, 0, 0, 0), (12, .getfield 47, 4, 22, 0), (15, .iload_n 2, 0, 0, 0), (16, .iaload, 0, 0, 0), (17, .ldc 189, 0, 0, 99999), (19, .if_icmp .lt (6), 25, 0, 0), (22, .bipush (-9), 0, 0, (-9)), (24, .ireturn, 0, 0, 0), (25, .aload_n 0, 0, 0, 0), (26, .getfield 47, 4, 22, 0), (29, .iload_n 2, 0, 0, 0), (30, .iaload, 0, 0, 0), (31, .istore_n 3, 0, 0, 0), (32, .iconst 0, 0, 0, 0), (33, .istore 4, 0, 0, 0), (35, .iload 4, 0, 0, 0), (37, .iload_n 1, 0, 0, 0), (38, .if_icmp .gt (82), 120, 0, 0), (41, .aload_n 0, 0, 0, 0), (42, .getfield 47, 4, 22, 0), (45, .iload_n 2, 0, 0, 0), (46, .iaload, 0, 0, 0), (47, .ifCond .ne (6), 53, 0, 0), (50, .bipush (-9), 0, 0, (-9)), (52, .ireturn, 0, 0, 0), (53, .iconst 0, 0, 0, 0), (54, .istore 5, 0, 0, 0), (56, .aload_n 0, 0, 0, 0), (57, .getfield 53, 4, 24, 0), (60, .bipush (8), 0, 0, 8), (62, .iload_n 2, 0, 0, 0), (63, .imul, 0, 0, 0), (64, .iload 5, 0, 0, 0)]
def gk117_1 : List (Nat × gI) := [(66, .iadd, 0, 0, 0), (67, .baload, 0, 0, 0), (68, .ifCond .eq (30), 98, 0, 0), (71, .aload_n 0, 0, 0, 0), (72, .getfield 47, 4, 22, 0), (75, .iload_n 2, 0, 0, 0), (76, .iconst 1, 0, 0, 1), (77, .iload 5, 0, 0, 0), (79, .ishl, 0, 0, 0), (80, .ixor, 0, 0, 0), (81, .iaload, 0, 0, 0), (82, .aload_n 0, 0, 0, 0), (83, .iload 5, 0, 0, 0), (85, .invokevirtual 190, 91, 1, 0), (88, .iadd, 0, 0, 0), (89, .aload_n 0, 0, 0, 0), (90, .getfield 47, 4, 22, 0), (93, .iload_n 2, 0, 0, 0), (94, .iaload, 0, 0, 0), (95, .if_icmp .eq (9), 104, 0, 0), (98, .iinc 5 (1), 0, 0, 1), (101, .goto (-45), 56, 0, 0), (104, .iload_n 2, 0, 0, 0), (105, .iconst 1, 0, 0, 1), (106, .iload 5, 0, 0, 0), (108, .ishl, 0, 0, 0), (109, .ixor, 0, 0, 0), (110, .istore_n 2, 0, 0, 0), (111, .iload 5, 0, 0, 0), (113, .istore_n 3, 0, 0, 0), (114, .iinc 4 (1), 0, 0, 1), (117, .goto (-82), 35, 0, 0), (120, .iload_n 3, 0, 0, 0), (121, .ireturn, 0, 0, 0)]
def gk117 : List (Nat × gI) := gk117_0 ++ gk117_1
def gk118_0 : List (Nat × gI) := [(0, .aload_n 0, 0, 0, 0), (1, .iconst 0, 0, 0, 0), (2, .putfield 62, 4, 0, 0), (5, .iload_n 1, 0, 0, 0), (6, .iconst 0, 0, 0, 0), (7, .aload_n 0, 0, 0, 0), (8, .invokevirtual 183, 89, 0, 0), (11, .iconst 1, 0, 0, 1), (12, .isub, 0, 0, 0), (13, .invokestatic 66, 10, 3, 0), (16, .ifCond .eq (20), 36, 0, 0), (19, .iload_n 2, 0, 0, 0), (20, .ifCond .lt (16), 36, 0, 0), (23, .iload_n 2, 0, 0, 0), (24, .iload_n 1, 0, 0, 0), (25, .iconst (-1), 0, 0, (-1)), (26, .ixor, 0, 0, 0), (27, .iand, 0, 0, 0), (28, .ifCond .ne (8), 36, 0, 0), (31, .iload_n 3, 0, 0, 0), (32, .iconst (-1), 0, 0, (-1)), (33, .if_icmp .ge (5), 38, 0, 0), (36, .iconst (-1), 0, 0, (-1)), (37, .ireturn, 0, 0, 0), (38, .iconst 0, 0, 0, 0), (39, .istore 4, 0, 0, 0), (41, .iload 4, 0, 0, 0), (43, .aload_n 0, 0, 0, 0), (44, .invokevirtual 183, 89, 0, 0), (47, .if_icmp .ge (29), 76, 0, 0), (50, .aload_n 0, 0, 0, 0), (51, .getfield 50, 4, 23, 0), (54, .iload 4, 0, 0, 0), (56, .iload 4, 0, 0, 0), (58, .iload_n 1, 0, 0, 0), (59, .iand, 0, 0, 0), (60, .iload_n 2, 0, 0, 0), (61, .if_icmp .ne (7), 68, 0, 0), (64, .iconst 1, 0, 0, 1), (65, .goto (4), 69, 0, 0)]
def gk118_1 : List (Nat × gI) := [(68, .iconst 0, 0, 0, 0), (69, .bastore, 0, 0, 0), (70, .iinc 4 (1), 0, 0, 1), (73, .goto (-32), 41, 0, 0), (76, .aload_n 0, 0, 0, 0), (77, .iload_n 3, 0, 0, 0), (78, .invokevirtual 196, 117, 1, 0), (81, .ireturn, 0, 0, 0)]
def gk118 : List (Nat × gI) := gk118_0 ++ gk118_1
def gk119_0 : List (Nat × gI) := [(0, .aload_n 0, 0, 0, 0), (1, .iload_n 1, 0, 0, 0), (2, .invokevirtual 115, 74, 1, 0), (5, .ifCond .eq (8), 13, 0, 0), (8, .iload_n 2, 0, 0, 0), (9, .iconst (-1), 0, 0, (-1)), (10, .if_icmp .ge (5), 15, 0, 0), (13, .iconst (-1), 0, 0, (-1)), (14, .ireturn, 0, 0, 0), (15, .aload_n 0, 0, 0, 0), (16, .iconst 0, 0, 0, 0), (17, .iconst 0, 0, 0, 0), (18, .iconst 1, 0, 0, 1), (19, .iload_n 1, 0, 0, 0), (20, .ishl, 0, 0, 0), (21, .iconst 0, 0, 0, 0), (22, .invokevirtual 169, 83, 4, 0), (25, .aload_n 0, 0, 0, 0), (26, .iload_n 2, 0, 0, 0), (27, .invokevirtual 173, 114, 1, 0), (30, .ireturn, 0, 0, 0)]
def gk119 : List (Nat × gI) := gk119_0
def gk120_0 : List (Nat × gI) := [(0, .aload_n 0, 0, 0, 0), (1, .iconst 0, 0, 0, 0), (2, .putfield 62, 4, 0, 0), (5, .aload_n 0, 0, 0, 0), (6, .iload_n 1, 0, 0, 0), (7, .invokevirtual 167, 77, 1, 0), (10, .ifCond .eq (8), 18, 0, 0), (13, .iload_n 2, 0, 0, 0), (14, .iconst (-1), 0, 0, (-1)), (15, .if_icmp .ge (5), 20, 0, 0), (18, .iconst (-1), 0, 0, (-1)), (19, .ireturn, 0, 0, 0), (20, .iconst 0, 0, 0, 0), (21, .istore_n 3, 0, 0, 0), (22, .iload_n 3, 0, 0, 0), (23, .aload_n 0, 0, 0, 0), (24, .invokevirtual 183, 89, 0, 0), (27, .if_icmp .ge (52), 79, 0, 0), (30, .aload_n 0, 0, 0, 0), (31, .getfield 50, 4, 23, 0), (34, .iload_n 3, 0, 0, 0), (35, .aload_n 0, 0, 0, 0), (36, .aload_n 0, 0, 0, 0), (37, .getfield 13, 4, 8, 0), (40, .iload_n 3, 0, 0, 0), (41, .invokevirtual 135, 61, 2, 0), (44, .iload_n 1, 0, 0, 0), (45, .invokestatic 111, 53, 2, 0), (48, .ifCond .ne (23), 71, 0, 0), (51, .aload_n 0, 0, 0, 0), (52, .aload_n 0, 0, 0, 0), (53, .getfield 13, 4, 8, 0), (56, .iload_n 3, 0, 0, 0), (57, .invokevirtual 138, 62, 2, 0), (60, .iload_n 1, 0, 0, 0), (61, .invokestatic 111, 53, 2, 0), (64, .ifCond .eq (7), 71, 0, 0), (67, .iconst 1, 0, 0, 1), (68, .goto (4), 72, 0, 0), (71, .iconst 0, 0, 0, 0)]
def gk120_1 : List (Nat × gI) := [(72, .bastore, 0, 0, 0), (73, .iinc 3 (1), 0, 0, 1), (76, .goto (-54), 22, 0, 0), (79, .aload_n 0, 0, 0, 0), (80, .iload_n 2, 0, 0, 0), (81, .invokevirtual 196, 117, 1, 0), (84, .ireturn, 0, 0, 0)]
def gk120 : List (Nat × gI) := gk120_0 ++ gk120_1
def gk121_0 : List (Nat × gI) := [(0, .iload_n 1, 0, 0, 0), (1, .iconst (-1), 0, 0, (-1)), (2, .if_icmp .ge (5), 7, 0, 0), (5, .iconst (-1), 0, 0, (-1)), (6, .ireturn, 0, 0, 0), (7, .aload_n 0, 0, 0, 0), (8, .iconst 0, 0, 0, 0), (9, .iconst 0, 0, 0, 0), (10, .iconst 0, 0, 0, 0), (11, .aload_n 0, 0, 0, 0), (12, .getfield 26, 3, 2, 0), (15, .getfield 130, 1, 2, 0), (18, .invokevirtual 169, 83, 4, 0), (21, .aload_n 0, 0, 0, 0), (22, .iload_n 1, 0, 0, 0), (23, .invokevirtual 173, 114, 1, 0), (26, .ireturn, 0, 0, 0)]
def gk121 : List (Nat × gI) := gk121_0
def gk122_0 : List (Nat × gI) := [(0, .aload_n 0, 0, 0, 0), (1, .iconst 0, 0, 0, 0), (2, .putfield 62, 4, 0, 0), (5, .iload_n 1, 0, 0, 0), (6, .iconst (-1), 0, 0, (-1)), (7, .if_icmp .ge (5), 12, 0, 0), (10, .iconst (-1), 0, 0, (-1)), (11, .ireturn, 0, 0, 0), (12, .iconst 0, 0, 0, 0), (13, .istore_n 2, 0, 0, 0), (14, .iload_n 2, 0, 0, 0), (15, .aload_n 0, 0, 0, 0), (16, .invokevirtual 183, 89, 0, 0), (19, .if_icmp .ge (41), 60, 0, 0), (22, .aload_n 0, 0, 0, 0), (23, .getfield 50, 4, 23, 0), (26, .iload_n 2, 0, 0, 0), (27, .aload_n 0, 0, 0, 0), (28, .getfield 13, 4, 8, 0), (31, .iconst 2, 0, 0, 2), (32, .iaload, 0, 0, 0), (33, .aload_n 0, 0, 0, 0), (34, .aload_n 0, 0, 0, 0), (35, .getfield 13, 4, 8, 0), (38, .iload_n 2, 0, 0, 0), (39, .invokevirtual 135, 61, 2, 0), (42, .iconst (-1), 0, 0, (-1)), (43, .ixor, 0, 0, 0), (44, .iand, 0, 0, 0), (45, .ifCond .ne (7), 52, 0, 0), (48, .iconst 1, 0, 0, 1), (49, .goto (4), 53, 0, 0), (52, .iconst 0, 0, 0, 0), (53, .bastore, 0, 0, 0), (54, .iinc 2 (1), 0, 0, 1), (57, .goto (-43), 14, 0, 0), (60, .aload_n 0, 0, 0, 0), (61, .iload_n 1, 0, 0, 0), (62, .invokevirtual 196, 117, 1, 0), (65, .ireturn, 0, 0, 0)]
def gk122 : List (Nat × gI) := gk122_0
def gk123_0 : List (Nat × gI) := [(0, .iconst 0, 0, 0, 0), (1, .istore_n 2, 0, 0, 0), (2, .iconst 0, 0, 0, 0), (3, .istore_n 3, 0, 0, 0), (4, .iload_n 3, 0, 0, 0), (5, .aload_n 0, 0, 0, 0), (6, .getfield 51, 1, 3, 0), (9, .if_icmp .ge (25), 34, 0, 0), (12, .aload_n 0, 0, 0, 0), (13, .getfield 15, 1, 6, 0), (16, .iload_n 3, 0, 0, 0), (17, .iaload, 0, 0, 0), (18, .iload_n 1, 0, 0, 0), (19, .if_icmp .ne (9), 28, 0, 0), (22, .iload_n 2, 0, 0, 0), (23, .iconst 1, 0, 0, 1), (24, .iload_n 3, 0, 0, 0), (25, .ishl, 0, 0, 0), (26, .ior, 0, 0, 0), (27, .istore_n 2, 0, 0, 0), (28, .iinc 3 (1), 0, 0, 1), (31, .goto (-27), 4, 0, 0), (34, .iload_n 2, 0, 0, 0), (35, .ireturn, 0, 0, 0)]
def gk123 : List (Nat × gI) := gk123_0
def gk124_0 : List (Nat × gI) := [(0, .iconst 1, 0, 0, 1), (1, .istore_n 2, 0, 0, 0), (2, .iconst 0, 0, 0, 0), (3, .istore_n 3, 0, 0, 0), (4, .iload_n 3, 0, 0, 0), (5, .iload_n 1, 0, 0, 0), (6, .if_icmp .ge (13), 19, 0, 0), (9, .iload_n 2, 0, 0, 0), (10, .iload_n 0, 0, 0, 0), (11, .imul, 0, 0, 0), (12, .istore_n 2, 0, 0, 0), (13, .iinc 3 (1), 0, 0, 1), (16, .goto (-12), 4, 0, 0), (19, .iload_n 2, 0, 0, 0), (20, .ireturn, 0, 0, 0)]
def gk124 : List (Nat × gI) := gk124_0
def gk125_0 : List (Nat × gI) := [(0, .aload_n 0, 0, 0, 0), (1, .getfield 26, 3, 2, 0), (4, .getfield 118, 1, 10, 0), (7, .aload_n 0, 0, 0, 0), (8, .getfield 95, 3, 4, 0), (11, .iaload, 0, 0, 0), (12, .aload_n 0, 0, 0, 0), (13, .getfield 26, 3, 2, 0), (16, .getfield 130, 1, 2, 0), (19, .iand, 0, 0, 0), (20, .istore_n 3, 0, 0, 0), (21, .iconst 0, 0, 0, 0), (22, .istore 4, 0, 0, 0), (24, .iconst 0, 0, 0, 0), (25, .istore 5, 0, 0, 0), (27, .iload 5, 0, 0, 0), (29, .iload_n 1, 0, 0, 0), (30, .if_icmp .gt (72), 102, 0, 0), (33, .iload 5, 0, 0, 0), (35, .iload_n 1, 0, 0, 0), (36, .iconst (-1), 0, 0, (-1)), (37, .ixor, 0, 0, 0), (38, .iand, 0, 0, 0), (39, .ifCond .ne (57), 96, 0, 0), (42, .aload_n 0, 0, 0, 0), (43, .getfield 26, 3, 2, 0), (46, .getfield 118, 1, 10, 0), (49, .aload_n 0, 0, 0, 0), (50, .getfield 95, 3, 4, 0), (53, .iload 5, 0, 0, 0), (55, .iconst (-1), 0, 0, (-1)), (56, .ixor, 0, 0, 0), (57, .iand, 0, 0, 0), (58, .iaload, 0, 0, 0), (59, .iload_n 3, 0, 0, 0), (60, .iand, 0, 0, 0), (61, .iload_n 3, 0, 0, 0), (62, .if_icmp .ne (34), 96, 0, 0), (65, .iload 4, 0, 0, 0), (67, .iload_n 2, 0, 0, 0)]
def gk125_1 : List (Nat × gI) := [(68, .iload 5, 0, 0, 0), (70, .invokestatic 179, 26, 1, 0), (73, .invokestatic 184, 124, 2, 0), (76, .bipush (10), 0, 0, 10), (78, .iload_n 2, 0, 0, 0), (79, .isub, 0, 0, 0), (80, .iload_n 1, 0, 0, 0), (81, .iload 5, 0, 0, 0), (83, .iconst (-1), 0, 0, (-1)), (84, .ixor, 0, 0, 0), (85, .iand, 0, 0, 0), (86, .invokestatic 179, 26, 1, 0), (89, .invokestatic 184, 124, 2, 0), (92, .imul, 0, 0, 0), (93, .iadd, 0, 0, 0), (94, .istore 4, 0, 0, 0), (96, .iinc 5 (1), 0, 0, 1), (99, .goto (-72), 27, 0, 0), (102, .iload 4, 0, 0, 0), (104, .ireturn, 0, 0, 0)]
def gk125 : List (Nat × gI) := gk125_0 ++ gk125_1
def gk126_0 : List (Nat × gI) := [(0, .iload_n 0, 0, 0, 0), (1, .istore_n 2, 0, 0, 0), (2, .iload_n 1, 0, 0, 0), (3, .istore_n 3, 0, 0, 0), (4, .iconst 0, 0, 0, 0), (5, .istore 4, 0, 0, 0), (7, .iload 4, 0, 0, 0), (9, .bipush (100), 0, 0, 100), (11, .if_icmp .ge (23), 34, 0, 0), (14, .iload_n 3, 0, 0, 0), (15, .ifCond .eq (19), 34, 0, 0), (18, .iload_n 2, 0, 0, 0), (19, .iload_n 3, 0, 0, 0), (20, .irem, 0, 0, 0), (21, .istore 5, 0, 0, 0), (23, .iload_n 3, 0, 0, 0), (24, .istore_n 2, 0, 0, 0), (25, .iload 5, 0, 0, 0), (27, .istore_n 3, 0, 0, 0), (28, .iinc 4 (1), 0, 0, 1), (31, .goto (-24), 7, 0, 0), (34, .iload_n 2, 0, 0, 0), (35, .ireturn, 0, 0, 0)]
def gk126 : List (Nat × gI) := gk126_0
def gk127_0 : List (Nat × gI) := [(0, .iload_n 1, 0, 0, 0), (1, .ifCond .lt (18), 19, 0, 0), (4, .iload_n 1, 0, 0, 0), (5, .bipush (10), 0, 0, 10), (7, .if_icmp .gt (12), 19, 0, 0), (10, .iload_n 2, 0, 0, 0), (11, .ifCond .lt (8), 19, 0, 0), (14, .iload_n 2, 0, 0, 0), (15, .iconst 1, 0, 0, 1), (16, .if_icmp .le (5), 21, 0, 0), (19, .iconst (-1), 0, 0, (-1)), (20, .ireturn, 0, 0, 0), (21, .aload_n 0, 0, 0, 0), (22, .getfield 95, 3, 4, 0), (25, .aload_n 0, 0, 0, 0), (26, .getfield 26, 3, 2, 0), (29, .iconst 0, 0, 0, 0), (30, .invokevirtual 176, 123, 1, 0), (33, .iand, 0, 0, 0), (34, .istore_n 3, 0, 0, 0), (35, .bipush (10), 0, 0, 10), (37, .iload_n 3, 0, 0, 0), (38, .invokestatic 179, 26, 1, 0), (41, .invokestatic 184, 124, 2, 0), (44, .istore 4, 0, 0, 0), (46, .aload_n 0, 0, 0, 0), (47, .iload_n 3, 0, 0, 0), (48, .iload_n 1, 0, 0, 0), (49, .invokevirtual 187, 125, 2, 0), (52, .istore 5, 0, 0, 0), (54, .iload 4, 0, 0, 0), (56, .iload 5, 0, 0, 0), (58, .invokestatic 190, 126, 2, 0), (61, .istore 6, 0, 0, 0), (63, .iload 6, 0, 0, 0), (65, .ifCond .ne (5), 70, 0, 0), (68, .iconst (-1), 0, 0, (-1)), (69, .ireturn, 0, 0, 0), (70, .iload_n 2, 0, 0, 0), (71, .ifCond .ne (8), 79, 0, 0)]
def gk127_1 : List (Nat × gI) := [(74, .iload 5, 0, 0, 0), (76, .goto (5), 81, 0, 0), (79, .iload 4, 0, 0, 0), (81, .iload 6, 0, 0, 0), (83, .idiv, 0, 0, 0), (84, .ireturn, 0, 0, 0)]
def gk127 : List (Nat × gI) := gk127_0 ++ gk127_1
def gk128_0 : List (Nat × gI) := [(0, .iload_n 0, 0, 0, 0), (1, .istore_n 2, 0, 0, 0), (2, .iload_n 1, 0, 0, 0), (3, .istore_n 3, 0, 0, 0), (4, .iload_n 3, 0, 0, 0), (5, .ifCond .eq (16), 21, 0, 0), (8, .iload_n 2, 0, 0, 0), (9, .iload_n 3, 0, 0, 0), (10, .irem, 0, 0, 0), (11, .istore 4, 0, 0, 0), (13, .iload_n 3, 0, 0, 0), (14, .istore_n 2, 0, 0, 0), (15, .iload 4, 0, 0, 0), (17, .istore_n 3, 0, 0, 0), (18, .goto (-14), 4, 0, 0), (21, .iload_n 2, 0, 0, 0), (22, .ireturn, 0, 0, 0)]
def gk128 : List (Nat × gI) := gk128_0
def gk129_0 : List (Nat × gI) := [(0, .aload_n 0, 0, 0, 0), (1, .iconst 0, 0, 0, 0), (2, .putfield 62, 4, 0, 0), (5, .iload_n 1, 0, 0, 0), (6, .iconst 0, 0, 0, 0), (7, .bipush (10), 0, 0, 10), (9, .invokestatic 66, 10, 3, 0), (12, .ifCond .eq (12), 24, 0, 0), (15, .iload_n 2, 0, 0, 0), (16, .iconst 0, 0, 0, 0), (17, .iconst 1, 0, 0, 1), (18, .invokestatic 66, 10, 3, 0), (21, .ifCond .ne (5), 26, 0, 0), (24, .iconst (-1), 0, 0, (-1)), (25, .ireturn, 0, 0, 0), (26, .iconst 0, 0, 0, 0), (27, .istore_n 3, 0, 0, 0), (28, .iconst 1, 0, 0, 1), (29, .istore 4, 0, 0, 0), (31, .iconst 0, 0, 0, 0), (32, .istore 5, 0, 0, 0), (34, .iload 5, 0, 0, 0), (36, .aload_n 0, 0, 0, 0), (37, .getfield 13, 4, 8, 0), (40, .iconst 3, 0, 0, 3), (41, .iaload, 0, 0, 0), (42, .if_icmp .ge (49), 91, 0, 0), (45, .aload_n 0, 0, 0, 0), (46, .getfield 22, 4, 11, 0), (49, .iconst 0, 0, 0, 0), (50, .iaload, 0, 0, 0), (51, .iload 5, 0, 0, 0), (53, .invokestatic 111, 53, 2, 0), (56, .ifCond .eq (29), 85, 0, 0), (59, .aload_n 0, 0, 0, 0), (60, .getfield 13, 4, 8, 0), (63, .iconst 4, 0, 0, 4), (64, .iload 5, 0, 0, 0), (66, .iadd, 0, 0, 0), (67, .iaload, 0, 0, 0)]
def gk129_1 : List (Nat × gI) := [(68, .ifCond .ne (17), 85, 0, 0), (71, .iload_n 3, 0, 0, 0), (72, .iconst 1, 0, 0, 1), (73, .iload 5, 0, 0, 0), (75, .ishl, 0, 0, 0), (76, .ior, 0, 0, 0), (77, .istore_n 3, 0, 0, 0), (78, .iload 4, 0, 0, 0), (80, .bipush (10), 0, 0, 10), (82, .imul, 0, 0, 0), (83, .istore 4, 0, 0, 0), (85, .iinc 5 (1), 0, 0, 1), (88, .goto (-54), 34, 0, 0), (91, .aload_n 0, 0, 0, 0), (92, .aload_n 0, 0, 0, 0), (93, .getfield 13, 4, 8, 0), (96, .aload_n 0, 0, 0, 0), (97, .getfield 22, 4, 11, 0), (100, .iconst 0, 0, 0, 0), (101, .iaload, 0, 0, 0), (102, .invokevirtual 135, 61, 2, 0), (105, .aload_n 0, 0, 0, 0), (106, .getfield 13, 4, 8, 0), (109, .iconst 2, 0, 0, 2), (110, .iaload, 0, 0, 0), (111, .iand, 0, 0, 0), (112, .istore 5, 0, 0, 0), (114, .iconst 0, 0, 0, 0), (115, .istore 6, 0, 0, 0), (117, .iconst 0, 0, 0, 0), (118, .istore 7, 0, 0, 0), (120, .iload 7, 0, 0, 0), (122, .aload_n 0, 0, 0, 0), (123, .invokevirtual 183, 89, 0, 0), (126, .if_icmp .ge (111), 237, 0, 0), (129, .iload 7, 0, 0, 0), (131, .iload_n 3, 0, 0, 0), (132, .iconst (-1), 0, 0, (-1)), (133, .ixor, 0, 0, 0), (134, .iand, 0, 0, 0)]
def gk129_2 : List (Nat × gI) := [(135, .ifCond .ne (96), 231, 0, 0), (138, .iload 5, 0, 0, 0), (140, .aload_n 0, 0, 0, 0), (141, .aload_n 0, 0, 0, 0), (142, .getfield 13, 4, 8, 0), (145, .aload_n 0, 0, 0, 0), (146, .getfield 22, 4, 11, 0), (149, .iconst 0, 0, 0, 0), (150, .iaload, 0, 0, 0), (151, .iload 7, 0, 0, 0), (153, .iconst (-1), 0, 0, (-1)), (154, .ixor, 0, 0, 0), (155, .iand, 0, 0, 0), (156, .invokevirtual 135, 61, 2, 0), (159, .iconst (-1), 0, 0, (-1)), (160, .ixor, 0, 0, 0), (161, .iand, 0, 0, 0), (162, .ifCond .ne (69), 231, 0, 0), (165, .iconst 1, 0, 0, 1), (166, .istore 8, 0, 0, 0), (168, .iconst 0, 0, 0, 0), (169, .istore 9, 0, 0, 0), (171, .iload 9, 0, 0, 0), (173, .aload_n 0, 0, 0, 0), (174, .getfield 13, 4, 8, 0), (177, .iconst 3, 0, 0, 3), (178, .iaload, 0, 0, 0), (179, .if_icmp .ge (45), 224, 0, 0), (182, .iload 8, 0, 0, 0), (184, .iload_n 3, 0, 0, 0), (185, .iload 9, 0, 0, 0), (187, .invokestatic 111, 53, 2, 0), (190, .ifCond .ne (7), 197, 0, 0), (193, .iconst 1, 0, 0, 1), (194, .goto (21), 215, 0, 0), (197, .iload 7, 0, 0, 0), (199, .iload 9, 0, 0, 0), (201, .invokestatic 111, 53, 2, 0), (204, .ifCond .eq (7), 211, 0, 0), (207, .iload_n 1, 0, 0, 0)]
def gk129_3 : List (Nat × gI) := [(208, .goto (7), 215, 0, 0), (211, .bipush (10), 0, 0, 10), (213, .iload_n 1, 0, 0, 0), (214, .isub, 0, 0, 0), (215, .imul, 0, 0, 0), (216, .istore 8, 0, 0, 0), (218, .iinc 9 (1), 0, 0, 1), (221, .goto (-50), 171, 0, 0), (224, .iload 6, 0, 0, 0), (226, .iload 8, 0, 0, 0), (228, .iadd, 0, 0, 0), (229, .istore 6, 0, 0, 0), (231, .iinc 7 (1), 0, 0, 1), (234, .goto (-114), 120, 0, 0), (237, .iload 6, 0, 0, 0), (239, .iload 4, 0, 0, 0), (241, .invokestatic 199, 128, 2, 0), (244, .istore 7, 0, 0, 0), (246, .iload_n 2, 0, 0, 0), (247, .ifCond .ne (11), 258, 0, 0), (250, .iload 6, 0, 0, 0), (252, .iload 7, 0, 0, 0), (254, .idiv, 0, 0, 0), (255, .goto (8), 263, 0, 0), (258, .iload 4, 0, 0, 0), (260, .iload 7, 0, 0, 0), (262, .idiv, 0, 0, 0), (263, .ireturn, 0, 0, 0)]
def gk129 : List (Nat × gI) := gk129_0 ++ gk129_1 ++ gk129_2 ++ gk129_3
def gk130_0 : List (Nat × gI) := [(0, .aload_n 0, 0, 0, 0), (1, .iload_n 1, 0, 0, 0), (2, .invokevirtual 115, 74, 1, 0), (5, .ifCond .eq (12), 17, 0, 0), (8, .iload_n 2, 0, 0, 0), (9, .ifCond .lt (8), 17, 0, 0), (12, .iload_n 2, 0, 0, 0), (13, .iconst 1, 0, 0, 1), (14, .if_icmp .le (5), 19, 0, 0), (17, .iconst (-1), 0, 0, (-1)), (18, .ireturn, 0, 0, 0), (19, .aload_n 0, 0, 0, 0), (20, .getfield 193, 3, 14, 0), (23, .bipush (6), 0, 0, 6), (25, .if_icmp .lt (6), 31, 0, 0), (28, .bipush (-3), 0, 0, (-3)), (30, .ireturn, 0, 0, 0), (31, .aload_n 0, 0, 0, 0), (32, .getfield 46, 3, 13, 0), (35, .aload_n 0, 0, 0, 0), (36, .getfield 193, 3, 14, 0), (39, .iconst 2, 0, 0, 2), (40, .iload_n 1, 0, 0, 0), (41, .imul, 0, 0, 0), (42, .iload_n 2, 0, 0, 0), (43, .iadd, 0, 0, 0), (44, .iastore, 0, 0, 0), (45, .aload_n 0, 0, 0, 0), (46, .dup, 0, 0, 0), (47, .getfield 193, 3, 14, 0), (50, .iconst 1, 0, 0, 1), (51, .iadd, 0, 0, 0), (52, .putfield 193, 3, 14, 0), (55, .aload_n 0, 0, 0, 0), (56, .getfield 193, 3, 14, 0), (59, .ireturn, 0, 0, 0)]
def gk130 : List (Nat × gI) := gk130_0
def gk131_0 : List (Nat × gI) := [(0, .aload_n 0, 0, 0, 0), (1, .iconst 0, 0, 0, 0), (2, .putfield 62, 4, 0, 0), (5, .aload_n 0, 0, 0, 0), (6, .iload_n 1, 0, 0, 0), (7, .invokevirtual 167, 77, 1, 0), (10, .ifCond .eq (12), 22, 0, 0), (13, .iload_n 2, 0, 0, 0), (14, .iconst 0, 0, 0, 0), (15, .iconst 1, 0, 0, 1), (16, .invokestatic 66, 10, 3, 0), (19, .ifCond .ne (5), 24, 0, 0), (22, .iconst (-1), 0, 0, (-1)), (23, .ireturn, 0, 0, 0), (24, .aload_n 0, 0, 0, 0), (25, .getfield 144, 4, 20, 0), (28, .bipush (6), 0, 0, 6), (30, .if_icmp .ne (6), 36, 0, 0), (33, .bipush (-3), 0, 0, (-3)), (35, .ireturn, 0, 0, 0), (36, .aload_n 0, 0, 0, 0), (37, .getfield 38, 4, 18, 0), (40, .aload_n 0, 0, 0, 0), (41, .getfield 144, 4, 20, 0), (44, .iload_n 1, 0, 0, 0), (45, .iastore, 0, 0, 0), (46, .aload_n 0, 0, 0, 0), (47, .getfield 41, 4, 19, 0), (50, .aload_n 0, 0, 0, 0), (51, .getfield 144, 4, 20, 0), (54, .iload_n 2, 0, 0, 0), (55, .iastore, 0, 0, 0), (56, .aload_n 0, 0, 0, 0), (57, .dup, 0, 0, 0), (58, .getfield 144, 4, 20, 0), (61, .iconst 1, 0, 0, 1), (62, .iadd, 0, 0, 0), (63, .putfield 144, 4, 20, 0), (66, .aload_n 0, 0, 0, 0), (67, .getfield 144, 4, 20, 0)]
def gk131_1 : List (Nat × gI) := [(70, .ireturn, 0, 0, 0)]
def gk131 : List (Nat × gI) := gk131_0 ++ gk131_1
def gk132_0 : List (Nat × gI) := [(0, .aload_n 0, 0, 0, 0), (1, .getfield 193, 3, 14, 0), (4, .istore_n 1, 0, 0, 0), (5, .aload_n 0, 0, 0, 0), (6, .iconst 0, 0, 0, 0), (7, .putfield 193, 3, 14, 0), (10, .iload_n 1, 0, 0, 0), (11, .ireturn, 0, 0, 0)]
def gk132 : List (Nat × gI) := gk132_0
def gk133_0 : List (Nat × gI) := [(0, .aload_n 0, 0, 0, 0), (1, .iconst 0, 0, 0, 0), (2, .putfield 62, 4, 0, 0), (5, .aload_n 0, 0, 0, 0), (6, .getfield 144, 4, 20, 0), (9, .istore_n 1, 0, 0, 0), (10, .aload_n 0, 0, 0, 0), (11, .iconst 0, 0, 0, 0), (12, .putfield 144, 4, 20, 0), (15, .iload_n 1, 0, 0, 0), (16, .ireturn, 0, 0, 0)]
def gk133 : List (Nat × gI) := gk133_0
def gk134_0 : List (Nat × gI) := [(0, .aload_n 0, 0, 0, 0), (1, .getfield 26, 3, 2, 0), (4, .getfield 118, 1, 10, 0), (7, .aload_n 0, 0, 0, 0), (8, .getfield 95, 3, 4, 0), (11, .iconst 1, 0, 0, 1), (12, .iload_n 1, 0, 0, 0), (13, .ishl, 0, 0, 0), (14, .ixor, 0, 0, 0), (15, .iaload, 0, 0, 0), (16, .istore_n 2, 0, 0, 0), (17, .iconst 0, 0, 0, 0), (18, .istore_n 3, 0, 0, 0), (19, .iload_n 3, 0, 0, 0), (20, .aload_n 0, 0, 0, 0), (21, .getfield 193, 3, 14, 0), (24, .if_icmp .ge (34), 58, 0, 0), (27, .iload_n 2, 0, 0, 0), (28, .aload_n 0, 0, 0, 0), (29, .getfield 46, 3, 13, 0), (32, .iload_n 3, 0, 0, 0), (33, .iaload, 0, 0, 0), (34, .iconst 2, 0, 0, 2), (35, .idiv, 0, 0, 0), (36, .invokestatic 98, 19, 2, 0), (39, .aload_n 0, 0, 0, 0), (40, .getfield 46, 3, 13, 0), (43, .iload_n 3, 0, 0, 0), (44, .iaload, 0, 0, 0), (45, .iconst 2, 0, 0, 2), (46, .irem, 0, 0, 0), (47, .if_icmp .eq (5), 52, 0, 0), (50, .iconst 0, 0, 0, 0), (51, .ireturn, 0, 0, 0), (52, .iinc 3 (1), 0, 0, 1), (55, .goto (-36), 19, 0, 0), (58, .iconst 1, 0, 0, 1), (59, .ireturn, 0, 0, 0)]
def gk134 : List (Nat × gI) := gk134_0
def gk135_0 : List (Nat × gI) := [(0, .iconst 0, 0, 0, 0), (1, .istore_n 1, 0, 0, 0), (2, .iconst 0, 0, 0, 0), (3, .istore_n 2, 0, 0, 0), (4, .iload_n 2, 0, 0, 0), (5, .aload_n 0, 0, 0, 0), (6, .getfield 26, 3, 2, 0), (9, .getfield 112, 1, 3, 0), (12, .if_icmp .ge (23), 35, 0, 0), (15, .aload_n 0, 0, 0, 0), (16, .iload_n 2, 0, 0, 0), (17, .invokevirtual 196, 134, 1, 0), (20, .ifCond .eq (9), 29, 0, 0), (23, .iload_n 1, 0, 0, 0), (24, .iconst 1, 0, 0, 1), (25, .iload_n 2, 0, 0, 0), (26, .ishl, 0, 0, 0), (27, .ior, 0, 0, 0), (28, .istore_n 1, 0, 0, 0), (29, .iinc 2 (1), 0, 0, 1), (32, .goto (-28), 4, 0, 0), (35, .iload_n 1, 0, 0, 0), (36, .ireturn, 0, 0, 0)]
def gk135 : List (Nat × gI) := gk135_0
def gk136_0 : List (Nat × gI) := [(0, .iconst 0, 0, 0, 0), (1, .istore_n 1, 0, 0, 0), (2, .iconst 0, 0, 0, 0), (3, .istore_n 2, 0, 0, 0), (4, .iload_n 2, 0, 0, 0), (5, .aload_n 0, 0, 0, 0), (6, .getfield 13, 4, 8, 0), (9, .iconst 3, 0, 0, 3), (10, .iaload, 0, 0, 0), (11, .if_icmp .ge (97), 108, 0, 0), (14, .aload_n 0, 0, 0, 0), (15, .aload_n 0, 0, 0, 0), (16, .getfield 13, 4, 8, 0), (19, .aload_n 0, 0, 0, 0), (20, .getfield 22, 4, 11, 0), (23, .iconst 0, 0, 0, 0), (24, .iaload, 0, 0, 0), (25, .iconst 1, 0, 0, 1), (26, .iload_n 2, 0, 0, 0), (27, .ishl, 0, 0, 0), (28, .ixor, 0, 0, 0), (29, .invokevirtual 135, 61, 2, 0), (32, .istore_n 3, 0, 0, 0), (33, .iconst 1, 0, 0, 1), (34, .istore 4, 0, 0, 0), (36, .iconst 0, 0, 0, 0), (37, .istore 5, 0, 0, 0), (39, .iload 5, 0, 0, 0), (41, .aload_n 0, 0, 0, 0), (42, .getfield 144, 4, 20, 0), (45, .if_icmp .ge (42), 87, 0, 0), (48, .iload 4, 0, 0, 0), (50, .ifCond .eq (28), 78, 0, 0), (53, .iload_n 3, 0, 0, 0), (54, .aload_n 0, 0, 0, 0), (55, .getfield 38, 4, 18, 0), (58, .iload 5, 0, 0, 0), (60, .iaload, 0, 0, 0), (61, .ishr, 0, 0, 0), (62, .iconst 1, 0, 0, 1)]
def gk136_1 : List (Nat × gI) := [(63, .iand, 0, 0, 0), (64, .aload_n 0, 0, 0, 0), (65, .getfield 41, 4, 19, 0), (68, .iload 5, 0, 0, 0), (70, .iaload, 0, 0, 0), (71, .if_icmp .ne (7), 78, 0, 0), (74, .iconst 1, 0, 0, 1), (75, .goto (4), 79, 0, 0), (78, .iconst 0, 0, 0, 0), (79, .istore 4, 0, 0, 0), (81, .iinc 5 (1), 0, 0, 1), (84, .goto (-45), 39, 0, 0), (87, .iload_n 1, 0, 0, 0), (88, .iload 4, 0, 0, 0), (90, .ifCond .eq (9), 99, 0, 0), (93, .iconst 1, 0, 0, 1), (94, .iload_n 2, 0, 0, 0), (95, .ishl, 0, 0, 0), (96, .goto (4), 100, 0, 0), (99, .iconst 0, 0, 0, 0), (100, .ior, 0, 0, 0), (101, .istore_n 1, 0, 0, 0), (102, .iinc 2 (1), 0, 0, 1), (105, .goto (-101), 4, 0, 0), (108, .iload_n 1, 0, 0, 0), (109, .ireturn, 0, 0, 0)]
def gk136 : List (Nat × gI) := gk136_0 ++ gk136_1
def gk137_0 : List (Nat × gI) := [(0, .aload_n 0, 0, 0, 0), (1, .iconst 0, 0, 0, 0), (2, .putfield 62, 4, 0, 0), (5, .aload_n 0, 0, 0, 0), (6, .invokevirtual 202, 136, 0, 0), (9, .ireturn, 0, 0, 0)]
def gk137 : List (Nat × gI) := gk137_0
def gk138_0 : List (Nat × gI) := [(0, .iconst 0, 0, 0, 0), (1, .istore_n 3, 0, 0, 0), (2, .iconst 0, 0, 0, 0), (3, .istore 4, 0, 0, 0), (5, .iload 4, 0, 0, 0), (7, .aload_n 0, 0, 0, 0), (8, .getfield 26, 3, 2, 0), (11, .getfield 112, 1, 3, 0), (14, .if_icmp .ge (43), 57, 0, 0), (17, .iload_n 2, 0, 0, 0), (18, .iload 4, 0, 0, 0), (20, .invokestatic 98, 19, 2, 0), (23, .iconst 1, 0, 0, 1), (24, .if_icmp .ne (27), 51, 0, 0), (27, .iload_n 3, 0, 0, 0), (28, .aload_n 0, 0, 0, 0), (29, .getfield 26, 3, 2, 0), (32, .getfield 118, 1, 10, 0), (35, .aload_n 0, 0, 0, 0), (36, .getfield 95, 3, 4, 0), (39, .iconst 1, 0, 0, 1), (40, .iload 4, 0, 0, 0), (42, .ishl, 0, 0, 0), (43, .ixor, 0, 0, 0), (44, .iaload, 0, 0, 0), (45, .iload_n 1, 0, 0, 0), (46, .invokestatic 98, 19, 2, 0), (49, .iadd, 0, 0, 0), (50, .istore_n 3, 0, 0, 0), (51, .iinc 4 (1), 0, 0, 1), (54, .goto (-49), 5, 0, 0), (57, .iload_n 3, 0, 0, 0), (58, .ireturn, 0, 0, 0)]
def gk138 : List (Nat × gI) := gk138_0
def gk139_0 : List (Nat × gI) := [(0, .aload_n 0, 0, 0, 0), (1, .invokevirtual 199, 135, 0, 0), (4, .istore_n 1, 0, 0, 0), (5, .iload_n 1, 0, 0, 0), (6, .invokestatic 179, 26, 1, 0), (9, .istore_n 2, 0, 0, 0), (10, .iload_n 2, 0, 0, 0), (11, .iconst 1, 0, 0, 1), (12, .if_icmp .gt (6), 18, 0, 0), (15, .bipush (-9), 0, 0, (-9)), (17, .ireturn, 0, 0, 0), (18, .bipush (-9), 0, 0, (-9)), (20, .istore_n 3, 0, 0, 0), (21, .iload_n 2, 0, 0, 0), (22, .iconst 1, 0, 0, 1), (23, .iadd, 0, 0, 0), (24, .istore 4, 0, 0, 0), (26, .iconst 0, 0, 0, 0), (27, .istore 5, 0, 0, 0), (29, .iload 5, 0, 0, 0), (31, .aload_n 0, 0, 0, 0), (32, .getfield 26, 3, 2, 0), (35, .getfield 202, 1, 0, 0), (38, .if_icmp .ge (43), 81, 0, 0), (41, .aload_n 0, 0, 0, 0), (42, .iload 5, 0, 0, 0), (44, .iload_n 1, 0, 0, 0), (45, .invokevirtual 205, 138, 2, 0), (48, .istore 6, 0, 0, 0), (50, .iload 6, 0, 0, 0), (52, .iload_n 2, 0, 0, 0), (53, .iload 6, 0, 0, 0), (55, .isub, 0, 0, 0), (56, .invokestatic 208, 998, 2, 0), (59, .istore 7, 0, 0, 0), (61, .iload 7, 0, 0, 0), (63, .iload 4, 0, 0, 0), (65, .if_icmp .ge (10), 75, 0, 0), (68, .iload 7, 0, 0, 0), (70, .istore 4, 0, 0, 0)]
def gk139_1 : List (Nat × gI) := [(72, .iload 5, 0, 0, 0), (74, .istore_n 3, 0, 0, 0), (75, .iinc 5 (1), 0, 0, 1), (78, .goto (-49), 29, 0, 0), (81, .iload_n 3, 0, 0, 0), (82, .ireturn, 0, 0, 0)]
def gk139 : List (Nat × gI) := gk139_0 ++ gk139_1
def gk140_0 : List (Nat × gI) := [(0, .iconst 0, 0, 0, 0), (1, .istore_n 1, 0, 0, 0), (2, .iload_n 0, 0, 0, 0), (3, .istore_n 2, 0, 0, 0), (4, .iload_n 2, 0, 0, 0), (5, .ifCond .eq (15), 20, 0, 0), (8, .iinc 1 (1), 0, 0, 1), (11, .iload_n 2, 0, 0, 0), (12, .iload_n 2, 0, 0, 0), (13, .iconst 1, 0, 0, 1), (14, .isub, 0, 0, 0), (15, .iand, 0, 0, 0), (16, .istore_n 2, 0, 0, 0), (17, .goto (-13), 4, 0, 0), (20, .iload_n 1, 0, 0, 0), (21, .ireturn, 0, 0, 0)]
def gk140 : List (Nat × gI) := gk140_0
def gk141_0 : List (Nat × gI) := [(0, .aload_n 0, 0, 0, 0), (1, .iconst 0, 0, 0, 0), (2, .putfield 62, 4, 0, 0), (5, .aload_n 0, 0, 0, 0), (6, .invokevirtual 202, 136, 0, 0), (9, .istore_n 1, 0, 0, 0), (10, .iload_n 1, 0, 0, 0), (11, .invokestatic 205, 140, 1, 0), (14, .istore_n 2, 0, 0, 0), (15, .bipush (-9), 0, 0, (-9)), (17, .istore_n 3, 0, 0, 0), (18, .bipush (99), 0, 0, 99), (20, .istore 4, 0, 0, 0), (22, .iconst 0, 0, 0, 0), (23, .istore 5, 0, 0, 0), (25, .iload 5, 0, 0, 0), (27, .aload_n 0, 0, 0, 0), (28, .getfield 13, 4, 8, 0), (31, .iconst 0, 0, 0, 0), (32, .iaload, 0, 0, 0), (33, .if_icmp .ge (133), 166, 0, 0), (36, .iload_n 2, 0, 0, 0), (37, .iconst 1, 0, 0, 1), (38, .if_icmp .le (128), 166, 0, 0), (41, .iconst 0, 0, 0, 0), (42, .istore 6, 0, 0, 0), (44, .iconst 0, 0, 0, 0), (45, .istore 7, 0, 0, 0), (47, .iload 7, 0, 0, 0), (49, .aload_n 0, 0, 0, 0), (50, .getfield 13, 4, 8, 0), (53, .iconst 3, 0, 0, 3), (54, .iaload, 0, 0, 0), (55, .if_icmp .ge (55), 110, 0, 0), (58, .iload 6, 0, 0, 0), (60, .iload_n 1, 0, 0, 0), (61, .iload 7, 0, 0, 0), (63, .invokestatic 111, 53, 2, 0), (66, .ifCond .eq (34), 100, 0, 0), (69, .aload_n 0, 0, 0, 0)]
def gk141_1 : List (Nat × gI) := [(70, .aload_n 0, 0, 0, 0), (71, .getfield 13, 4, 8, 0), (74, .aload_n 0, 0, 0, 0), (75, .getfield 22, 4, 11, 0), (78, .iconst 0, 0, 0, 0), (79, .iaload, 0, 0, 0), (80, .iconst 1, 0, 0, 1), (81, .iload 7, 0, 0, 0), (83, .ishl, 0, 0, 0), (84, .ixor, 0, 0, 0), (85, .invokevirtual 135, 61, 2, 0), (88, .iload 5, 0, 0, 0), (90, .invokestatic 111, 53, 2, 0), (93, .ifCond .eq (7), 100, 0, 0), (96, .iconst 1, 0, 0, 1), (97, .goto (4), 101, 0, 0), (100, .iconst 0, 0, 0, 0), (101, .iadd, 0, 0, 0), (102, .istore 6, 0, 0, 0), (104, .iinc 7 (1), 0, 0, 1), (107, .goto (-60), 47, 0, 0), (110, .iload 6, 0, 0, 0), (112, .iload_n 2, 0, 0, 0), (113, .iload 6, 0, 0, 0), (115, .isub, 0, 0, 0), (116, .if_icmp .le (8), 124, 0, 0), (119, .iload 6, 0, 0, 0), (121, .goto (7), 128, 0, 0), (124, .iload_n 2, 0, 0, 0), (125, .iload 6, 0, 0, 0), (127, .isub, 0, 0, 0), (128, .istore 7, 0, 0, 0), (130, .iload 7, 0, 0, 0), (132, .iload 4, 0, 0, 0), (134, .if_icmp .ge (8), 142, 0, 0), (137, .iload 5, 0, 0, 0), (139, .goto (4), 143, 0, 0), (142, .iload_n 3, 0, 0, 0), (143, .istore_n 3, 0, 0, 0), (144, .iload 7, 0, 0, 0)]
def gk141_2 : List (Nat × gI) := [(146, .iload 4, 0, 0, 0), (148, .if_icmp .ge (8), 156, 0, 0), (151, .iload 7, 0, 0, 0), (153, .goto (5), 158, 0, 0), (156, .iload 4, 0, 0, 0), (158, .istore 4, 0, 0, 0), (160, .iinc 5 (1), 0, 0, 1), (163, .goto (-138), 25, 0, 0), (166, .iload_n 3, 0, 0, 0), (167, .ireturn, 0, 0, 0)]
def gk141 : List (Nat × gI) := gk141_0 ++ gk141_1 ++ gk141_2
def gk142_0 : List (Nat × gI) := [(0, .iload_n 0, 0, 0, 0), (1, .ifCond .lt (12), 13, 0, 0), (4, .iload_n 0, 0, 0, 0), (5, .iconst 2, 0, 0, 2), (6, .if_icmp .ge (7), 13, 0, 0), (9, .iconst 1, 0, 0, 1), (10, .goto (4), 14, 0, 0), (13, .iconst 0, 0, 0, 0), (14, .ireturn, 0, 0, 0)]
def gk142 : List (Nat × gI) := gk142_0
def gk143_0 : List (Nat × gI) := [(0, .iload_n 1, 0, 0, 0), (1, .invokestatic 213, 142, 1, 0), (4, .ifCond .ne (5), 9, 0, 0), (7, .iconst (-1), 0, 0, (-1)), (8, .ireturn, 0, 0, 0), (9, .aload_n 0, 0, 0, 0), (10, .getfield 43, 3, 11, 0), (13, .iload_n 1, 0, 0, 0), (14, .aload_n 0, 0, 0, 0), (15, .invokevirtual 216, 94, 0, 0), (18, .iastore, 0, 0, 0), (19, .aload_n 0, 0, 0, 0), (20, .dup, 0, 0, 0), (21, .getfield 219, 3, 12, 0), (24, .iconst 1, 0, 0, 1), (25, .iload_n 1, 0, 0, 0), (26, .ishl, 0, 0, 0), (27, .ior, 0, 0, 0), (28, .putfield 219, 3, 12, 0), (31, .aload_n 0, 0, 0, 0), (32, .getfield 95, 3, 4, 0), (35, .ireturn, 0, 0, 0)]
def gk143 : List (Nat × gI) := gk143_0
def gk144_0 : List (Nat × gI) := [(0, .aload_n 0, 0, 0, 0), (1, .iconst 0, 0, 0, 0), (2, .putfield 62, 4, 0, 0), (5, .iload_n 1, 0, 0, 0), (6, .iconst 0, 0, 0, 0), (7, .iconst 1, 0, 0, 1), (8, .invokestatic 66, 10, 3, 0), (11, .ifCond .ne (5), 16, 0, 0), (14, .iconst (-1), 0, 0, (-1)), (15, .ireturn, 0, 0, 0), (16, .iconst 0, 0, 0, 0), (17, .istore_n 2, 0, 0, 0), (18, .iload_n 2, 0, 0, 0), (19, .iconst 5, 0, 0, 5), (20, .if_icmp .ge (25), 45, 0, 0), (23, .aload_n 0, 0, 0, 0), (24, .getfield 28, 4, 14, 0), (27, .iconst 5, 0, 0, 5), (28, .iload_n 1, 0, 0, 0), (29, .imul, 0, 0, 0), (30, .iload_n 2, 0, 0, 0), (31, .iadd, 0, 0, 0), (32, .aload_n 0, 0, 0, 0), (33, .getfield 22, 4, 11, 0), (36, .iload_n 2, 0, 0, 0), (37, .iaload, 0, 0, 0), (38, .iastore, 0, 0, 0), (39, .iinc 2 (1), 0, 0, 1), (42, .goto (-24), 18, 0, 0), (45, .aload_n 0, 0, 0, 0), (46, .getfield 31, 4, 15, 0), (49, .iload_n 1, 0, 0, 0), (50, .iconst 1, 0, 0, 1), (51, .bastore, 0, 0, 0), (52, .aload_n 0, 0, 0, 0), (53, .getfield 22, 4, 11, 0), (56, .iconst 0, 0, 0, 0), (57, .iaload, 0, 0, 0), (58, .ireturn, 0, 0, 0)]
def gk144 : List (Nat × gI) := gk144_0
def gk145_0 : List (Nat × gI) := [(0, .iload_n 1, 0, 0, 0), (1, .invokestatic 213, 142, 1, 0), (4, .ifCond .ne (5), 9, 0, 0), (7, .iconst (-1), 0, 0, (-1)), (8, .ireturn, 0, 0, 0), (9, .aload_n 0, 0, 0, 0), (10, .getfield 219, 3, 12, 0), (13, .iload_n 1, 0, 0, 0), (14, .invokestatic 98, 19, 2, 0), (17, .ifCond .ne (6), 23, 0, 0), (20, .bipush (-2), 0, 0, (-2)), (22, .ireturn, 0, 0, 0), (23, .aload_n 0, 0, 0, 0), (24, .aload_n 0, 0, 0, 0), (25, .getfield 43, 3, 11, 0), (28, .iload_n 1, 0, 0, 0), (29, .iaload, 0, 0, 0), (30, .invokevirtual 162, 110, 1, 0), (33, .aload_n 0, 0, 0, 0), (34, .iconst 0, 0, 0, 0), (35, .putfield 146, 3, 10, 0), (38, .aload_n 0, 0, 0, 0), (39, .getfield 95, 3, 4, 0), (42, .ireturn, 0, 0, 0)]
def gk145 : List (Nat × gI) := gk145_0
def gk146_0 : List (Nat × gI) := [(0, .aload_n 0, 0, 0, 0), (1, .iconst 0, 0, 0, 0), (2, .putfield 62, 4, 0, 0), (5, .iload_n 1, 0, 0, 0), (6, .iconst 0, 0, 0, 0), (7, .iconst 1, 0, 0, 1), (8, .invokestatic 66, 10, 3, 0), (11, .ifCond .ne (5), 16, 0, 0), (14, .iconst (-1), 0, 0, (-1)), (15, .ireturn, 0, 0, 0), (16, .aload_n 0, 0, 0, 0), (17, .getfield 31, 4, 15, 0), (20, .iload_n 1, 0, 0, 0), (21, .baload, 0, 0, 0), (22, .ifCond .ne (6), 28, 0, 0), (25, .bipush (-2), 0, 0, (-2)), (27, .ireturn, 0, 0, 0), (28, .iconst 0, 0, 0, 0), (29, .istore_n 2, 0, 0, 0), (30, .iload_n 2, 0, 0, 0), (31, .iconst 5, 0, 0, 5), (32, .if_icmp .ge (25), 57, 0, 0), (35, .aload_n 0, 0, 0, 0), (36, .getfield 22, 4, 11, 0), (39, .iload_n 2, 0, 0, 0), (40, .aload_n 0, 0, 0, 0), (41, .getfield 28, 4, 14, 0), (44, .iconst 5, 0, 0, 5), (45, .iload_n 1, 0, 0, 0), (46, .imul, 0, 0, 0), (47, .iload_n 2, 0, 0, 0), (48, .iadd, 0, 0, 0), (49, .iaload, 0, 0, 0), (50, .iastore, 0, 0, 0), (51, .iinc 2 (1), 0, 0, 1), (54, .goto (-24), 30, 0, 0), (57, .aload_n 0, 0, 0, 0), (58, .iconst 0, 0, 0, 0), (59, .putfield 147, 4, 13, 0), (62, .aload_n 0, 0, 0, 0)]
def gk146_1 : List (Nat × gI) := [(63, .getfield 22, 4, 11, 0), (66, .iconst 0, 0, 0, 0), (67, .iaload, 0, 0, 0), (68, .ireturn, 0, 0, 0)]
def gk146 : List (Nat × gI) := gk146_0 ++ gk146_1
def gk147_0 : List (Nat × gI) := [(0, .iload_n 1, 0, 0, 0), (1, .tableswitch (102) (0) (7) #[47, 55, 63, 68, 73, 81, 88, 95], 0, 0, 0), (48, .aload_n 0, 0, 0, 0), (49, .getfield 26, 3, 2, 0), (52, .getfield 202, 1, 0, 0), (55, .ireturn, 0, 0, 0), (56, .aload_n 0, 0, 0, 0), (57, .getfield 26, 3, 2, 0), (60, .getfield 112, 1, 3, 0), (63, .ireturn, 0, 0, 0), (64, .aload_n 0, 0, 0, 0), (65, .getfield 159, 3, 8, 0), (68, .ireturn, 0, 0, 0), (69, .aload_n 0, 0, 0, 0), (70, .getfield 193, 3, 14, 0), (73, .ireturn, 0, 0, 0), (74, .aload_n 0, 0, 0, 0), (75, .getfield 12, 3, 0, 0), (78, .getfield 55, 2, 1, 0), (81, .ireturn, 0, 0, 0), (82, .aload_n 0, 0, 0, 0), (83, .getfield 33, 3, 6, 0), (86, .iconst 0, 0, 0, 0), (87, .iaload, 0, 0, 0), (88, .ireturn, 0, 0, 0), (89, .aload_n 0, 0, 0, 0), (90, .getfield 33, 3, 6, 0), (93, .iconst 1, 0, 0, 1), (94, .iaload, 0, 0, 0), (95, .ireturn, 0, 0, 0), (96, .aload_n 0, 0, 0, 0), (97, .getfield 33, 3, 6, 0), (100, .iconst 2, 0, 0, 2), (101, .iaload, 0, 0, 0), (102, .ireturn, 0, 0, 0), (103, .iconst (-1), 0, 0, (-1)), (104, .ireturn, 0, 0, 0)]
def gk147 : List (Nat × gI) := gk147_0
def gk148_0 : List (Nat × gI) := [(0, .aload_n 0, 0, 0, 0), (1, .iconst 0, 0, 0, 0), (2, .putfield 62, 4, 0, 0), (5, .iload_n 1, 0, 0, 0), (6, .iconst 0, 0, 0, 0), (7, .bipush (7), 0, 0, 7), (9, .invokestatic 66, 10, 3, 0), (12, .ifCond .ne (5), 17, 0, 0), (15, .iconst (-1), 0, 0, (-1)), (16, .ireturn, 0, 0, 0), (17, .iload_n 1, 0, 0, 0), (18, .iconst 4, 0, 0, 4), (19, .if_icmp .ge (47), 66, 0, 0), (22, .iload_n 1, 0, 0, 0), (23, .ifCond .ne (12), 35, 0, 0), (26, .aload_n 0, 0, 0, 0), (27, .getfield 13, 4, 8, 0), (30, .iconst 0, 0, 0, 0), (31, .iaload, 0, 0, 0), (32, .goto (33), 65, 0, 0), (35, .iload_n 1, 0, 0, 0), (36, .iconst 1, 0, 0, 1), (37, .if_icmp .ne (12), 49, 0, 0), (40, .aload_n 0, 0, 0, 0), (41, .getfield 13, 4, 8, 0), (44, .iconst 3, 0, 0, 3), (45, .iaload, 0, 0, 0), (46, .goto (19), 65, 0, 0), (49, .iload_n 1, 0, 0, 0), (50, .iconst 2, 0, 0, 2), (51, .if_icmp .ne (10), 61, 0, 0), (54, .aload_n 0, 0, 0, 0), (55, .getfield 141, 4, 17, 0), (58, .goto (7), 65, 0, 0), (61, .aload_n 0, 0, 0, 0), (62, .getfield 144, 4, 20, 0), (65, .ireturn, 0, 0, 0), (66, .iload_n 1, 0, 0, 0), (67, .iconst 4, 0, 0, 4), (68, .if_icmp .ne (10), 78, 0, 0)]
def gk148_1 : List (Nat × gI) := [(71, .aload_n 0, 0, 0, 0), (72, .getfield 70, 4, 2, 0), (75, .goto (13), 88, 0, 0), (78, .aload_n 0, 0, 0, 0), (79, .getfield 22, 4, 11, 0), (82, .iconst 2, 0, 0, 2), (83, .iload_n 1, 0, 0, 0), (84, .iadd, 0, 0, 0), (85, .iconst 5, 0, 0, 5), (86, .isub, 0, 0, 0), (87, .iaload, 0, 0, 0), (88, .ireturn, 0, 0, 0)]
def gk148 : List (Nat × gI) := gk148_0 ++ gk148_1
def gk149_0 : List (Nat × gI) := [(0, .new 7, 3, 0, 0), (3, .dup, 0, 0, 0), (4, .invokespecial 9, 5, 0, 0), (7, .astore_n 1, 0, 0, 0), (8, .new 10, 4, 0, 0), (11, .dup, 0, 0, 0), (12, .invokespecial 12, 8, 0, 0), (15, .astore_n 2, 0, 0, 0), (16, .iconst 0, 0, 0, 0), (17, .istore_n 3, 0, 0, 0), (18, .iload_n 3, 0, 0, 0), (19, .aload_n 0, 0, 0, 0), (20, .arraylength, 0, 0, 0), (21, .iconst 4, 0, 0, 4), (22, .isub, 0, 0, 0), (23, .if_icmp .gt (716), 739, 0, 0), (26, .aload_n 0, 0, 0, 0), (27, .iload_n 3, 0, 0, 0), (28, .iaload, 0, 0, 0), (29, .bipush (31), 0, 0, 31), (31, .iand, 0, 0, 0), (32, .tableswitch (701) (0) (24) #[116, 139, 152, 165, 198, 221, 254, 277, 300, 323, 366, 389, 402, 415, 428, 471, 504, 527, 560, 593, 606, 619, 632, 655, 678], 0, 0, 0), (148, .aload_n 1, 0, 0, 0), (149, .aload_n 0, 0, 0, 0), (150, .iload_n 3, 0, 0, 0), (151, .iconst 1, 0, 0, 1), (152, .iadd, 0, 0, 0), (153, .iaload, 0, 0, 0), (154, .invokevirtual 13, 9, 1, 0), (157, .aload_n 2, 0, 0, 0), (158, .aload_n 0, 0, 0, 0), (159, .iload_n 3, 0, 0, 0), (160, .iconst 1, 0, 0, 1), (161, .iadd, 0, 0, 0), (162, .iaload, 0, 0, 0), (163, .invokevirtual 17, 11, 1, 0), (166, .if_icmp .eq (567), 733, 0, 0), (169, .iconst 0, 0, 0, 0), (170, .ireturn, 0, 0, 0), (171, .aload_n 1, 0, 0, 0)]
def gk149_1 : List (Nat × gI) := [(172, .invokevirtual 18, 12, 0, 0), (175, .aload_n 2, 0, 0, 0), (176, .invokevirtual 22, 13, 0, 0), (179, .if_icmp .eq (554), 733, 0, 0), (182, .iconst 0, 0, 0, 0), (183, .ireturn, 0, 0, 0), (184, .aload_n 1, 0, 0, 0), (185, .invokevirtual 23, 45, 0, 0), (188, .aload_n 2, 0, 0, 0), (189, .invokevirtual 26, 63, 0, 0), (192, .if_icmp .eq (541), 733, 0, 0), (195, .iconst 0, 0, 0, 0), (196, .ireturn, 0, 0, 0), (197, .aload_n 1, 0, 0, 0), (198, .aload_n 0, 0, 0, 0), (199, .iload_n 3, 0, 0, 0), (200, .iconst 1, 0, 0, 1), (201, .iadd, 0, 0, 0), (202, .iaload, 0, 0, 0), (203, .aload_n 0, 0, 0, 0), (204, .iload_n 3, 0, 0, 0), (205, .iconst 2, 0, 0, 2), (206, .iadd, 0, 0, 0), (207, .iaload, 0, 0, 0), (208, .invokevirtual 27, 67, 2, 0), (211, .aload_n 2, 0, 0, 0), (212, .aload_n 0, 0, 0, 0), (213, .iload_n 3, 0, 0, 0), (214, .iconst 1, 0, 0, 1), (215, .iadd, 0, 0, 0), (216, .iaload, 0, 0, 0), (217, .aload_n 0, 0, 0, 0), (218, .iload_n 3, 0, 0, 0), (219, .iconst 2, 0, 0, 2), (220, .iadd, 0, 0, 0), (221, .iaload, 0, 0, 0), (222, .invokevirtual 31, 71, 2, 0), (225, .if_icmp .eq (508), 733, 0, 0), (228, .iconst 0, 0, 0, 0), (229, .ireturn, 0, 0, 0)]
def gk149_2 : List (Nat × gI) := [(230, .aload_n 1, 0, 0, 0), (231, .aload_n 0, 0, 0, 0), (232, .iload_n 3, 0, 0, 0), (233, .iconst 1, 0, 0, 1), (234, .iadd, 0, 0, 0), (235, .iaload, 0, 0, 0), (236, .invokevirtual 32, 72, 1, 0), (239, .aload_n 2, 0, 0, 0), (240, .aload_n 0, 0, 0, 0), (241, .iload_n 3, 0, 0, 0), (242, .iconst 1, 0, 0, 1), (243, .iadd, 0, 0, 0), (244, .iaload, 0, 0, 0), (245, .invokevirtual 35, 73, 1, 0), (248, .if_icmp .eq (485), 733, 0, 0), (251, .iconst 0, 0, 0, 0), (252, .ireturn, 0, 0, 0), (253, .aload_n 1, 0, 0, 0), (254, .aload_n 0, 0, 0, 0), (255, .iload_n 3, 0, 0, 0), (256, .iconst 1, 0, 0, 1), (257, .iadd, 0, 0, 0), (258, .iaload, 0, 0, 0), (259, .aload_n 0, 0, 0, 0), (260, .iload_n 3, 0, 0, 0), (261, .iconst 2, 0, 0, 2), (262, .iadd, 0, 0, 0), (263, .iaload, 0, 0, 0), (264, .invokevirtual 36, 76, 2, 0), (267, .aload_n 2, 0, 0, 0), (268, .aload_n 0, 0, 0, 0), (269, .iload_n 3, 0, 0, 0), (270, .iconst 1, 0, 0, 1), (271, .iadd, 0, 0, 0), (272, .iaload, 0, 0, 0), (273, .aload_n 0, 0, 0, 0), (274, .iload_n 3, 0, 0, 0), (275, .iconst 2, 0, 0, 2), (276, .iadd, 0, 0, 0), (277, .iaload, 0, 0, 0)]
def gk149_3 : List (Nat × gI) := [(278, .invokevirtual 39, 78, 2, 0), (281, .if_icmp .eq (452), 733, 0, 0), (284, .iconst 0, 0, 0, 0), (285, .ireturn, 0, 0, 0), (286, .aload_n 1, 0, 0, 0), (287, .aload_n 0, 0, 0, 0), (288, .iload_n 3, 0, 0, 0), (289, .iconst 1, 0, 0, 1), (290, .iadd, 0, 0, 0), (291, .iaload, 0, 0, 0), (292, .invokevirtual 40, 86, 1, 0), (295, .aload_n 2, 0, 0, 0), (296, .aload_n 0, 0, 0, 0), (297, .iload_n 3, 0, 0, 0), (298, .iconst 1, 0, 0, 1), (299, .iadd, 0, 0, 0), (300, .iaload, 0, 0, 0), (301, .invokevirtual 43, 93, 1, 0), (304, .if_icmp .eq (429), 733, 0, 0), (307, .iconst 0, 0, 0, 0), (308, .ireturn, 0, 0, 0), (309, .aload_n 1, 0, 0, 0), (310, .aload_n 0, 0, 0, 0), (311, .iload_n 3, 0, 0, 0), (312, .iconst 1, 0, 0, 1), (313, .iadd, 0, 0, 0), (314, .iaload, 0, 0, 0), (315, .invokevirtual 44, 96, 1, 0), (318, .aload_n 2, 0, 0, 0), (319, .aload_n 0, 0, 0, 0), (320, .iload_n 3, 0, 0, 0), (321, .iconst 1, 0, 0, 1), (322, .iadd, 0, 0, 0), (323, .iaload, 0, 0, 0), (324, .invokevirtual 47, 98, 1, 0), (327, .if_icmp .eq (406), 733, 0, 0), (330, .iconst 0, 0, 0, 0), (331, .ireturn, 0, 0, 0), (332, .aload_n 1, 0, 0, 0), (333, .aload_n 0, 0, 0, 0)]
def gk149_4 : List (Nat × gI) := [(334, .iload_n 3, 0, 0, 0), (335, .iconst 1, 0, 0, 1), (336, .iadd, 0, 0, 0), (337, .iaload, 0, 0, 0), (338, .invokevirtual 48, 99, 1, 0), (341, .aload_n 2, 0, 0, 0), (342, .aload_n 0, 0, 0, 0), (343, .iload_n 3, 0, 0, 0), (344, .iconst 1, 0, 0, 1), (345, .iadd, 0, 0, 0), (346, .iaload, 0, 0, 0), (347, .invokevirtual 51, 100, 1, 0), (350, .if_icmp .eq (383), 733, 0, 0), (353, .iconst 0, 0, 0, 0), (354, .ireturn, 0, 0, 0), (355, .aload_n 1, 0, 0, 0), (356, .aload_n 0, 0, 0, 0), (357, .iload_n 3, 0, 0, 0), (358, .iconst 1, 0, 0, 1), (359, .iadd, 0, 0, 0), (360, .iaload, 0, 0, 0), (361, .aload_n 0, 0, 0, 0), (362, .iload_n 3, 0, 0, 0), (363, .iconst 2, 0, 0, 2), (364, .iadd, 0, 0, 0), (365, .iaload, 0, 0, 0), (366, .aload_n 0, 0, 0, 0), (367, .iload_n 3, 0, 0, 0), (368, .iconst 3, 0, 0, 3), (369, .iadd, 0, 0, 0), (370, .iaload, 0, 0, 0), (371, .invokevirtual 52, 102, 3, 0), (374, .aload_n 2, 0, 0, 0), (375, .aload_n 0, 0, 0, 0), (376, .iload_n 3, 0, 0, 0), (377, .iconst 1, 0, 0, 1), (378, .iadd, 0, 0, 0), (379, .iaload, 0, 0, 0), (380, .aload_n 0, 0, 0, 0), (381, .iload_n 3, 0, 0, 0)]
def gk149_5 : List (Nat × gI) := [(382, .iconst 2, 0, 0, 2), (383, .iadd, 0, 0, 0), (384, .iaload, 0, 0, 0), (385, .aload_n 0, 0, 0, 0), (386, .iload_n 3, 0, 0, 0), (387, .iconst 3, 0, 0, 3), (388, .iadd, 0, 0, 0), (389, .iaload, 0, 0, 0), (390, .invokevirtual 56, 103, 3, 0), (393, .if_icmp .eq (340), 733, 0, 0), (396, .iconst 0, 0, 0, 0), (397, .ireturn, 0, 0, 0), (398, .aload_n 1, 0, 0, 0), (399, .aload_n 0, 0, 0, 0), (400, .iload_n 3, 0, 0, 0), (401, .iconst 1, 0, 0, 1), (402, .iadd, 0, 0, 0), (403, .iaload, 0, 0, 0), (404, .invokevirtual 57, 104, 1, 0), (407, .aload_n 2, 0, 0, 0), (408, .aload_n 0, 0, 0, 0), (409, .iload_n 3, 0, 0, 0), (410, .iconst 1, 0, 0, 1), (411, .iadd, 0, 0, 0), (412, .iaload, 0, 0, 0), (413, .invokevirtual 60, 105, 1, 0), (416, .if_icmp .eq (317), 733, 0, 0), (419, .iconst 0, 0, 0, 0), (420, .ireturn, 0, 0, 0), (421, .aload_n 1, 0, 0, 0), (422, .invokevirtual 61, 106, 0, 0), (425, .aload_n 2, 0, 0, 0), (426, .invokevirtual 64, 107, 0, 0), (429, .if_icmp .eq (304), 733, 0, 0), (432, .iconst 0, 0, 0, 0), (433, .ireturn, 0, 0, 0), (434, .aload_n 1, 0, 0, 0), (435, .invokevirtual 65, 108, 0, 0), (438, .aload_n 2, 0, 0, 0), (439, .invokevirtual 68, 109, 0, 0)]
def gk149_6 : List (Nat × gI) := [(442, .if_icmp .eq (291), 733, 0, 0), (445, .iconst 0, 0, 0, 0), (446, .ireturn, 0, 0, 0), (447, .aload_n 1, 0, 0, 0), (448, .invokevirtual 69, 111, 0, 0), (451, .aload_n 2, 0, 0, 0), (452, .invokevirtual 72, 112, 0, 0), (455, .if_icmp .eq (278), 733, 0, 0), (458, .iconst 0, 0, 0, 0), (459, .ireturn, 0, 0, 0), (460, .aload_n 1, 0, 0, 0), (461, .aload_n 0, 0, 0, 0), (462, .iload_n 3, 0, 0, 0), (463, .iconst 1, 0, 0, 1), (464, .iadd, 0, 0, 0), (465, .iaload, 0, 0, 0), (466, .aload_n 0, 0, 0, 0), (467, .iload_n 3, 0, 0, 0), (468, .iconst 2, 0, 0, 2), (469, .iadd, 0, 0, 0), (470, .iaload, 0, 0, 0), (471, .aload_n 0, 0, 0, 0), (472, .iload_n 3, 0, 0, 0), (473, .iconst 3, 0, 0, 3), (474, .iadd, 0, 0, 0), (475, .iaload, 0, 0, 0), (476, .invokevirtual 73, 115, 3, 0), (479, .aload_n 2, 0, 0, 0), (480, .aload_n 0, 0, 0, 0), (481, .iload_n 3, 0, 0, 0), (482, .iconst 1, 0, 0, 1), (483, .iadd, 0, 0, 0), (484, .iaload, 0, 0, 0), (485, .aload_n 0, 0, 0, 0), (486, .iload_n 3, 0, 0, 0), (487, .iconst 2, 0, 0, 2), (488, .iadd, 0, 0, 0), (489, .iaload, 0, 0, 0), (490, .aload_n 0, 0, 0, 0), (491, .iload_n 3, 0, 0, 0)]
def gk149_7 : List (Nat × gI) := [(492, .iconst 3, 0, 0, 3), (493, .iadd, 0, 0, 0), (494, .iaload, 0, 0, 0), (495, .invokevirtual 76, 118, 3, 0), (498, .if_icmp .eq (235), 733, 0, 0), (501, .iconst 0, 0, 0, 0), (502, .ireturn, 0, 0, 0), (503, .aload_n 1, 0, 0, 0), (504, .aload_n 0, 0, 0, 0), (505, .iload_n 3, 0, 0, 0), (506, .iconst 1, 0, 0, 1), (507, .iadd, 0, 0, 0), (508, .iaload, 0, 0, 0), (509, .aload_n 0, 0, 0, 0), (510, .iload_n 3, 0, 0, 0), (511, .iconst 2, 0, 0, 2), (512, .iadd, 0, 0, 0), (513, .iaload, 0, 0, 0), (514, .invokevirtual 77, 119, 2, 0), (517, .aload_n 2, 0, 0, 0), (518, .aload_n 0, 0, 0, 0), (519, .iload_n 3, 0, 0, 0), (520, .iconst 1, 0, 0, 1), (521, .iadd, 0, 0, 0), (522, .iaload, 0, 0, 0), (523, .aload_n 0, 0, 0, 0), (524, .iload_n 3, 0, 0, 0), (525, .iconst 2, 0, 0, 2), (526, .iadd, 0, 0, 0), (527, .iaload, 0, 0, 0), (528, .invokevirtual 80, 120, 2, 0), (531, .if_icmp .eq (202), 733, 0, 0), (534, .iconst 0, 0, 0, 0), (535, .ireturn, 0, 0, 0), (536, .aload_n 1, 0, 0, 0), (537, .aload_n 0, 0, 0, 0), (538, .iload_n 3, 0, 0, 0), (539, .iconst 1, 0, 0, 1), (540, .iadd, 0, 0, 0), (541, .iaload, 0, 0, 0)]
def gk149_8 : List (Nat × gI) := [(542, .invokevirtual 81, 121, 1, 0), (545, .aload_n 2, 0, 0, 0), (546, .aload_n 0, 0, 0, 0), (547, .iload_n 3, 0, 0, 0), (548, .iconst 1, 0, 0, 1), (549, .iadd, 0, 0, 0), (550, .iaload, 0, 0, 0), (551, .invokevirtual 84, 122, 1, 0), (554, .if_icmp .eq (179), 733, 0, 0), (557, .iconst 0, 0, 0, 0), (558, .ireturn, 0, 0, 0), (559, .aload_n 1, 0, 0, 0), (560, .aload_n 0, 0, 0, 0), (561, .iload_n 3, 0, 0, 0), (562, .iconst 1, 0, 0, 1), (563, .iadd, 0, 0, 0), (564, .iaload, 0, 0, 0), (565, .aload_n 0, 0, 0, 0), (566, .iload_n 3, 0, 0, 0), (567, .iconst 2, 0, 0, 2), (568, .iadd, 0, 0, 0), (569, .iaload, 0, 0, 0), (570, .invokevirtual 85, 127, 2, 0), (573, .aload_n 2, 0, 0, 0), (574, .aload_n 0, 0, 0, 0), (575, .iload_n 3, 0, 0, 0), (576, .iconst 1, 0, 0, 1), (577, .iadd, 0, 0, 0), (578, .iaload, 0, 0, 0), (579, .aload_n 0, 0, 0, 0), (580, .iload_n 3, 0, 0, 0), (581, .iconst 2, 0, 0, 2), (582, .iadd, 0, 0, 0), (583, .iaload, 0, 0, 0), (584, .invokevirtual 88, 129, 2, 0), (587, .if_icmp .eq (146), 733, 0, 0), (590, .iconst 0, 0, 0, 0), (591, .ireturn, 0, 0, 0), (592, .aload_n 1, 0, 0, 0), (593, .aload_n 0, 0, 0, 0)]
def gk149_9 : List (Nat × gI) := [(594, .iload_n 3, 0, 0, 0), (595, .iconst 1, 0, 0, 1), (596, .iadd, 0, 0, 0), (597, .iaload, 0, 0, 0), (598, .aload_n 0, 0, 0, 0), (599, .iload_n 3, 0, 0, 0), (600, .iconst 2, 0, 0, 2), (601, .iadd, 0, 0, 0), (602, .iaload, 0, 0, 0), (603, .invokevirtual 89, 130, 2, 0), (606, .aload_n 2, 0, 0, 0), (607, .aload_n 0, 0, 0, 0), (608, .iload_n 3, 0, 0, 0), (609, .iconst 1, 0, 0, 1), (610, .iadd, 0, 0, 0), (611, .iaload, 0, 0, 0), (612, .aload_n 0, 0, 0, 0), (613, .iload_n 3, 0, 0, 0), (614, .iconst 2, 0, 0, 2), (615, .iadd, 0, 0, 0), (616, .iaload, 0, 0, 0), (617, .invokevirtual 92, 131, 2, 0), (620, .if_icmp .eq (113), 733, 0, 0), (623, .iconst 0, 0, 0, 0), (624, .ireturn, 0, 0, 0), (625, .aload_n 1, 0, 0, 0), (626, .invokevirtual 93, 132, 0, 0), (629, .aload_n 2, 0, 0, 0), (630, .invokevirtual 96, 133, 0, 0), (633, .if_icmp .eq (100), 733, 0, 0), (636, .iconst 0, 0, 0, 0), (637, .ireturn, 0, 0, 0), (638, .aload_n 1, 0, 0, 0), (639, .invokevirtual 97, 135, 0, 0), (642, .aload_n 2, 0, 0, 0), (643, .invokevirtual 100, 137, 0, 0), (646, .if_icmp .eq (87), 733, 0, 0), (649, .iconst 0, 0, 0, 0), (650, .ireturn, 0, 0, 0), (651, .aload_n 1, 0, 0, 0)]
def gk149_10 : List (Nat × gI) := [(652, .invokevirtual 101, 139, 0, 0), (655, .aload_n 2, 0, 0, 0), (656, .invokevirtual 104, 141, 0, 0), (659, .if_icmp .eq (74), 733, 0, 0), (662, .iconst 0, 0, 0, 0), (663, .ireturn, 0, 0, 0), (664, .aload_n 1, 0, 0, 0), (665, .aload_n 0, 0, 0, 0), (666, .iload_n 3, 0, 0, 0), (667, .iconst 1, 0, 0, 1), (668, .iadd, 0, 0, 0), (669, .iaload, 0, 0, 0), (670, .invokevirtual 105, 143, 1, 0), (673, .aload_n 2, 0, 0, 0), (674, .aload_n 0, 0, 0, 0), (675, .iload_n 3, 0, 0, 0), (676, .iconst 1, 0, 0, 1), (677, .iadd, 0, 0, 0), (678, .iaload, 0, 0, 0), (679, .invokevirtual 108, 144, 1, 0), (682, .if_icmp .eq (51), 733, 0, 0), (685, .iconst 0, 0, 0, 0), (686, .ireturn, 0, 0, 0), (687, .aload_n 1, 0, 0, 0), (688, .aload_n 0, 0, 0, 0), (689, .iload_n 3, 0, 0, 0), (690, .iconst 1, 0, 0, 1), (691, .iadd, 0, 0, 0), (692, .iaload, 0, 0, 0), (693, .invokevirtual 109, 145, 1, 0), (696, .aload_n 2, 0, 0, 0), (697, .aload_n 0, 0, 0, 0), (698, .iload_n 3, 0, 0, 0), (699, .iconst 1, 0, 0, 1), (700, .iadd, 0, 0, 0), (701, .iaload, 0, 0, 0), (702, .invokevirtual 112, 146, 1, 0), (705, .if_icmp .eq (28), 733, 0, 0), (708, .iconst 0, 0, 0, 0), (709, .ireturn, 0, 0, 0)]
def gk149_11 : List (Nat × gI) := [(710, .aload_n 1, 0, 0, 0), (711, .aload_n 0, 0, 0, 0), (712, .iload_n 3, 0, 0, 0), (713, .iconst 1, 0, 0, 1), (714, .iadd, 0, 0, 0), (715, .iaload, 0, 0, 0), (716, .invokevirtual 113, 147, 1, 0), (719, .aload_n 2, 0, 0, 0), (720, .aload_n 0, 0, 0, 0), (721, .iload_n 3, 0, 0, 0), (722, .iconst 1, 0, 0, 1), (723, .iadd, 0, 0, 0), (724, .iaload, 0, 0, 0), (725, .invokevirtual 116, 148, 1, 0), (728, .if_icmp .eq (5), 733, 0, 0), (731, .iconst 0, 0, 0, 0), (732, .ireturn, 0, 0, 0), (733, .iinc 3 (4), 0, 0, 4), (736, .goto (-718), 18, 0, 0), (739, .iconst 1, 0, 0, 1), (740, .ireturn, 0, 0, 0)]
def gk149 : List (Nat × gI) := gk149_0 ++ gk149_1 ++ gk149_2 ++ gk149_3 ++ gk149_4 ++ gk149_5 ++ gk149_6 ++ gk149_7 ++ gk149_8 ++ gk149_9 ++ gk149_10 ++ gk149_11
def g_code : Nat → List (Nat × gI) := fun m => match m with
  | 0 => gk0
  | 1 => gk1
  | 2 => gk2
  | 3 => gk3
  | 4 => gk4
  | 5 => gk5
  | 6 => gk6
  | 7 => gk7
  | 8 => gk8
  | 9 => gk9
  | 10 => gk10
  | 11 => gk11
  | 12 => gk12
  | 13 => gk13
  | 14 => gk14
  | 15 => gk15
  | 16 => gk16
  | 17 => gk17
  | 18 => gk18
  | 19 => gk19
  | 20 => gk20
  | 21 => gk21
  | 22 => gk22
  | 23 => gk23
  | 24 => gk24
  | 25 => gk25
  | 26 => gk26
  | 27 => gk27
  | 28 => gk28
  | 29 => gk29
  | 30 => gk30
  | 31 => gk31
  | 32 => gk32
  | 33 => gk33
  | 34 => gk34
  | 35 => gk35
  | 36 => gk36
  | 37 => gk37
  | 38 => gk38
  | 39 => gk39
  | 40 => gk40
  | 41 => gk41
  | 42 => gk42
  | 43 => gk43
  | 44 => gk44
  | 45 => gk45
  | 46 => gk46
  | 47 => gk47
  | 48 => gk48
  | 49 => gk49
  | 50 => gk50
  | 51 => gk51
  | 52 => gk52
  | 53 => gk53
  | 54 => gk54
  | 55 => gk55
  | 56 => gk56
  | 57 => gk57
  | 58 => gk58
  | 59 => gk59
  | 60 => gk60
  | 61 => gk61
  | 62 => gk62
  | 63 => gk63
  | 64 => gk64
  | 65 => gk65
  | 66 => gk66
  | 67 => gk67
  | 68 => gk68
  | 69 => gk69
  | 70 => gk70
  | 71 => gk71
  | 72 => gk72
  | 73 => gk73
  | 74 => gk74
  | 75 => gk75
  | 76 => gk76
  | 77 => gk77
  | 78 => gk78
  | 79 => gk79
  | 80 => gk80
  | 81 => gk81
  | 82 => gk82
  | 83 => gk83
  | 84 => gk84
  | 85 => gk85
  | 86 => gk86
  | 87 => gk87
  | 88 => gk88
  | 89 => gk89
  | 90 => gk90
  | 91 => gk91
  | 92 => gk92
  | 93 => gk93
  | 94 => gk94
  | 95 => gk95
  | 96 => gk96
  | 97 => gk97
  | 98 => gk98
  | 99 => gk99
  | 100 => gk100
  | 101 => gk101
  | 102 => gk102
  | 103 => gk103
  | 104 => gk104
  | 105 => gk105
  | 106 => gk106
  | 107 => gk107
  | 108 => gk108
  | 109 => gk109
  | 110 => gk110
  | 111 => gk111
  | 112 => gk112
  | 113 => gk113
  | 114 => gk114
  | 115 => gk115
  | 116 => gk116
  | 117 => gk117
  | 118 => gk118
  | 119 => gk119
  | 120 => gk120
  | 121 => gk121
  | 122 => gk122
  | 123 => gk123
  | 124 => gk124
  | 125 => gk125
  | 126 => gk126
  | 127 => gk127
  | 128 => gk128
  | 129 => gk129
  | 130 => gk130
  | 131 => gk131
  | 132 => gk132
  | 133 => gk133
  | 134 => gk134
  | 135 => gk135
  | 136 => gk136
  | 137 => gk137
  | 138 => gk138
  | 139 => gk139
  | 140 => gk140
  | 141 => gk141
  | 142 => gk142
  | 143 => gk143
  | 144 => gk144
  | 145 => gk145
  | 146 => gk146
  | 147 => gk147
  | 148 => gk148
  | 149 => gk149
  | _ => []
/-- class, name, bytes, locals, answer, frames, words of locals, arguments -/
abbrev gMd : Type := Nat × MethodName × ByteArray × Nat × Option FieldType × Nat × Nat × Nat
def g_meth : Nat → gMd := fun m => match m with
  | 0 => (2, ⟨"SwitchBook$Text", "<init>", "()V"⟩, prog_4_method_1_code, 1, none, 1, 12, 0)
  | 1 => (0, ⟨"SwitchBook$Draft", "<init>", "()V"⟩, prog_2_method_1_code, 1, none, 1, 12, 0)
  | 2 => (1, ⟨"SwitchBook$Net", "<init>", "()V"⟩, prog_3_method_1_code, 1, none, 1, 12, 0)
  | 3 => (3, ⟨"SwitchBook", "setPrices", "(III)V"⟩, prog_1_method_34_code, 4, none, 0, 0, 3)
  | 4 => (3, ⟨"SwitchBook", "startAnew", "()V"⟩, prog_1_method_33_code, 1, none, 1, 23, 0)
  | 5 => (3, ⟨"SwitchBook", "<init>", "()V"⟩, prog_1_method_1_code, 1, none, 2, 43, 0)
  | 6 => (4, ⟨"SwitchBookModel", "begins", "()V"⟩, prog_6_method_14_code, 2, none, 0, 0, 0)
  | 7 => (4, ⟨"SwitchBookModel", "settles", "()V"⟩, prog_6_method_22_code, 2, none, 0, 0, 0)
  | 8 => (4, ⟨"SwitchBookModel", "<init>", "()V"⟩, prog_6_method_1_code, 1, none, 1, 21, 0)
  | 9 => (3, ⟨"SwitchBook", "type", "(I)I"⟩, prog_1_method_2_code, 2, (some .int), 0, 0, 1)
  | 10 => (4, ⟨"SwitchBookModel", "in", "(III)Z"⟩, prog_6_method_3_code, 3, (some .boolean), 0, 0, 3)
  | 11 => (4, ⟨"SwitchBookModel", "type", "(I)I"⟩, prog_6_method_6_code, 2, (some .int), 1, 22, 1)
  | 12 => (3, ⟨"SwitchBook", "clear", "()I"⟩, prog_1_method_3_code, 2, (some .int), 0, 0, 0)
  | 13 => (4, ⟨"SwitchBookModel", "clear", "()I"⟩, prog_6_method_7_code, 2, (some .int), 0, 0, 0)
  | 14 => (0, ⟨"SwitchBook$Draft", "forgetAll", "()V"⟩, prog_2_method_3_code, 1, none, 0, 0, 0)
  | 15 => (2, ⟨"SwitchBook$Text", "rewind", "()V"⟩, prog_4_method_2_code, 1, none, 0, 0, 0)
  | 16 => (2, ⟨"SwitchBook$Text", "readNumber", "()V"⟩, prog_4_method_4_code, 3, none, 0, 0, 0)
  | 17 => (3, ⟨"SwitchBook", "isName", "(I)Z"⟩, prog_1_method_31_code, 1, (some .boolean), 0, 0, 1)
  | 18 => (2, ⟨"SwitchBook$Text", "advance", "()V"⟩, prog_4_method_3_code, 2, none, 1, 22, 0)
  | 19 => (3, ⟨"SwitchBook", "bit", "(II)I"⟩, prog_1_method_32_code, 2, (some .int), 0, 0, 2)
  | 20 => (2, ⟨"SwitchBook$Text", "take", "(II)I"⟩, prog_4_method_5_code, 4, (some .int), 2, 43, 2)
  | 21 => (0, ⟨"SwitchBook$Draft", "readNodes", "(LSwitchBook$Text;)Z"⟩, prog_2_method_7_code, 3, (some .boolean), 3, 66, 1)
  | 22 => (0, ⟨"SwitchBook$Draft", "allNodes", "()I"⟩, prog_2_method_5_code, 1, (some .int), 0, 0, 0)
  | 23 => (0, ⟨"SwitchBook$Draft", "asSet", "(I)I"⟩, prog_2_method_6_code, 1, (some .int), 0, 0, 1)
  | 24 => (0, ⟨"SwitchBook$Draft", "readSource", "(LSwitchBook$Text;)Z"⟩, prog_2_method_8_code, 3, (some .boolean), 3, 66, 1)
  | 25 => (0, ⟨"SwitchBook$Draft", "readLoad", "(LSwitchBook$Text;)Z"⟩, prog_2_method_9_code, 3, (some .boolean), 3, 66, 1)
  | 26 => (6, ⟨"java/lang/Integer", "bitCount", "(I)I"⟩, prog_7_method_49_code, 1, (some .int), 0, 0, 1)
  | 27 => (0, ⟨"SwitchBook$Draft", "readSwitch", "(LSwitchBook$Text;I)Z"⟩, prog_2_method_12_code, 6, (some .boolean), 3, 66, 2)
  | 28 => (0, ⟨"SwitchBook$Draft", "readClosed", "(LSwitchBook$Text;)Z"⟩, prog_2_method_10_code, 3, (some .boolean), 3, 66, 1)
  | 29 => (0, ⟨"SwitchBook$Draft", "readLocked", "(LSwitchBook$Text;)Z"⟩, prog_2_method_11_code, 3, (some .boolean), 3, 66, 1)
  | 30 => (0, ⟨"SwitchBook$Draft", "readItem", "(LSwitchBook$Text;I)Z"⟩, prog_2_method_4_code, 3, (some .boolean), 4, 91, 2)
  | 31 => (2, ⟨"SwitchBook$Text", "takeSemicolon", "()Z"⟩, prog_4_method_6_code, 1, (some .boolean), 2, 43, 0)
  | 32 => (0, ⟨"SwitchBook$Draft", "read", "(LSwitchBook$Text;)I"⟩, prog_2_method_2_code, 3, (some .int), 5, 113, 1)
  | 33 => (1, ⟨"SwitchBook$Net", "number", "(LSwitchBook$Draft;I)V"⟩, prog_3_method_3_code, 3, none, 1, 21, 2)
  | 34 => (8, ⟨"java/util/Arrays", "fill", "([II)V"⟩, prog_9_method_103_code, 4, none, 0, 0, 2)
  | 35 => (1, ⟨"SwitchBook$Net", "allSwitches", "()I"⟩, prog_3_method_11_code, 1, (some .int), 0, 0, 0)
  | 36 => (1, ⟨"SwitchBook$Net", "join", "(I)V"⟩, prog_3_method_6_code, 3, none, 1, 21, 1)
  | 37 => (1, ⟨"SwitchBook$Net", "formParts", "(I)V"⟩, prog_3_method_5_code, 3, none, 2, 43, 1)
  | 38 => (1, ⟨"SwitchBook$Net", "partsWith", "(I)I"⟩, prog_3_method_7_code, 4, (some .int), 1, 21, 1)
  | 39 => (1, ⟨"SwitchBook$Net", "nodesOfClosedEarths", "(I)I"⟩, prog_3_method_8_code, 4, (some .int), 1, 21, 1)
  | 40 => (1, ⟨"SwitchBook$Net", "isUnderLoad", "(III)Z"⟩, prog_3_method_10_code, 6, (some .boolean), 1, 21, 3)
  | 41 => (1, ⟨"SwitchBook$Net", "holdIsolators", "(II)V"⟩, prog_3_method_9_code, 4, none, 2, 46, 2)
  | 42 => (1, ⟨"SwitchBook$Net", "measureStates", "()V"⟩, prog_3_method_4_code, 2, none, 3, 69, 0)
  | 43 => (1, ⟨"SwitchBook$Net", "draw", "(LSwitchBook$Draft;)V"⟩, prog_3_method_2_code, 4, none, 4, 90, 1)
  | 44 => (1, ⟨"SwitchBook$Net", "sound", "(I)Z"⟩, prog_3_method_13_code, 2, (some .boolean), 0, 0, 1)
  | 45 => (3, ⟨"SwitchBook", "book", "()I"⟩, prog_1_method_4_code, 3, (some .int), 6, 135, 0)
  | 46 => (4, ⟨"SwitchBookModel", "letterAt", "(I)I"⟩, prog_6_method_8_code, 2, (some .int), 0, 0, 1)
  | 47 => (4, ⟨"SwitchBookModel", "advances", "()V"⟩, prog_6_method_9_code, 2, none, 1, 22, 0)
  | 48 => (4, ⟨"SwitchBookModel", "isWell", "()Z"⟩, prog_6_method_10_code, 1, (some .boolean), 0, 0, 0)
  | 49 => (4, ⟨"SwitchBookModel", "mayBegin", "(I)Z"⟩, prog_6_method_15_code, 3, (some .boolean), 0, 0, 1)
  | 50 => (4, ⟨"SwitchBookModel", "takes", "(Z)I"⟩, prog_6_method_11_code, 3, (some .int), 2, 43, 1)
  | 51 => (4, ⟨"SwitchBookModel", "isNumber", "(II)Z"⟩, prog_6_method_12_code, 3, (some .boolean), 1, 22, 2)
  | 52 => (4, ⟨"SwitchBookModel", "withName", "([II)I"⟩, prog_6_method_13_code, 4, (some .int), 0, 0, 2)
  | 53 => (4, ⟨"SwitchBookModel", "has", "(II)Z"⟩, prog_6_method_4_code, 2, (some .boolean), 0, 0, 2)
  | 54 => (4, ⟨"SwitchBookModel", "gets", "(IZ)I"⟩, prog_6_method_17_code, 5, (some .int), 3, 65, 2)
  | 55 => (4, ⟨"SwitchBookModel", "readsSwitch", "(I)V"⟩, prog_6_method_16_code, 3, none, 3, 65, 1)
  | 56 => (4, ⟨"SwitchBookModel", "readsItem", "(I)V"⟩, prog_6_method_18_code, 2, none, 4, 89, 1)
  | 57 => (4, ⟨"SwitchBookModel", "changes", "(I)V"⟩, prog_6_method_19_code, 4, none, 1, 21, 1)
  | 58 => (4, ⟨"SwitchBookModel", "sorts", "()V"⟩, prog_6_method_20_code, 3, none, 2, 44, 0)
  | 59 => (4, ⟨"SwitchBookModel", "partsBy", "([II)V"⟩, prog_6_method_25_code, 8, none, 1, 21, 2)
  | 60 => (4, ⟨"SwitchBookModel", "spread", "([II)I"⟩, prog_6_method_26_code, 6, (some .int), 1, 21, 2)
  | 61 => (4, ⟨"SwitchBookModel", "liveBy", "([II)I"⟩, prog_6_method_27_code, 3, (some .int), 2, 48, 2)
  | 62 => (4, ⟨"SwitchBookModel", "earthedBy", "([II)I"⟩, prog_6_method_28_code, 5, (some .int), 2, 48, 2)
  | 63 => (4, ⟨"SwitchBookModel", "book", "()I"⟩, prog_6_method_21_code, 3, (some .int), 5, 110, 0)
  | 64 => (3, ⟨"SwitchBook", "isSwitch", "(I)Z"⟩, prog_1_method_27_code, 2, (some .boolean), 0, 0, 1)
  | 65 => (1, ⟨"SwitchBook$Net", "whyNot", "(II)I"⟩, prog_3_method_14_code, 3, (some .int), 1, 21, 2)
  | 66 => (3, ⟨"SwitchBook", "whyNot", "(I)I"⟩, prog_1_method_38_code, 2, (some .int), 2, 43, 1)
  | 67 => (3, ⟨"SwitchBook", "device", "(II)I"⟩, prog_1_method_5_code, 3, (some .int), 3, 64, 2)
  | 68 => (4, ⟨"SwitchBookModel", "isSwitch", "(I)Z"⟩, prog_6_method_23_code, 2, (some .boolean), 1, 22, 1)
  | 69 => (4, ⟨"SwitchBookModel", "isLoaded", "(I)Z"⟩, prog_6_method_29_code, 4, (some .boolean), 1, 21, 1)
  | 70 => (4, ⟨"SwitchBookModel", "whyNot", "(II)I"⟩, prog_6_method_30_code, 8, (some .int), 3, 72, 2)
  | 71 => (4, ⟨"SwitchBookModel", "device", "(II)I"⟩, prog_6_method_31_code, 3, (some .int), 4, 99, 2)
  | 72 => (3, ⟨"SwitchBook", "named", "(I)I"⟩, prog_1_method_6_code, 3, (some .int), 1, 20, 1)
  | 73 => (4, ⟨"SwitchBookModel", "named", "(I)I"⟩, prog_6_method_32_code, 2, (some .int), 1, 23, 1)
  | 74 => (3, ⟨"SwitchBook", "isNode", "(I)Z"⟩, prog_1_method_28_code, 2, (some .boolean), 0, 0, 1)
  | 75 => (1, ⟨"SwitchBook$Net", "lowestOfPart", "(II)I"⟩, prog_3_method_15_code, 4, (some .int), 3, 65, 2)
  | 76 => (3, ⟨"SwitchBook", "node", "(II)I"⟩, prog_1_method_7_code, 3, (some .int), 4, 88, 2)
  | 77 => (4, ⟨"SwitchBookModel", "isNode", "(I)Z"⟩, prog_6_method_24_code, 2, (some .boolean), 1, 22, 1)
  | 78 => (4, ⟨"SwitchBookModel", "node", "(II)I"⟩, prog_6_method_33_code, 5, (some .int), 3, 72, 2)
  | 79 => (3, ⟨"SwitchBook", "lawfulMoves", "()I"⟩, prog_1_method_39_code, 3, (some .int), 3, 64, 0)
  | 80 => (1, ⟨"SwitchBook$Net", "parts", "(I)I"⟩, prog_3_method_16_code, 4, (some .int), 4, 88, 1)
  | 81 => (3, ⟨"SwitchBook", "spreadFrom", "(I)I"⟩, prog_1_method_42_code, 6, (some .int), 2, 43, 1)
  | 82 => (3, ⟨"SwitchBook", "spread", "()V"⟩, prog_1_method_41_code, 5, none, 3, 68, 0)
  | 83 => (3, ⟨"SwitchBook", "aim", "(IIII)V"⟩, prog_1_method_40_code, 9, none, 4, 92, 4)
  | 84 => (3, ⟨"SwitchBook", "states", "()I"⟩, prog_1_method_45_code, 3, (some .int), 5, 120, 0)
  | 85 => (3, ⟨"SwitchBook", "far", "()I"⟩, prog_1_method_46_code, 3, (some .int), 5, 120, 0)
  | 86 => (3, ⟨"SwitchBook", "now", "(I)I"⟩, prog_1_method_8_code, 2, (some .int), 6, 142, 1)
  | 87 => (4, ⟨"SwitchBookModel", "allLawful", "()I"⟩, prog_6_method_35_code, 3, (some .int), 4, 99, 0)
  | 88 => (4, ⟨"SwitchBookModel", "parts", "()I"⟩, prog_6_method_34_code, 3, (some .int), 2, 48, 0)
  | 89 => (4, ⟨"SwitchBookModel", "states", "()I"⟩, prog_6_method_45_code, 1, (some .int), 0, 0, 0)
  | 90 => (4, ⟨"SwitchBookModel", "laws", "()V"⟩, prog_6_method_46_code, 3, none, 4, 99, 0)
  | 91 => (4, ⟨"SwitchBookModel", "priceOf", "(I)I"⟩, prog_6_method_47_code, 2, (some .int), 0, 0, 1)
  | 92 => (4, ⟨"SwitchBookModel", "reached", "(Z)I"⟩, prog_6_method_53_code, 6, (some .int), 5, 121, 1)
  | 93 => (4, ⟨"SwitchBookModel", "now", "(I)I"⟩, prog_6_method_36_code, 3, (some .int), 6, 146, 1)
  | 94 => (3, ⟨"SwitchBook", "standing", "()I"⟩, prog_1_method_35_code, 1, (some .int), 0, 0, 0)
  | 95 => (3, ⟨"SwitchBook", "remember", "()V"⟩, prog_1_method_37_code, 2, none, 1, 20, 0)
  | 96 => (3, ⟨"SwitchBook", "moves", "(I)I"⟩, prog_1_method_9_code, 2, (some .int), 3, 64, 1)
  | 97 => (4, ⟨"SwitchBookModel", "notes", "()V"⟩, prog_6_method_37_code, 2, none, 0, 0, 0)
  | 98 => (4, ⟨"SwitchBookModel", "moves", "(I)I"⟩, prog_6_method_38_code, 2, (some .int), 4, 99, 1)
  | 99 => (3, ⟨"SwitchBook", "locks", "(I)I"⟩, prog_1_method_10_code, 2, (some .int), 2, 41, 1)
  | 100 => (4, ⟨"SwitchBookModel", "locks", "(I)I"⟩, prog_6_method_39_code, 2, (some .int), 2, 43, 1)
  | 101 => (3, ⟨"SwitchBook", "isPrice", "(I)Z"⟩, prog_1_method_30_code, 1, (some .boolean), 0, 0, 1)
  | 102 => (3, ⟨"SwitchBook", "prices", "(III)I"⟩, prog_1_method_11_code, 4, (some .int), 2, 41, 3)
  | 103 => (4, ⟨"SwitchBookModel", "prices", "(III)I"⟩, prog_6_method_40_code, 4, (some .int), 1, 22, 3)
  | 104 => (3, ⟨"SwitchBook", "lists", "(I)I"⟩, prog_1_method_12_code, 2, (some .int), 1, 21, 1)
  | 105 => (4, ⟨"SwitchBookModel", "lists", "(I)I"⟩, prog_6_method_41_code, 2, (some .int), 2, 43, 1)
  | 106 => (3, ⟨"SwitchBook", "goes", "()I"⟩, prog_1_method_13_code, 3, (some .int), 3, 64, 0)
  | 107 => (4, ⟨"SwitchBookModel", "goes", "()I"⟩, prog_6_method_42_code, 3, (some .int), 4, 99, 0)
  | 108 => (3, ⟨"SwitchBook", "drops", "()I"⟩, prog_1_method_14_code, 2, (some .int), 0, 0, 0)
  | 109 => (4, ⟨"SwitchBookModel", "drops", "()I"⟩, prog_6_method_43_code, 2, (some .int), 0, 0, 0)
  | 110 => (3, ⟨"SwitchBook", "restore", "(I)V"⟩, prog_1_method_36_code, 2, none, 1, 23, 1)
  | 111 => (3, ⟨"SwitchBook", "undo", "()I"⟩, prog_1_method_15_code, 1, (some .int), 2, 44, 0)
  | 112 => (4, ⟨"SwitchBookModel", "undo", "()I"⟩, prog_6_method_44_code, 2, (some .int), 0, 0, 0)
  | 113 => (3, ⟨"SwitchBook", "stepFrom", "(I)I"⟩, prog_1_method_44_code, 3, (some .int), 2, 43, 1)
  | 114 => (3, ⟨"SwitchBook", "cheapest", "(I)I"⟩, prog_1_method_43_code, 6, (some .int), 3, 65, 1)
  | 115 => (3, ⟨"SwitchBook", "plan", "(III)I"⟩, prog_1_method_16_code, 4, (some .int), 5, 120, 3)
  | 116 => (4, ⟨"SwitchBookModel", "reckons", "()V"⟩, prog_6_method_48_code, 5, none, 5, 121, 0)
  | 117 => (4, ⟨"SwitchBookModel", "tells", "(I)I"⟩, prog_6_method_49_code, 6, (some .int), 6, 145, 1)
  | 118 => (4, ⟨"SwitchBookModel", "plan", "(III)I"⟩, prog_6_method_50_code, 5, (some .int), 7, 170, 3)
  | 119 => (3, ⟨"SwitchBook", "work", "(II)I"⟩, prog_1_method_17_code, 3, (some .int), 5, 120, 2)
  | 120 => (4, ⟨"SwitchBookModel", "work", "(II)I"⟩, prog_6_method_51_code, 4, (some .int), 7, 170, 2)
  | 121 => (3, ⟨"SwitchBook", "supply", "(I)I"⟩, prog_1_method_18_code, 2, (some .int), 5, 120, 1)
  | 122 => (4, ⟨"SwitchBookModel", "supply", "(I)I"⟩, prog_6_method_52_code, 3, (some .int), 7, 170, 1)
  | 123 => (1, ⟨"SwitchBook$Net", "ofKind", "(I)I"⟩, prog_3_method_12_code, 4, (some .int), 0, 0, 1)
  | 124 => (3, ⟨"SwitchBook", "power", "(II)I"⟩, prog_1_method_48_code, 4, (some .int), 0, 0, 2)
  | 125 => (3, ⟨"SwitchBook", "waysToStayLive", "(II)I"⟩, prog_1_method_47_code, 6, (some .int), 1, 23, 2)
  | 126 => (3, ⟨"SwitchBook", "greatestCommonDivisor", "(II)I"⟩, prog_1_method_49_code, 6, (some .int), 0, 0, 2)
  | 127 => (3, ⟨"SwitchBook", "odds", "(II)I"⟩, prog_1_method_19_code, 7, (some .int), 2, 48, 2)
  | 128 => (4, ⟨"SwitchBookModel", "gcd", "(II)I"⟩, prog_6_method_54_code, 5, (some .int), 0, 0, 2)
  | 129 => (4, ⟨"SwitchBookModel", "odds", "(II)I"⟩, prog_6_method_55_code, 10, (some .int), 3, 70, 2)
  | 130 => (3, ⟨"SwitchBook", "sees", "(II)I"⟩, prog_1_method_20_code, 3, (some .int), 1, 21, 2)
  | 131 => (4, ⟨"SwitchBookModel", "sees", "(II)I"⟩, prog_6_method_56_code, 3, (some .int), 2, 43, 2)
  | 132 => (3, ⟨"SwitchBook", "forget", "()I"⟩, prog_1_method_21_code, 2, (some .int), 0, 0, 0)
  | 133 => (4, ⟨"SwitchBookModel", "forget", "()I"⟩, prog_6_method_57_code, 2, (some .int), 0, 0, 0)
  | 134 => (3, ⟨"SwitchBook", "explainsAllSeen", "(I)Z"⟩, prog_1_method_50_code, 4, (some .boolean), 1, 21, 1)
  | 135 => (3, ⟨"SwitchBook", "unseen", "()I"⟩, prog_1_method_22_code, 3, (some .int), 2, 44, 0)
  | 136 => (4, ⟨"SwitchBookModel", "unseenSet", "()I"⟩, prog_6_method_58_code, 6, (some .int), 3, 70, 0)
  | 137 => (4, ⟨"SwitchBookModel", "unseen", "()I"⟩, prog_6_method_59_code, 1, (some .int), 4, 95, 0)
  | 138 => (3, ⟨"SwitchBook", "suspectsThatLight", "(II)I"⟩, prog_1_method_51_code, 5, (some .int), 1, 21, 2)
  | 139 => (3, ⟨"SwitchBook", "look", "()I"⟩, prog_1_method_23_code, 8, (some .int), 3, 66, 0)
  | 140 => (4, ⟨"SwitchBookModel", "ones", "(I)I"⟩, prog_6_method_5_code, 3, (some .int), 0, 0, 1)
  | 141 => (4, ⟨"SwitchBookModel", "look", "()I"⟩, prog_6_method_60_code, 8, (some .int), 4, 95, 0)
  | 142 => (3, ⟨"SwitchBook", "isImage", "(I)Z"⟩, prog_1_method_29_code, 1, (some .boolean), 0, 0, 1)
  | 143 => (3, ⟨"SwitchBook", "keep", "(I)I"⟩, prog_1_method_24_code, 2, (some .int), 1, 20, 1)
  | 144 => (4, ⟨"SwitchBookModel", "keep", "(I)I"⟩, prog_6_method_61_code, 3, (some .int), 1, 22, 1)
  | 145 => (3, ⟨"SwitchBook", "back", "(I)I"⟩, prog_1_method_25_code, 2, (some .int), 2, 44, 1)
  | 146 => (4, ⟨"SwitchBookModel", "back", "(I)I"⟩, prog_6_method_62_code, 3, (some .int), 1, 22, 1)
  | 147 => (3, ⟨"SwitchBook", "count", "(I)I"⟩, prog_1_method_26_code, 2, (some .int), 0, 0, 1)
  | 148 => (4, ⟨"SwitchBookModel", "count", "(I)I"⟩, prog_6_method_63_code, 2, (some .int), 1, 22, 1)
  | 149 => (5, x, code, 4, (some .boolean), 8, 194, 1)
  | _ => (0, x, code, 0, none, 0, 0, 0)
def g_shp : Nat → (Bool × Nat) ⊕ Nat := fun p => match p with
  | 0 => .inr 3
  | 1 => .inr 2
  | 2 => .inl (false, 120)
  | 3 => .inr 0
  | 4 => .inl (false, 26)
  | 5 => .inl (false, 26)
  | 6 => .inl (false, 26)
  | 7 => .inr 1
  | 8 => .inl (false, 8)
  | 9 => .inl (false, 8)
  | 10 => .inl (false, 8)
  | 11 => .inl (false, 8)
  | 12 => .inl (false, 256)
  | 13 => .inl (false, 256)
  | 14 => .inl (false, 256)
  | 15 => .inl (false, 6)
  | 16 => .inr 1
  | 17 => .inl (false, 8)
  | 18 => .inl (false, 8)
  | 19 => .inl (false, 8)
  | 20 => .inl (false, 8)
  | 21 => .inl (false, 256)
  | 22 => .inl (false, 256)
  | 23 => .inl (false, 256)
  | 24 => .inl (false, 6)
  | 25 => .inl (false, 3)
  | 26 => .inl (false, 12)
  | 27 => .inl (false, 10)
  | 28 => .inl (false, 2)
  | 29 => .inl (false, 6)
  | 30 => .inl (false, 256)
  | 31 => .inr 4
  | 32 => .inl (false, 120)
  | 33 => .inl (false, 36)
  | 34 => .inl (false, 36)
  | 35 => .inl (false, 5)
  | 36 => .inl (false, 5)
  | 37 => .inl (false, 50)
  | 38 => .inl (false, 10)
  | 39 => .inl (true, 2)
  | 40 => .inl (false, 12)
  | 41 => .inl (false, 6)
  | 42 => .inl (false, 6)
  | 43 => .inl (false, 6)
  | 44 => .inl (false, 256)
  | 45 => .inl (true, 256)
  | 46 => .inl (true, 2048)
  | _ => .inl (false, 0)
/-- field links: index, class, field, own; the word's place -/
def g_fl : List (Nat × Nat × Nat × Nat × Nat) := [(7, 4, 1, 4, 3075), (9, 0, 6, 0, 1066), (9, 1, 0, 1, 1097), (9, 2, 0, 2, 1023), (12, 3, 0, 3, 1160), (13, 4, 8, 4, 3082), (15, 0, 7, 0, 1068), (15, 1, 6, 1, 1109), (15, 2, 2, 2, 1027), (16, 4, 9, 4, 3083), (18, 0, 8, 0, 1070), (19, 1, 7, 1, 1111), (19, 2, 1, 2, 1026), (19, 3, 1, 3, 1161), (19, 4, 10, 4, 3084), (22, 1, 8, 1, 1113), (22, 2, 3, 2, 1028), (22, 4, 11, 4, 3085), (25, 1, 9, 1, 1115), (25, 2, 4, 2, 1031), (25, 4, 12, 4, 3086), (26, 3, 2, 3, 1162), (28, 1, 10, 1, 1117), (28, 4, 14, 4, 3088), (30, 3, 3, 3, 1163), (31, 1, 11, 1, 1119), (31, 2, 5, 2, 1032), (31, 4, 15, 4, 3089), (32, 2, 4, 0, 1030), (33, 3, 6, 3, 1166), (34, 1, 12, 1, 1121), (35, 4, 16, 4, 3090), (37, 1, 13, 1, 1122), (37, 3, 7, 3, 1167), (38, 4, 18, 4, 3092), (40, 0, 0, 1, 1054), (40, 3, 9, 3, 1169), (41, 4, 19, 4, 3093), (43, 0, 0, 0, 1055), (43, 0, 1, 1, 1056), (43, 3, 11, 3, 1171), (44, 4, 21, 4, 3095), (46, 0, 1, 0, 1057), (46, 1, 1, 1, 1099), (46, 3, 13, 3, 1173), (47, 0, 2, 1, 1058), (47, 4, 22, 4, 3096), (49, 0, 2, 0, 1059), (49, 3, 15, 3, 1175), (50, 1, 2, 1, 1101), (50, 4, 23, 4, 3097), (51, 1, 3, 1, 1103), (52, 0, 3, 0, 1061), (53, 4, 24, 4, 3098), (54, 1, 4, 1, 1105), (55, 0, 4, 0, 1062), (55, 2, 1, 3, 1025), (57, 1, 5, 1, 1107), (58, 0, 5, 0, 1064), (59, 2, 0, 3, 1024), (60, 0, 3, 1, 1060), (61, 2, 5, 0, 1033), (62, 4, 0, 4, 3074), (66, 2, 3, 3, 1029), (67, 0, 6, 1, 1067), (70, 4, 2, 4, 3076), (73, 1, 4, 3, 1106), (73, 4, 3, 4, 3077), (75, 0, 7, 1, 1069), (76, 0, 8, 1, 1071), (77, 0, 4, 1, 1063), (80, 0, 5, 1, 1065), (80, 4, 5, 4, 3079), (83, 1, 6, 3, 1110), (83, 4, 4, 4, 3078), (86, 1, 7, 3, 1112), (86, 4, 6, 4, 3080), (89, 1, 8, 3, 1114), (89, 4, 7, 4, 3081), (92, 1, 9, 3, 1116), (95, 3, 4, 3, 1164), (102, 3, 5, 3, 1165), (112, 1, 3, 3, 1104), (118, 1, 10, 3, 1118), (121, 1, 11, 3, 1120), (127, 1, 1, 3, 1100), (130, 1, 2, 3, 1102), (141, 4, 17, 4, 3091), (144, 4, 20, 4, 3094), (146, 3, 10, 3, 1170), (147, 4, 13, 4, 3087), (159, 3, 8, 3, 1168), (193, 3, 14, 3, 1174), (202, 1, 0, 3, 1098), (219, 3, 12, 3, 1172), (222, 1, 5, 3, 1108)]
/-- method links: index, method, own, kind; places of link, static or instance, selects, initialized, code -/
def g_lk_0 : List (Nat × Nat × Nat × Nat × Nat × Nat × Nat × Nat × Nat) := [(9, 5, 5, 3, 1011, 1012, 0, 1001, 1013), (11, 0, 3, 4, 1019, 1020, 0, 1002, 1021), (12, 8, 5, 3, 3062, 3063, 0, 1005, 3064), (13, 9, 5, 0, 1209, 1210, 1211, 1001, 1212), (17, 11, 5, 0, 3151, 3152, 3153, 1005, 3154), (18, 1, 3, 4, 1050, 1051, 0, 1003, 1052), (18, 12, 5, 0, 1213, 1214, 1215, 1001, 1216), (21, 14, 0, 0, 1225, 1227, 2, 1003, 1228), (22, 13, 5, 0, 3158, 3159, 3160, 1005, 3161), (23, 45, 5, 0, 1217, 1218, 1219, 1001, 1220), (24, 15, 0, 0, 1229, 1230, 1231, 1002, 1232), (25, 2, 3, 4, 1093, 1094, 0, 1004, 1095), (26, 63, 5, 0, 3162, 3163, 3164, 1005, 3165), (27, 67, 5, 0, 2106, 2107, 2108, 1001, 2109), (28, 16, 2, 0, 1237, 1239, 3, 1002, 2000), (29, 18, 0, 0, 1233, 1234, 1235, 1002, 1236), (31, 71, 5, 0, 3232, 3233, 3234, 1005, 3235), (32, 72, 5, 0, 2124, 2125, 2126, 1001, 2127), (34, 17, 2, 2, 2001, 2002, 0, 1001, 2003), (35, 30, 0, 0, 2004, 2006, 4, 1003, 2007), (35, 73, 5, 0, 4008, 4009, 4010, 1005, 4011), (36, 76, 5, 0, 2129, 2130, 2131, 1001, 2132), (38, 18, 2, 0, 2016, 1234, 1235, 1002, 1236), (39, 31, 0, 0, 2054, 2055, 2056, 1002, 2057), (39, 78, 5, 0, 4012, 4013, 4014, 1005, 4015), (40, 86, 5, 0, 2141, 2142, 2143, 1001, 2144), (41, 19, 2, 2, 2017, 2018, 0, 1001, 2019), (43, 93, 5, 0, 4020, 4021, 4022, 1005, 4023), (44, 96, 5, 0, 2178, 2179, 2180, 1001, 2181), (47, 98, 5, 0, 4049, 4050, 4051, 1005, 4052), (48, 99, 5, 0, 2190, 2191, 2192, 1001, 2193), (51, 100, 5, 0, 4057, 4058, 4059, 1005, 4060), (52, 4, 3, 0, 1152, 1154, 0, 1001, 1155), (52, 102, 5, 0, 2194, 2195, 2196, 1001, 2197), (56, 6, 4, 0, 3066, 3068, 37, 1005, 3069), (56, 103, 5, 0, 4061, 4062, 4063, 1005, 4064), (57, 104, 5, 0, 2201, 2202, 2203, 1001, 2204), (59, 7, 4, 0, 3070, 3072, 38, 1005, 3073), (60, 105, 5, 0, 4065, 4066, 4067, 1005, 4068), (61, 106, 5, 0, 2205, 2206, 2207, 1001, 2208), (62, 32, 3, 0, 1221, 1222, 1223, 1003, 1224), (63, 19, 1, 2, 2062, 2018, 0, 1001, 2019), (64, 21, 0, 0, 2008, 2010, 5, 1003, 2011), (64, 107, 5, 0, 4069, 4070, 4071, 1005, 4072), (65, 108, 5, 0, 2209, 2210, 2211, 1001, 2212)]
def g_lk_1 : List (Nat × Nat × Nat × Nat × Nat × Nat × Nat × Nat × Nat) := [(66, 10, 4, 1, 3155, 3156, 0, 1005, 3157), (68, 24, 0, 0, 2020, 2022, 6, 1003, 2023), (68, 33, 1, 0, 2063, 2065, 12, 1004, 2066), (68, 109, 5, 0, 4073, 4074, 4075, 1005, 4076), (69, 43, 3, 0, 2058, 2059, 2060, 1004, 2061), (69, 111, 5, 0, 2213, 2214, 2215, 1001, 2216), (71, 25, 0, 0, 2031, 2033, 8, 1003, 2034), (72, 42, 1, 0, 2067, 2069, 13, 1004, 2070), (72, 112, 5, 0, 4077, 4078, 4079, 1005, 4080), (73, 115, 5, 0, 2221, 2222, 2223, 1001, 2224), (74, 27, 0, 0, 2035, 2037, 9, 1003, 2038), (76, 44, 3, 0, 2102, 2103, 2104, 1004, 2105), (76, 46, 4, 0, 3170, 3172, 40, 1005, 3173), (76, 118, 5, 0, 4081, 4082, 4083, 1005, 4084), (77, 28, 0, 0, 2046, 2048, 10, 1003, 2049), (77, 119, 5, 0, 2233, 2234, 2235, 1001, 2236), (80, 29, 0, 0, 2050, 2052, 11, 1003, 2053), (80, 64, 3, 0, 2110, 2112, 20, 1001, 2113), (80, 120, 5, 0, 4093, 4094, 4095, 1005, 4096), (81, 121, 5, 0, 2237, 2238, 2239, 1001, 3000), (83, 20, 0, 0, 2012, 2013, 2014, 1002, 2015), (83, 34, 1, 1, 2071, 2072, 0, 1007, 2073), (84, 122, 5, 0, 4097, 4098, 4099, 1005, 4100), (85, 127, 5, 0, 3001, 3002, 3003, 1001, 3004), (87, 22, 0, 0, 2024, 2026, 7, 1003, 2027), (88, 129, 5, 0, 4101, 4102, 4103, 1005, 4104), (89, 35, 1, 0, 2074, 2075, 2076, 1004, 2077), (89, 130, 5, 0, 3020, 3021, 3022, 1001, 3023), (91, 23, 0, 1, 2028, 2029, 0, 1003, 2030), (92, 48, 4, 0, 3174, 3176, 41, 1005, 3177), (92, 131, 5, 0, 4108, 4109, 4110, 1005, 4111), (93, 37, 1, 0, 2078, 2080, 14, 1004, 2081), (93, 132, 5, 0, 3024, 3025, 3026, 1001, 3027), (95, 26, 0, 1, 2039, 2040, 0, 1006, 2041), (96, 47, 4, 0, 3166, 3168, 39, 1005, 3169), (96, 133, 5, 0, 4112, 4113, 4114, 1005, 4115), (97, 38, 1, 0, 2086, 2088, 16, 1004, 2089), (97, 135, 5, 0, 3028, 3029, 3030, 1001, 3031), (98, 19, 3, 1, 2114, 2018, 0, 1001, 2019), (99, 52, 4, 1, 3198, 3199, 0, 1005, 3200), (100, 137, 5, 0, 4116, 4117, 4118, 1005, 4119), (101, 39, 1, 0, 2090, 2092, 17, 1004, 2093), (101, 139, 5, 0, 3036, 3037, 3038, 1001, 3039), (103, 50, 4, 0, 3182, 3184, 43, 1005, 3185), (104, 41, 1, 0, 2094, 2096, 18, 1004, 2097)]
def g_lk_2 : List (Nat × Nat × Nat × Nat × Nat × Nat × Nat × Nat × Nat) := [(104, 141, 5, 0, 4124, 4125, 4126, 1005, 4127), (105, 66, 3, 0, 2115, 2117, 21, 1001, 2118), (105, 143, 5, 0, 3045, 3046, 3047, 1001, 3048), (107, 51, 4, 0, 3190, 3192, 45, 1005, 3193), (108, 36, 1, 0, 2082, 2084, 15, 1004, 2085), (108, 144, 5, 0, 4131, 4132, 4133, 1005, 4134), (109, 17, 3, 1, 2128, 2002, 0, 1001, 2003), (109, 145, 5, 0, 3052, 3053, 3054, 1001, 3055), (111, 40, 1, 0, 2098, 2100, 19, 1004, 2101), (111, 53, 4, 1, 3201, 3202, 0, 1005, 3203), (112, 146, 5, 0, 4135, 4136, 4137, 1005, 4138), (113, 147, 5, 0, 3056, 3057, 3058, 1001, 3059), (114, 54, 4, 0, 3194, 3196, 46, 1005, 3197), (115, 44, 1, 0, 2123, 2103, 2104, 1004, 2105), (115, 74, 3, 0, 2133, 2135, 22, 1001, 2136), (116, 148, 5, 0, 4139, 4140, 4141, 1005, 4142), (118, 55, 4, 0, 3204, 3206, 47, 1005, 3207), (119, 75, 1, 0, 2153, 2138, 2139, 1004, 2140), (122, 57, 4, 0, 3212, 3214, 49, 1005, 3215), (124, 75, 3, 0, 2137, 2138, 2139, 1004, 2140), (125, 49, 4, 0, 3178, 3180, 42, 1005, 3181), (129, 56, 4, 0, 3186, 3188, 44, 1005, 3189), (132, 58, 4, 0, 3208, 3210, 48, 1005, 3211), (133, 79, 3, 0, 2145, 2147, 23, 1001, 2148), (135, 61, 4, 0, 3216, 3218, 50, 1005, 3219), (137, 80, 3, 0, 2149, 2150, 2151, 1004, 2152), (138, 62, 4, 0, 3228, 3230, 53, 1005, 3231), (140, 84, 3, 0, 2154, 2156, 24, 1001, 2157), (143, 85, 3, 0, 2174, 2176, 28, 1001, 2177), (149, 95, 3, 0, 2182, 2184, 29, 1001, 2185), (150, 59, 4, 0, 3220, 3222, 51, 1005, 3223), (152, 101, 3, 1, 2198, 2199, 0, 1001, 2200), (154, 60, 4, 0, 3224, 3226, 52, 1005, 3227), (155, 3, 3, 0, 1156, 1158, 1, 1001, 1159), (157, 69, 4, 0, 4004, 4006, 56, 1005, 4007), (160, 68, 4, 0, 3236, 3238, 54, 1005, 3239), (162, 110, 3, 0, 2217, 2219, 31, 1001, 2220), (163, 70, 4, 0, 4000, 4002, 55, 1005, 4003), (166, 35, 3, 0, 2158, 2075, 2076, 1004, 2077), (167, 77, 4, 0, 4016, 4018, 57, 1005, 4019), (169, 83, 3, 0, 2159, 2161, 25, 1001, 2162), (170, 87, 4, 0, 4024, 4026, 58, 1005, 4027), (173, 114, 3, 0, 2225, 2227, 32, 1001, 2228), (174, 88, 4, 0, 4028, 4030, 59, 1005, 4031), (176, 123, 3, 0, 3005, 3006, 3007, 1004, 3008)]
def g_lk_3 : List (Nat × Nat × Nat × Nat × Nat × Nat × Nat × Nat × Nat) := [(177, 92, 4, 0, 4032, 4034, 60, 1005, 4035), (179, 26, 3, 1, 3009, 2040, 0, 1006, 2041), (180, 97, 4, 0, 4053, 4055, 64, 1005, 4056), (183, 89, 4, 0, 4040, 4042, 62, 1005, 4043), (184, 124, 3, 1, 3010, 3011, 0, 1001, 3012), (186, 90, 4, 0, 4036, 4038, 61, 1005, 4039), (187, 125, 3, 0, 3013, 3015, 34, 1001, 3016), (190, 91, 4, 0, 4045, 4047, 63, 1005, 4048), (190, 126, 3, 1, 3017, 3018, 0, 1001, 3019), (193, 116, 4, 0, 4089, 4091, 66, 1005, 4092), (196, 117, 4, 0, 4085, 4087, 65, 1005, 4088), (196, 134, 3, 0, 3032, 3034, 35, 1001, 3035), (199, 128, 4, 1, 4105, 4106, 0, 1005, 4107), (199, 135, 3, 0, 3040, 3029, 3030, 1001, 3031), (202, 136, 4, 0, 4120, 4122, 67, 1005, 4123), (205, 138, 3, 0, 3041, 3043, 36, 1001, 3044), (205, 140, 4, 1, 4128, 4129, 0, 1005, 4130), (213, 142, 3, 1, 3049, 3050, 0, 1001, 3051), (216, 94, 3, 0, 2186, 2188, 30, 1001, 2189), (225, 65, 3, 0, 2119, 2120, 2121, 1004, 2122), (227, 82, 3, 0, 2163, 2165, 26, 1001, 2166), (230, 81, 3, 0, 2167, 2169, 27, 1001, 2170), (233, 113, 3, 0, 2229, 2231, 33, 1001, 2232)]
def g_lk : List (Nat × Nat × Nat × Nat × Nat × Nat × Nat × Nat × Nat) := g_lk_0 ++ g_lk_1 ++ g_lk_2 ++ g_lk_3
def g_cs : List (Nat × Int32 × Nat × Nat) := [(100, 67108863, 0, 2045), (189, 99999, 4, 4044), (265, 1431655765, 6, 2042), (266, 858993459, 6, 2043), (267, 252645135, 6, 2044)]
def g_nest : List (String × Nat × MethodName) := [("SwitchBook", 11, ⟨"SwitchBook$Text", "<init>", "()V"⟩), ("SwitchBook", 18, ⟨"SwitchBook$Draft", "<init>", "()V"⟩), ("SwitchBook", 25, ⟨"SwitchBook$Net", "<init>", "()V"⟩), ("SwitchBook$Text", 34, ⟨"SwitchBook", "isName", "(I)Z"⟩), ("SwitchBook$Text", 41, ⟨"SwitchBook", "bit", "(II)I"⟩), ("SwitchBook$Net", 63, ⟨"SwitchBook", "bit", "(II)I"⟩)]
/-- Object.<init>: index, own, place of the link -/
def g_ob : List (Nat × Nat × Nat) := [(1, 4, 3065), (3, 3, 1014), (3, 0, 1053), (3, 1, 1096), (3, 2, 1022)]
/-- Math.max: index, own, place of the link -/
def g_mx : List (Nat × Nat × Nat) := [(208, 3, 2171)]
def g_mxS : Nat := 2172
def g_mxC : Nat := 2173
def g_mxI : Nat := 1008
def g_obI : Nat := 1015
def g_obC : Nat := 1016
/-- new: index, class, own; places of link, instantiable, initialized -/
def g_nw : List (Nat × Nat × Nat × Nat × Nat × Nat) := [(10, 4, 5, 3060, 3061, 1005), (16, 0, 3, 1048, 1049, 1003), (23, 1, 3, 1091, 1092, 1004), (7, 3, 5, 1009, 1010, 1001), (9, 2, 3, 1017, 1018, 1002)]
def g_ai : Nat := 1047
def g_az : Nat := 3150
end
section
/-! A small machine of its own: places instead of addresses. The state: how many cells stand, what the reference fields hold, what the int fields and the arrays hold. -/
abbrev gLo : Type := List (Option Value)
abbrev gS : Type := Nat × (Nat → Nat → Option Nat) × (Nat → Nat → Int32)
abbrev gR : Type := Option Value × gS
abbrev gX : Type := Nat × (Nat → Int32)
def g_lg : gLo → Nat → Option Value
  | [], _ => none
  | a :: _, 0 => a
  | _ :: l, k + 1 => g_lg l k
def g_ls : gLo → Nat → Value → gLo
  | [], _, _ => []
  | _ :: l, 0, v => some v :: l
  | a :: l, k + 1, v => a :: g_ls l k v
def g_up (σ : Nat → Nat → Int32) (p k : Nat) (v : Int32) : Nat → Nat → Int32 := fun q => if q = p then upd (σ q) k v else σ q
def g_ur (ρ : Nat → Nat → Option Nat) (p k : Nat) (v : Option Nat) : Nat → Nat → Option Nat := fun q j => if q = p then (if j = k then v else ρ q j) else ρ q j
def g_tyf : Nat → Nat → FieldType := fun c => match c with
  | 0 => tyX0
  | 1 => tyX1
  | 2 => tyX2
  | 3 => tyX3
  | _ => tyX4
def g_isR (c k : Nat) : Bool := match g_tyf c k with
  | .int => false
  | _ => true
def g_av (ρ : Nat → Nat → Option Nat) (σ : Nat → Nat → Int32) (p c k : Nat) : Value := if g_isR c k then va_rf (ρ p k) else .int (σ p k)
def g_sz (p : Nat) : Nat := match g_shp p with
  | .inl q => q.2
  | .inr c => match c with
    | 0 => 9
    | 1 => 14
    | 2 => 6
    | 3 => 16
    | _ => 25
def g_slots : Nat → Nat
  | 0 => 0
  | n + 1 => g_slots n + g_sz n
def g_look : List (Nat × gI) → Nat → Option gI
  | [], _ => none
  | (q, i) :: l, p => if q = p then some i else g_look l p
def g_at (m pc : Nat) : Option gI := g_look (g_code m) pc
def g_pops : Nat → List Value → List Value → Option (List Value × List Value)
  | 0, st, acc => some (acc, st)
  | n + 1, v :: st, acc => g_pops n st (v :: acc)
  | _ + 1, [], _ => none
def g_l0 (m : Nat) (A : List Value) : gLo := A.map some ++ List.replicate ((g_meth m).2.2.2.1 - A.length) none
def g_push : Option Value → List Value → List Value
  | none, r => r
  | some v, r => v :: r
def g_isZ (m : Nat) : Bool := match (g_meth m).2.2.2.2.1 with
  | some .boolean => true
  | _ => false
def g_s1 (st : List Value) (f : Int32 → List Value → Prop) : Prop := match st with
  | .int a :: r => f a r
  | _ => False
def g_sr (st : List Value) (f : Nat → List Value → Prop) : Prop := match st with
  | .ref a :: r => f a r
  | _ => False
def g_s2 (st : List Value) (f : Int32 → Int32 → List Value → Prop) : Prop := g_s1 st fun b r => g_s1 r fun a r => f a b r
def g_li (L : gLo) (k : Nat) (f : Int32 → Prop) : Prop := match g_lg L k with
  | some (.int a) => f a
  | _ => False
def g_lr (L : gLo) (k : Nat) (f : Nat → Prop) : Prop := match g_lg L k with
  | some (.ref a) => f a
  | _ => False
/-- an array's place is read -/
def g_ald (X : gX) (z : Bool) (g : gS) (p : Nat) (i : Int32) (f : Int32 → Prop) : Prop :=
  if p = 1000 then z = false ∧ vp_in i X.1 ∧ f (X.2 i.toNatClampNeg) else
  match g_shp p with
  | .inl q => q.1 = z ∧ p < g.1 ∧ vp_in i q.2 ∧ f (g.2.2 p i.toNatClampNeg)
  | .inr _ => False
def g_ast (z : Bool) (g : gS) (p : Nat) (i : Int32) (v : Int32) (f : gS → Prop) : Prop :=
  match g_shp p with
  | .inl q => q.1 = z ∧ p < g.1 ∧ vp_in i q.2 ∧ f (g.1, g.2.1, g_up g.2.2 p i.toNatClampNeg v)
  | .inr _ => False
def g_obj (g : gS) (p c : Nat) (P : Prop) : Prop := match g_shp p with
  | .inl _ => False
  | .inr d => d = c ∧ p < g.1 ∧ P
def g_tgt (pc : Nat) (d lo hi : Int) (offs : Array Int) (v : Int32) : Nat :=
  if v.toInt < lo ∨ hi < v.toInt then ((pc : Int) + d).toNat else ((pc : Int) + offs.getD (v.toInt - lo).toNat 0).toNat
abbrev gK : Type := Nat → Nat → gLo → List Value → gS → gR → Prop
def g_call (K : gK) (m pc y : Nat) (A : List Value) (L : gLo) (r : List Value) (g : gS) (rr : gR) : Prop :=
  (r.map fun v => v.category).sum ≤ 8 ∧ (A.length ≤ (g_meth y).2.2.2.1 ∧ (A.all fun v => v.category == 1) = true) ∧ ∃ (v : Option Value) (g1 : gS), K y 0 (g_l0 y A) [] g (v, g1) ∧ K m (pc + 3) L (g_push v r) g1 rr
def g_ic (c : ClassFile.Cond) (a b : Int32) : Prop := match c with
  | .eq => a = b
  | .ne => ¬ a = b
  | .lt => a < b
  | .ge => b ≤ a
  | .gt => b < a
  | .le => a ≤ b
def g_do (X : gX) (K : gK) (m pc : Nat) (i : gI) (L : gLo) (st : List Value) (g : gS) (rr : gR) : Prop :=
  match i.1 with
  | .iconst _ => K m (pc + 1) L (.int i.2.2.2 :: st) g rr
  | .bipush _ => K m (pc + 2) L (.int i.2.2.2 :: st) g rr
  | .sipush _ => K m (pc + 3) L (.int i.2.2.2 :: st) g rr
  | .ldc _ => K m (pc + 2) L (.int i.2.2.2 :: st) g rr
  | .ldc_w _ => K m (pc + 3) L (.int i.2.2.2 :: st) g rr
  | .iload k => g_li L k fun a => K m (pc + 2) L (.int a :: st) g rr
  | .iload_n k => g_li L k.val fun a => K m (pc + 1) L (.int a :: st) g rr
  | .aload k => g_lr L k fun a => K m (pc + 2) L (.ref a :: st) g rr
  | .aload_n k => g_lr L k.val fun a => K m (pc + 1) L (.ref a :: st) g rr
  | .istore k => g_s1 st fun a r => k < L.length ∧ K m (pc + 2) (g_ls L k (.int a)) r g rr
  | .istore_n k => g_s1 st fun a r => k.val < L.length ∧ K m (pc + 1) (g_ls L k.val (.int a)) r g rr
  | .astore k => g_sr st fun a r => k < L.length ∧ K m (pc + 2) (g_ls L k (.ref a)) r g rr
  | .astore_n k => g_sr st fun a r => k.val < L.length ∧ K m (pc + 1) (g_ls L k.val (.ref a)) r g rr
  | .iinc k _ => g_li L k fun a => k < L.length ∧ K m (pc + 3) (g_ls L k (.int (a + i.2.2.2))) st g rr
  | .iadd => g_s2 st fun a b r => K m (pc + 1) L (.int (a + b) :: r) g rr
  | .isub => g_s2 st fun a b r => K m (pc + 1) L (.int (a - b) :: r) g rr
  | .imul => g_s2 st fun a b r => K m (pc + 1) L (.int (a * b) :: r) g rr
  | .iand => g_s2 st fun a b r => K m (pc + 1) L (.int (a &&& b) :: r) g rr
  | .ior => g_s2 st fun a b r => K m (pc + 1) L (.int (a ||| b) :: r) g rr
  | .ixor => g_s2 st fun a b r => K m (pc + 1) L (.int (a ^^^ b) :: r) g rr
  | .ishl => g_s2 st fun a b r => K m (pc + 1) L (.int (a <<< (b &&& 31)) :: r) g rr
  | .ishr => g_s2 st fun a b r => K m (pc + 1) L (.int (a >>> (b &&& 31)) :: r) g rr
  | .iushr => g_s2 st fun a b r => K m (pc + 1) L (.int (a.toUInt32 >>> (b.toUInt32 &&& Int32.toUInt32 31)).toInt32 :: r) g rr
  | .idiv => g_s2 st fun a b r => ¬ b = 0 ∧ K m (pc + 1) L (.int (a / b) :: r) g rr
  | .irem => g_s2 st fun a b r => ¬ b = 0 ∧ K m (pc + 1) L (.int (a - a / b * b) :: r) g rr
  | .dup => match st with
    | v :: r => v.category = 1 ∧ K m (pc + 1) L (v :: v :: r) g rr
    | _ => False
  | .pop => match st with
    | v :: r => v.category = 1 ∧ K m (pc + 1) L r g rr
    | _ => False
  | .dup2 => match st with
    | v :: w :: r => v.category = 1 ∧ w.category = 1 ∧ K m (pc + 1) L (v :: w :: v :: w :: r) g rr
    | _ => False
  | .goto _ => K m i.2.1 L st g rr
  | .if_icmp c _ => g_s2 st fun a b r => (g_ic c a b → K m i.2.1 L r g rr) ∧ (¬ g_ic c a b → K m (pc + 3) L r g rr)
  | .ifCond c _ => g_s1 st fun a r => (g_ic c a 0 → K m i.2.1 L r g rr) ∧ (¬ g_ic c a 0 → K m (pc + 3) L r g rr)
  | .tableswitch d lo hi offs => g_s1 st fun a r => K m (g_tgt pc d lo hi offs a) L r g rr
  | .getfield _ => g_sr st fun p r => g_obj g p i.2.1 (K m (pc + 3) L (g_av g.2.1 g.2.2 p i.2.1 i.2.2.1 :: r) g rr)
  | .putfield _ => match st with
    | .int v :: r => g_sr r fun p r => g_obj g p i.2.1 (g_isR i.2.1 i.2.2.1 = false ∧ K m (pc + 3) L r (g.1, g.2.1, g_up g.2.2 p i.2.2.1 v) rr)
    | .ref q :: r => g_sr r fun p r => g_obj g p i.2.1 (g_isR i.2.1 i.2.2.1 = true ∧ q < 1000 ∧ K m (pc + 3) L r (g.1, g_ur g.2.1 p i.2.2.1 (some q), g.2.2) rr)
    | _ => False
  | .iaload => g_s1 st fun j r => g_sr r fun p r => g_ald X false g p j fun v => K m (pc + 1) L (.int v :: r) g rr
  | .baload => g_s1 st fun j r => g_sr r fun p r => g_ald X true g p j fun v => K m (pc + 1) L (.int v :: r) g rr
  | .iastore => g_s1 st fun v r => g_s1 r fun j r => g_sr r fun p r => g_ast false g p j v fun g1 => K m (pc + 1) L r g1 rr
  | .bastore => g_s1 st fun v r => g_s1 r fun j r => g_sr r fun p r => g_ast true g p j (v &&& 1) fun g1 => K m (pc + 1) L r g1 rr
  | .arraylength => g_sr st fun p r => if p = 1000 then K m (pc + 1) L (.int (Int32.ofNat X.1) :: r) g rr else
      match g_shp p with
      | .inl q => p < g.1 ∧ K m (pc + 1) L (.int (Int32.ofNat q.2) :: r) g rr
      | .inr _ => False
  | .new _ => g_shp g.1 = .inr i.2.1 ∧ g.1 < 47 ∧ (g.2.1 g.1 = fun _ => none) ∧ (g.2.2 g.1 = fun _ => 0) ∧ K m (pc + 3) L (.ref g.1 :: st) (g.1 + 1, g.2.1, g.2.2) rr
  | .newarray t => g_s1 st fun v r => (t = .int ∨ t = .boolean) ∧ g_shp g.1 = .inl (decide (t = .boolean), v.toNatClampNeg) ∧ ¬ v < 0 ∧ v.toNatClampNeg ≤ 2048 ∧ g.1 < 47 ∧ (g.2.2 g.1 = fun _ => 0) ∧ K m (pc + 2) L (.ref g.1 :: r) (g.1 + 1, g.2.1, g.2.2) rr
  | .invokestatic _ => if i.2.1 = 998 then (g_s2 st fun a b r => (r.map fun v => v.category).sum ≤ 8 ∧ K m (pc + 3) L (.int (if a < b then b else a) :: r) g rr) else (match g_pops i.2.2.1 st [] with
    | some (A, r) => g_call K m pc i.2.1 A L r g rr
    | none => False)
  | .invokevirtual _ => match g_pops (i.2.2.1 + 1) st [] with
    | some (.ref p :: A, r) => g_obj g p (g_meth i.2.1).1 (g_call K m pc i.2.1 (.ref p :: A) L r g rr)
    | _ => False
  | .invokespecial _ => if i.2.1 = 999 then (match st with
      | [.ref _] => K m (pc + 3) L [] g rr
      | _ => False) else (match g_pops (i.2.2.1 + 1) st [] with
      | some (.ref p :: A, r) => g_call K m pc i.2.1 (.ref p :: A) L r g rr
      | _ => False)
  | .ireturn => match st with
    | [.int v] => (g_isZ m = true → v &&& 1 = v) ∧ rr = (some (.int v), g)
    | _ => False
  | .return_ => st = [] ∧ rr = (none, g)
  | _ => False
def EvN (X : gX) : Nat → gK
  | 0 => fun _ _ _ _ _ _ => False
  | n + 1 => fun m pc L st g rr => ∃ i, g_at m pc = some i ∧ g_do X (EvN X n) m pc i L st g rr
/-- from here the method answers so -/
def Ev (X : gX) (m pc : Nat) (L : gLo) (st : List Value) (g : gS) (rr : gR) : Prop := ∃ n, EvN X n m pc L st g rr
/-- the method, called so -/
def Cl (X : gX) (y : Nat) (A : List Value) (g : gS) (v : Option Value) (g1 : gS) : Prop := (A.length ≤ (g_meth y).2.2.2.1 ∧ (A.all fun v => v.category == 1) = true) ∧ Ev X y 0 (g_l0 y A) [] g (v, g1)
theorem g_s1_mono {st : List Value} {f f' : Int32 → List Value → Prop} (h : ∀ a r, f a r → f' a r) (k : g_s1 st f) : g_s1 st f' := by
  unfold g_s1 at *
  split at k
  · exact h _ _ k
  · exact k.elim
theorem g_sr_mono {st : List Value} {f f' : Nat → List Value → Prop} (h : ∀ a r, f a r → f' a r) (k : g_sr st f) : g_sr st f' := by
  unfold g_sr at *
  split at k
  · exact h _ _ k
  · exact k.elim
theorem g_s2_mono {st : List Value} {f f' : Int32 → Int32 → List Value → Prop} (h : ∀ a b r, f a b r → f' a b r) (k : g_s2 st f) : g_s2 st f' := g_s1_mono (fun _ _ k => g_s1_mono (fun _ _ k => h _ _ _ k) k) k
theorem g_li_mono {L : gLo} {k : Nat} {f f' : Int32 → Prop} (h : ∀ a, f a → f' a) (q : g_li L k f) : g_li L k f' := by
  unfold g_li at *
  split at q
  · exact h _ q
  · exact q.elim
theorem g_lr_mono {L : gLo} {k : Nat} {f f' : Nat → Prop} (h : ∀ a, f a → f' a) (q : g_lr L k f) : g_lr L k f' := by
  unfold g_lr at *
  split at q
  · exact h _ q
  · exact q.elim
theorem g_ald_mono {X : gX} {z : Bool} {g : gS} {p : Nat} {i : Int32} {f f' : Int32 → Prop} (h : ∀ a, f a → f' a) (q : g_ald X z g p i f) : g_ald X z g p i f' := by
  unfold g_ald at *
  split at q
  · rw [if_pos (by assumption)]
    exact ⟨q.1, q.2.1, h _ q.2.2⟩
  · rw [if_neg (by assumption)]
    split at q
    · exact ⟨q.1, q.2.1, q.2.2.1, h _ q.2.2.2⟩
    · exact q.elim
theorem g_ast_mono {z : Bool} {g : gS} {p : Nat} {i v : Int32} {f f' : gS → Prop} (h : ∀ a, f a → f' a) (q : g_ast z g p i v f) : g_ast z g p i v f' := by
  unfold g_ast at *
  split at q
  · exact ⟨q.1, q.2.1, q.2.2.1, h _ q.2.2.2⟩
  · exact q.elim
theorem g_obj_mono {g : gS} {p c : Nat} {P P' : Prop} (h : P → P') (q : g_obj g p c P) : g_obj g p c P' := by
  unfold g_obj at *
  split at q
  · exact q.elim
  · exact ⟨q.1, q.2.1, h q.2.2⟩
theorem g_call_mono {K K' : gK} (h : ∀ m pc L st g rr, K m pc L st g rr → K' m pc L st g rr) {m pc y : Nat} {A : List Value} {L : gLo} {r : List Value} {g : gS} {rr : gR} (q : g_call K m pc y A L r g rr) : g_call K' m pc y A L r g rr := by
  obtain ⟨h1, h2, v, g1, h3, h4⟩ := q
  exact ⟨h1, h2, v, g1, h _ _ _ _ _ _ h3, h _ _ _ _ _ _ h4⟩
set_option maxHeartbeats 4000000 in
theorem g_do_mono {X : gX} {K K' : gK} (h : ∀ m pc L st g rr, K m pc L st g rr → K' m pc L st g rr) {m pc : Nat} {i : gI} {L : gLo} {st : List Value} {g : gS} {rr : gR} (q : g_do X K m pc i L st g rr) : g_do X K' m pc i L st g rr := by
  obtain ⟨ins, a, b, z⟩ := i
  cases ins
  case iconst => exact h _ _ _ _ _ _ q
  case bipush => exact h _ _ _ _ _ _ q
  case sipush => exact h _ _ _ _ _ _ q
  case ldc => exact h _ _ _ _ _ _ q
  case ldc_w => exact h _ _ _ _ _ _ q
  case iload => exact g_li_mono (fun _ => h _ _ _ _ _ _) q
  case iload_n => exact g_li_mono (fun _ => h _ _ _ _ _ _) q
  case aload => exact g_lr_mono (fun _ => h _ _ _ _ _ _) q
  case aload_n => exact g_lr_mono (fun _ => h _ _ _ _ _ _) q
  case istore => exact g_s1_mono (fun _ _ k => ⟨k.1, h _ _ _ _ _ _ k.2⟩) q
  case istore_n => exact g_s1_mono (fun _ _ k => ⟨k.1, h _ _ _ _ _ _ k.2⟩) q
  case astore => exact g_sr_mono (fun _ _ k => ⟨k.1, h _ _ _ _ _ _ k.2⟩) q
  case astore_n => exact g_sr_mono (fun _ _ k => ⟨k.1, h _ _ _ _ _ _ k.2⟩) q
  case iinc => exact g_li_mono (fun _ k => ⟨k.1, h _ _ _ _ _ _ k.2⟩) q
  case iadd => exact g_s2_mono (fun _ _ _ => h _ _ _ _ _ _) q
  case isub => exact g_s2_mono (fun _ _ _ => h _ _ _ _ _ _) q
  case imul => exact g_s2_mono (fun _ _ _ => h _ _ _ _ _ _) q
  case iand => exact g_s2_mono (fun _ _ _ => h _ _ _ _ _ _) q
  case ior => exact g_s2_mono (fun _ _ _ => h _ _ _ _ _ _) q
  case ixor => exact g_s2_mono (fun _ _ _ => h _ _ _ _ _ _) q
  case ishl => exact g_s2_mono (fun _ _ _ => h _ _ _ _ _ _) q
  case ishr => exact g_s2_mono (fun _ _ _ => h _ _ _ _ _ _) q
  case iushr => exact g_s2_mono (fun _ _ _ => h _ _ _ _ _ _) q
  case idiv => exact g_s2_mono (fun _ _ _ k => ⟨k.1, h _ _ _ _ _ _ k.2⟩) q
  case irem => exact g_s2_mono (fun _ _ _ k => ⟨k.1, h _ _ _ _ _ _ k.2⟩) q
  case dup =>
    match st, q with
    | v :: r, q => exact ⟨q.1, h _ _ _ _ _ _ q.2⟩
  case pop =>
    match st, q with
    | v :: r, q => exact ⟨q.1, h _ _ _ _ _ _ q.2⟩
  case dup2 =>
    match st, q with
    | v :: w :: r, q => exact ⟨q.1, q.2.1, h _ _ _ _ _ _ q.2.2⟩
  case goto => exact h _ _ _ _ _ _ q
  case if_icmp => exact g_s2_mono (fun _ _ _ k => ⟨fun c => h _ _ _ _ _ _ (k.1 c), fun c => h _ _ _ _ _ _ (k.2 c)⟩) q
  case ifCond => exact g_s1_mono (fun _ _ k => ⟨fun c => h _ _ _ _ _ _ (k.1 c), fun c => h _ _ _ _ _ _ (k.2 c)⟩) q
  case tableswitch => exact g_s1_mono (fun _ _ => h _ _ _ _ _ _) q
  case getfield => exact g_sr_mono (fun _ _ => g_obj_mono (h _ _ _ _ _ _)) q
  case putfield =>
    match st, q with
    | .int v :: r, q => exact g_sr_mono (fun _ _ => g_obj_mono (fun k => ⟨k.1, h _ _ _ _ _ _ k.2⟩)) q
    | .ref v :: r, q => exact g_sr_mono (fun _ _ => g_obj_mono (fun k => ⟨k.1, k.2.1, h _ _ _ _ _ _ k.2.2⟩)) q
  case iaload => exact g_s1_mono (fun _ _ => g_sr_mono (fun _ _ => g_ald_mono (fun _ => h _ _ _ _ _ _))) q
  case baload => exact g_s1_mono (fun _ _ => g_sr_mono (fun _ _ => g_ald_mono (fun _ => h _ _ _ _ _ _))) q
  case iastore => exact g_s1_mono (fun _ _ => g_s1_mono (fun _ _ => g_sr_mono (fun _ _ => g_ast_mono (fun _ => h _ _ _ _ _ _)))) q
  case bastore => exact g_s1_mono (fun _ _ => g_s1_mono (fun _ _ => g_sr_mono (fun _ _ => g_ast_mono (fun _ => h _ _ _ _ _ _)))) q
  case arraylength =>
    refine g_sr_mono (fun p r k => ?_) q
    by_cases hp : p = 1000
    · rw [if_pos hp] at k ⊢
      exact h _ _ _ _ _ _ k
    · rw [if_neg hp] at k ⊢
      split at k
      · exact ⟨k.1, h _ _ _ _ _ _ k.2⟩
      · exact k.elim
  case new => exact ⟨q.1, q.2.1, q.2.2.1, q.2.2.2.1, h _ _ _ _ _ _ q.2.2.2.2⟩
  case newarray => exact g_s1_mono (fun _ _ k => ⟨k.1, k.2.1, k.2.2.1, k.2.2.2.1, k.2.2.2.2.1, k.2.2.2.2.2.1, h _ _ _ _ _ _ k.2.2.2.2.2.2⟩) q
  case invokestatic =>
    simp only [g_do] at q ⊢
    split at q
    · rw [if_pos (by assumption)]
      exact g_s2_mono (fun _ _ _ k => ⟨k.1, h _ _ _ _ _ _ k.2⟩) q
    · rw [if_neg (by assumption)]
      split at q
      · exact g_call_mono h q
      · exact q.elim
  case invokevirtual =>
    simp only [g_do] at q ⊢
    split at q
    · exact g_obj_mono (g_call_mono h) q
    · exact q.elim
  case invokespecial =>
    simp only [g_do] at q ⊢
    split at q
    · rw [if_pos (by assumption)]
      split at q
      · exact h _ _ _ _ _ _ q
      · exact q.elim
    · rw [if_neg (by assumption)]
      split at q
      · exact g_call_mono h q
      · exact q.elim
  case ireturn => exact q
  case return_ => exact q
  all_goals exact q
theorem EvN_succ {X : gX} : ∀ (n : Nat) {m pc : Nat} {L : gLo} {st : List Value} {g : gS} {rr : gR}, EvN X n m pc L st g rr → EvN X (n + 1) m pc L st g rr
  | 0, _, _, _, _, _, _, h => h.elim
  | n + 1, _, _, _, _, _, _, h => by
    obtain ⟨i, h1, h2⟩ := h
    exact ⟨i, h1, g_do_mono (fun _ _ _ _ _ _ k => EvN_succ n k) h2⟩
theorem EvN_le {X : gX} {n k : Nat} (hk : n ≤ k) {m pc : Nat} {L : gLo} {st : List Value} {g : gS} {rr : gR} (h : EvN X n m pc L st g rr) : EvN X k m pc L st g rr := by
  induction hk with
  | refl => exact h
  | step _ ih => exact EvN_succ _ ih
theorem Ev_max {X : gX} {m pc m' pc' : Nat} {L L' : gLo} {st st' : List Value} {g g' : gS} {rr rr' : gR} (h : Ev X m pc L st g rr) (h' : Ev X m' pc' L' st' g' rr') : ∃ n, EvN X n m pc L st g rr ∧ EvN X n m' pc' L' st' g' rr' := by
  obtain ⟨a, ha⟩ := h
  obtain ⟨b, hb⟩ := h'
  exact ⟨max a b, EvN_le (Nat.le_max_left _ _) ha, EvN_le (Nat.le_max_right _ _) hb⟩
theorem g_call_ev {X : gX} {m pc y : Nat} {A : List Value} {L : gLo} {r : List Value} {g : gS} {rr : gR} (q : g_call (Ev X) m pc y A L r g rr) : ∃ n, g_call (EvN X n) m pc y A L r g rr := by
  obtain ⟨h1, h2, v, g1, h3, h4⟩ := q
  obtain ⟨n, h5, h6⟩ := Ev_max h3 h4
  exact ⟨n, h1, h2, v, g1, h5, h6⟩
theorem g_br_ev {X : gX} {c : Prop} {m pc m' pc' : Nat} {L L' : gLo} {st st' : List Value} {g g' : gS} {rr rr' : gR} (q : (c → Ev X m pc L st g rr) ∧ (¬ c → Ev X m' pc' L' st' g' rr')) : ∃ n, (c → EvN X n m pc L st g rr) ∧ (¬ c → EvN X n m' pc' L' st' g' rr') := by
  by_cases hc : c
  · obtain ⟨n, h⟩ := q.1 hc
    exact ⟨n, fun _ => h, fun k => absurd hc k⟩
  · obtain ⟨n, h⟩ := q.2 hc
    exact ⟨n, fun k => absurd k hc, fun _ => h⟩
theorem g_s1_ex {st : List Value} {f : Nat → Int32 → List Value → Prop} {f' : Int32 → List Value → Prop} (h : ∀ a r, f' a r → ∃ n, f n a r) (k : g_s1 st f') : ∃ n, g_s1 st (f n) := by
  unfold g_s1 at *
  split at k
  · exact h _ _ k
  · exact k.elim
theorem g_sr_ex {st : List Value} {f : Nat → Nat → List Value → Prop} {f' : Nat → List Value → Prop} (h : ∀ a r, f' a r → ∃ n, f n a r) (k : g_sr st f') : ∃ n, g_sr st (f n) := by
  unfold g_sr at *
  split at k
  · exact h _ _ k
  · exact k.elim
theorem g_li_ex {L : gLo} {k : Nat} {f : Nat → Int32 → Prop} {f' : Int32 → Prop} (h : ∀ a, f' a → ∃ n, f n a) (q : g_li L k f') : ∃ n, g_li L k (f n) := by
  unfold g_li at *
  split at q
  · exact h _ q
  · exact q.elim
theorem g_lr_ex {L : gLo} {k : Nat} {f : Nat → Nat → Prop} {f' : Nat → Prop} (h : ∀ a, f' a → ∃ n, f n a) (q : g_lr L k f') : ∃ n, g_lr L k (f n) := by
  unfold g_lr at *
  split at q
  · exact h _ q
  · exact q.elim
theorem g_s2_ex {st : List Value} {f : Nat → Int32 → Int32 → List Value → Prop} {f' : Int32 → Int32 → List Value → Prop} (h : ∀ a b r, f' a b r → ∃ n, f n a b r) (k : g_s2 st f') : ∃ n, g_s2 st (f n) :=
  g_s1_ex (f := fun n b r => g_s1 r fun a r => f n a b r) (fun _ _ k => g_s1_ex (fun _ _ k => h _ _ _ k) k) k
theorem g_ald_ex {X : gX} {z : Bool} {g : gS} {p : Nat} {i : Int32} {f : Nat → Int32 → Prop} {f' : Int32 → Prop} (h : ∀ a, f' a → ∃ n, f n a) (q : g_ald X z g p i f') : ∃ n, g_ald X z g p i (f n) := by
  unfold g_ald at *
  split at q
  · obtain ⟨n, k⟩ := h _ q.2.2
    exact ⟨n, by rw [if_pos (by assumption)]; exact ⟨q.1, q.2.1, k⟩⟩
  · split at q
    · obtain ⟨n, k⟩ := h _ q.2.2.2
      exact ⟨n, by rw [if_neg (by assumption)]; exact ⟨q.1, q.2.1, q.2.2.1, k⟩⟩
    · exact q.elim
theorem g_ast_ex {z : Bool} {g : gS} {p : Nat} {i v : Int32} {f : Nat → gS → Prop} {f' : gS → Prop} (h : ∀ a, f' a → ∃ n, f n a) (q : g_ast z g p i v f') : ∃ n, g_ast z g p i v (f n) := by
  unfold g_ast at *
  split at q
  · obtain ⟨n, k⟩ := h _ q.2.2.2
    exact ⟨n, q.1, q.2.1, q.2.2.1, k⟩
  · exact q.elim
theorem g_obj_ex {g : gS} {p c : Nat} {P : Nat → Prop} {P' : Prop} (h : P' → ∃ n, P n) (q : g_obj g p c P') : ∃ n, g_obj g p c (P n) := by
  unfold g_obj at *
  split at q
  · exact q.elim
  · obtain ⟨n, k⟩ := h q.2.2
    exact ⟨n, q.1, q.2.1, k⟩
set_option maxHeartbeats 4000000 in
theorem g_do_ev {X : gX} {m pc : Nat} {i : gI} {L : gLo} {st : List Value} {g : gS} {rr : gR} (q : g_do X (Ev X) m pc i L st g rr) : ∃ n, g_do X (EvN X n) m pc i L st g rr := by
  obtain ⟨ins, a, b, z⟩ := i
  cases ins
  case iload => exact g_li_ex (f := fun n a => EvN X n m (pc + 2) L (.int a :: st) g rr) (fun _ k => k) q
  case iload_n => exact g_li_ex (f := fun n a => EvN X n m (pc + 1) L (.int a :: st) g rr) (fun _ k => k) q
  case aload => exact g_lr_ex (f := fun n a => EvN X n m (pc + 2) L (.ref a :: st) g rr) (fun _ k => k) q
  case aload_n => exact g_lr_ex (f := fun n a => EvN X n m (pc + 1) L (.ref a :: st) g rr) (fun _ k => k) q
  case istore k => exact g_s1_ex (f := fun n a r => k < L.length ∧ EvN X n m (pc + 2) (g_ls L k (.int a)) r g rr) (fun _ _ ⟨k1, n, k2⟩ => ⟨n, k1, k2⟩) q
  case istore_n k => exact g_s1_ex (f := fun n a r => k.val < L.length ∧ EvN X n m (pc + 1) (g_ls L k.val (.int a)) r g rr) (fun _ _ ⟨k1, n, k2⟩ => ⟨n, k1, k2⟩) q
  case astore k => exact g_sr_ex (f := fun n a r => k < L.length ∧ EvN X n m (pc + 2) (g_ls L k (.ref a)) r g rr) (fun _ _ ⟨k1, n, k2⟩ => ⟨n, k1, k2⟩) q
  case astore_n k => exact g_sr_ex (f := fun n a r => k.val < L.length ∧ EvN X n m (pc + 1) (g_ls L k.val (.ref a)) r g rr) (fun _ _ ⟨k1, n, k2⟩ => ⟨n, k1, k2⟩) q
  case iinc k _ => exact g_li_ex (f := fun n a => k < L.length ∧ EvN X n m (pc + 3) (g_ls L k (.int (a + z))) st g rr) (fun _ ⟨k1, n, k2⟩ => ⟨n, k1, k2⟩) q
  case iadd => exact g_s2_ex (f := fun n a b r => EvN X n m (pc + 1) L (.int (a + b) :: r) g rr) (fun _ _ _ k => k) q
  case isub => exact g_s2_ex (f := fun n a b r => EvN X n m (pc + 1) L (.int (a - b) :: r) g rr) (fun _ _ _ k => k) q
  case imul => exact g_s2_ex (f := fun n a b r => EvN X n m (pc + 1) L (.int (a * b) :: r) g rr) (fun _ _ _ k => k) q
  case iand => exact g_s2_ex (f := fun n a b r => EvN X n m (pc + 1) L (.int (a &&& b) :: r) g rr) (fun _ _ _ k => k) q
  case ior => exact g_s2_ex (f := fun n a b r => EvN X n m (pc + 1) L (.int (a ||| b) :: r) g rr) (fun _ _ _ k => k) q
  case ixor => exact g_s2_ex (f := fun n a b r => EvN X n m (pc + 1) L (.int (a ^^^ b) :: r) g rr) (fun _ _ _ k => k) q
  case ishl => exact g_s2_ex (f := fun n a b r => EvN X n m (pc + 1) L (.int (a <<< (b &&& 31)) :: r) g rr) (fun _ _ _ k => k) q
  case ishr => exact g_s2_ex (f := fun n a b r => EvN X n m (pc + 1) L (.int (a >>> (b &&& 31)) :: r) g rr) (fun _ _ _ k => k) q
  case iushr => exact g_s2_ex (f := fun n a b r => EvN X n m (pc + 1) L (.int (a.toUInt32 >>> (b.toUInt32 &&& Int32.toUInt32 31)).toInt32 :: r) g rr) (fun _ _ _ k => k) q
  case idiv => exact g_s2_ex (f := fun n a b r => ¬ b = 0 ∧ EvN X n m (pc + 1) L (.int (a / b) :: r) g rr) (fun _ _ _ ⟨k1, n, k2⟩ => ⟨n, k1, k2⟩) q
  case irem => exact g_s2_ex (f := fun n a b r => ¬ b = 0 ∧ EvN X n m (pc + 1) L (.int (a - a / b * b) :: r) g rr) (fun _ _ _ ⟨k1, n, k2⟩ => ⟨n, k1, k2⟩) q
  case dup =>
    match st, q with
    | v :: r, ⟨k1, n, k2⟩ => exact ⟨n, k1, k2⟩
  case pop =>
    match st, q with
    | v :: r, ⟨k1, n, k2⟩ => exact ⟨n, k1, k2⟩
  case dup2 =>
    match st, q with
    | v :: w :: r, ⟨k1, k2, n, k3⟩ => exact ⟨n, k1, k2, k3⟩
  case if_icmp c _ => exact g_s2_ex (f := fun n x y r => (g_ic c x y → EvN X n m a L r g rr) ∧ (¬ g_ic c x y → EvN X n m (pc + 3) L r g rr)) (fun _ _ _ k => g_br_ev k) q
  case ifCond c _ => exact g_s1_ex (f := fun n x r => (g_ic c x 0 → EvN X n m a L r g rr) ∧ (¬ g_ic c x 0 → EvN X n m (pc + 3) L r g rr)) (fun _ _ k => g_br_ev k) q
  case tableswitch d lo hi offs => exact g_s1_ex (f := fun n x r => EvN X n m (g_tgt pc d lo hi offs x) L r g rr) (fun _ _ k => k) q
  case getfield => exact g_sr_ex (f := fun n p r => g_obj g p a (EvN X n m (pc + 3) L (g_av g.2.1 g.2.2 p a b :: r) g rr)) (fun _ _ k => g_obj_ex (fun k => k) k) q
  case putfield =>
    match st, q with
    | .int v :: r, q => exact g_sr_ex (f := fun n p r => g_obj g p a (g_isR a b = false ∧ EvN X n m (pc + 3) L r (g.1, g.2.1, g_up g.2.2 p b v) rr)) (fun _ _ k => g_obj_ex (fun ⟨k1, n, k2⟩ => ⟨n, k1, k2⟩) k) q
    | .ref v :: r, q => exact g_sr_ex (f := fun n p r => g_obj g p a (g_isR a b = true ∧ v < 1000 ∧ EvN X n m (pc + 3) L r (g.1, g_ur g.2.1 p b (some v), g.2.2) rr)) (fun _ _ k => g_obj_ex (fun ⟨k1, k3, n, k2⟩ => ⟨n, k1, k3, k2⟩) k) q
  case iaload => exact g_s1_ex (f := fun n j r => g_sr r fun p r => g_ald X false g p j fun v => EvN X n m (pc + 1) L (.int v :: r) g rr) (fun j _ k => g_sr_ex (f := fun n p r => g_ald X false g p j fun v => EvN X n m (pc + 1) L (.int v :: r) g rr) (fun _ r k => g_ald_ex (f := fun n v => EvN X n m (pc + 1) L (.int v :: r) g rr) (fun _ k => k) k) k) q
  case baload => exact g_s1_ex (f := fun n j r => g_sr r fun p r => g_ald X true g p j fun v => EvN X n m (pc + 1) L (.int v :: r) g rr) (fun j _ k => g_sr_ex (f := fun n p r => g_ald X true g p j fun v => EvN X n m (pc + 1) L (.int v :: r) g rr) (fun _ r k => g_ald_ex (f := fun n v => EvN X n m (pc + 1) L (.int v :: r) g rr) (fun _ k => k) k) k) q
  case iastore => exact g_s1_ex (f := fun n v r => g_s1 r fun j r => g_sr r fun p r => g_ast false g p j v fun g1 => EvN X n m (pc + 1) L r g1 rr) (fun v _ k => g_s1_ex (f := fun n j r => g_sr r fun p r => g_ast false g p j v fun g1 => EvN X n m (pc + 1) L r g1 rr) (fun j _ k => g_sr_ex (f := fun n p r => g_ast false g p j v fun g1 => EvN X n m (pc + 1) L r g1 rr) (fun _ r k => g_ast_ex (f := fun n g1 => EvN X n m (pc + 1) L r g1 rr) (fun _ k => k) k) k) k) q
  case bastore => exact g_s1_ex (f := fun n v r => g_s1 r fun j r => g_sr r fun p r => g_ast true g p j (v &&& 1) fun g1 => EvN X n m (pc + 1) L r g1 rr) (fun v _ k => g_s1_ex (f := fun n j r => g_sr r fun p r => g_ast true g p j (v &&& 1) fun g1 => EvN X n m (pc + 1) L r g1 rr) (fun j _ k => g_sr_ex (f := fun n p r => g_ast true g p j (v &&& 1) fun g1 => EvN X n m (pc + 1) L r g1 rr) (fun _ r k => g_ast_ex (f := fun n g1 => EvN X n m (pc + 1) L r g1 rr) (fun _ k => k) k) k) k) q
  case arraylength =>
    refine g_sr_ex (f := fun n p r => if p = 1000 then EvN X n m (pc + 1) L (.int (Int32.ofNat X.1) :: r) g rr else
      match g_shp p with
      | .inl q => p < g.1 ∧ EvN X n m (pc + 1) L (.int (Int32.ofNat q.2) :: r) g rr
      | .inr _ => False) (fun p r k => ?_) q
    by_cases hp : p = 1000
    · rw [if_pos hp] at k
      obtain ⟨n, k⟩ := k
      exact ⟨n, by rw [if_pos hp]; exact k⟩
    · rw [if_neg hp] at k
      split at k
      · obtain ⟨k1, n, k⟩ := k
        exact ⟨n, by rw [if_neg hp]; exact ⟨k1, k⟩⟩
      · exact k.elim
  case new =>
    obtain ⟨k1, k2, k3, k4, n, k⟩ := q
    exact ⟨n, k1, k2, k3, k4, k⟩
  case newarray t => exact g_s1_ex (f := fun n v r => (t = .int ∨ t = .boolean) ∧ g_shp g.1 = .inl (decide (t = .boolean), v.toNatClampNeg) ∧ ¬ v < 0 ∧ v.toNatClampNeg ≤ 2048 ∧ g.1 < 47 ∧ (g.2.2 g.1 = fun _ => 0) ∧ EvN X n m (pc + 2) L (.ref g.1 :: r) (g.1 + 1, g.2.1, g.2.2) rr) (fun _ _ ⟨k1, k2, k3, k4, k5, k6, n, k⟩ => ⟨n, k1, k2, k3, k4, k5, k6, k⟩) q
  case invokestatic =>
    simp only [g_do] at q ⊢
    by_cases hp : a = 998
    · simp only [if_pos hp] at q ⊢
      exact g_s2_ex (f := fun n a b r => (r.map fun v => v.category).sum ≤ 8 ∧ EvN X n m (pc + 3) L (.int (if a < b then b else a) :: r) g rr) (fun _ _ _ ⟨k1, n, k2⟩ => ⟨n, k1, k2⟩) q
    · simp only [if_neg hp] at q ⊢
      split at q
      · exact g_call_ev q
      · exact q.elim
  case invokevirtual =>
    simp only [g_do] at q ⊢
    split at q
    · exact g_obj_ex g_call_ev q
    · exact q.elim
  case invokespecial =>
    simp only [g_do] at q ⊢
    split at q
    · split at q
      · obtain ⟨n, k⟩ := q
        exact ⟨n, by rw [if_pos (by assumption)]; exact k⟩
      · exact q.elim
    · split at q
      · obtain ⟨n, k⟩ := g_call_ev q
        exact ⟨n, by rw [if_neg (by assumption)]; exact k⟩
      · exact q.elim
  case ireturn => exact ⟨0, q⟩
  case return_ => exact ⟨0, q⟩
  all_goals first | exact q | exact ⟨0, q⟩
theorem ev_i {X : gX} {m pc : Nat} {i : gI} {L : gLo} {st : List Value} {g : gS} {rr : gR} (ht : g_at m pc = some i) (q : g_do X (Ev X) m pc i L st g rr) : Ev X m pc L st g rr := by
  obtain ⟨n, h⟩ := g_do_ev q
  exact ⟨n + 1, i, ht, h⟩
end
section
/-! What the tables must say of each row of the code; held by the kernel. -/
def g_tbl : List Jvm.Cond := lw_tbl.filter goodWord
def g_sub (k : Nat) : List Jvm.Cond := match k with
  | 0 => k2_sels lw_privs
  | 1 => tables_1_1
  | 2 => tables_1_2
  | 3 => tables_1_3
  | _ => tables_1_4
theorem g_sub_in {k : Nat} {w : Jvm.Cond} (h : w ∈ g_sub k) : w ∈ lw_tbl := by
  unfold g_sub at h
  unfold lw_tbl tables_1
  split at h <;> simp [h]
def g_mem (p : Nat) (w : Jvm.Cond) : Bool := decide ((g_sub (p / 1000))[p % 1000]? = some w) && goodWord w
theorem g_memT {p : Nat} {w : Jvm.Cond} (h : g_mem p w = true) : w ∈ g_tbl := by
  simp only [g_mem, Bool.and_eq_true, decide_eq_true_eq] at h
  exact List.mem_filter.mpr ⟨g_sub_in (List.mem_of_getElem? h.1), h.2⟩
def g_nm (c : Nat) : String := g_CN.getD c ""
def g_own (m : Nat) : String := g_nm (g_meth m).1
/-- a field link -/
def g_okF (e : Nat × Nat × Nat × Nat × Nat) : Bool := match g_cls[e.2.1]? with
  | some q => decide (e.2.2.1 < q.2.2) && g_mem e.2.2.2.2 (.fieldLink (g_nm e.2.2.2.1) e.1 (q.2.1 e.2.2.1).1 (q.2.1 e.2.2.1).2.1 (q.2.1 e.2.2.1).2.2.1)
  | none => false
/-- a method link -/
def g_okL (e : Nat × Nat × Nat × Nat × Nat × Nat × Nat × Nat × Nat) : Bool :=
  let own := g_nm e.2.2.1
  let M := g_meth e.2.1
  let y := M.2.1
  decide (y.cls = g_nm M.1) && g_mem e.2.2.2.2.2.2.2.2 (.code y M.2.2.1 M.2.2.2.1 M.2.2.2.2.1) && g_mem e.2.2.2.2.2.2.2.1 (.initialized y.cls) &&
  decide (y.cls ≠ "java/lang/invoke/MethodHandle") && decide (y.cls ≠ "java/lang/invoke/VarHandle") && plainName y.cls && decide ((parseMethodDescriptor y.desc).map (fun d => d.parameters.length) = some M.2.2.2.2.2.2.2) &&
  (match e.2.2.2.1 with
  | 0 => g_mem e.2.2.2.2.1 (.methodLink own e.1 y) && g_mem e.2.2.2.2.2.1 (.instanceMethod y) && g_mem e.2.2.2.2.2.2.1 (.selects y.cls y y)
  | 1 => g_mem e.2.2.2.2.1 (.methodLink own e.1 y) && g_mem e.2.2.2.2.2.1 (.static y)
  | 2 => decide ((own, e.1, y) ∈ g_nest) && g_mem e.2.2.2.2.2.1 (.static y)
  | 3 => g_mem e.2.2.2.2.1 (.methodLink own e.1 y) && g_mem e.2.2.2.2.2.1 (.instanceMethod y) && decide (y.name = "<init>") && decide (M.2.2.2.2.1 = none)
  | _ => decide ((own, e.1, y) ∈ g_nest) && g_mem e.2.2.2.2.2.1 (.instanceMethod y) && decide (y.name = "<init>") && decide (M.2.2.2.2.1 = none))
theorem g_fl_ok : ∀ e ∈ g_fl, g_okF e = true := by decide +kernel
theorem g_lk_ok0 : ∀ e ∈ g_lk_0, g_okL e = true := by decide +kernel
theorem g_lk_ok1 : ∀ e ∈ g_lk_1, g_okL e = true := by decide +kernel
theorem g_lk_ok2 : ∀ e ∈ g_lk_2, g_okL e = true := by decide +kernel
theorem g_lk_ok3 : ∀ e ∈ g_lk_3, g_okL e = true := by decide +kernel
theorem g_lk_ok : ∀ e ∈ g_lk, g_okL e = true := by
  intro e he
  simp only [g_lk, List.mem_append] at he
  rcases he with ((he | he) | he) | he
  · exact g_lk_ok0 e he
  · exact g_lk_ok1 e he
  · exact g_lk_ok2 e he
  · exact g_lk_ok3 e he
def g_okC (e : Nat × Int32 × Nat × Nat) : Bool := g_mem e.2.2.2 (.constant (g_nm e.2.2.1) e.1 e.2.1)
theorem g_cs_ok : ∀ e ∈ g_cs, g_okC e = true := by decide +kernel
def g_okO (e : Nat × Nat × Nat) : Bool := g_mem e.2.2 (.methodLink (g_nm e.2.1) e.1 objectInit)
theorem g_ob_ok : ∀ e ∈ g_ob, g_okO e = true := by decide +kernel
theorem g_obI_ok : g_mem g_obI (.instanceMethod objectInit) = true := by decide +kernel
theorem g_obC_ok : g_mem g_obC (.code objectInit ⟨#[0xb1]⟩ 1 none) = true := by decide +kernel
def g_okX (e : Nat × Nat × Nat) : Bool := g_mem e.2.2 (.methodLink (g_nm e.2.1) e.1 Lib.Math.max.name)
theorem g_mx_ok : ∀ e ∈ g_mx, g_okX e = true := by decide +kernel
theorem g_mxS_ok : g_mem g_mxS (.static Lib.Math.max.name) = true := by decide +kernel
theorem g_mxI_ok : g_mem g_mxI (.initialized "java/lang/Math") = true := by decide +kernel
theorem g_mxC_ok : g_mem g_mxC (.code Lib.Math.max.name Lib.Math.max.code 2 (some .int)) = true := by decide +kernel
def g_okN (e : Nat × Nat × Nat × Nat × Nat × Nat) : Bool := match g_cls[e.2.1]? with
  | some q => g_mem e.2.2.2.1 (.classLink (g_nm e.2.2.1) e.1 q.1) && g_mem e.2.2.2.2.1 (.instantiable q.1 q.2.2) && g_mem e.2.2.2.2.2 (.initialized q.1)
  | none => false
theorem g_nw_ok : ∀ e ∈ g_nw, g_okN e = true := by decide +kernel
theorem g_ai_ok : g_mem g_ai (.arrayClass .int) = true := by decide +kernel
theorem g_az_ok : g_mem g_az (.arrayClass .boolean) = true := by decide +kernel
/-- a row of the code -/
def g_okI (m : Nat) (e : Nat × gI) : Bool :=
  let M := g_meth m
  let pc := e.1
  let D := decode M.2.2.1 pc
  let a := e.2.2.1
  let b := e.2.2.2.1
  let z := e.2.2.2.2
  match e.2.1 with
  | .iconst v => decide (D = .ok (.iconst v, 1)) && decide (Int32.ofInt v = z)
  | .bipush v => decide (D = .ok (.bipush v, 2)) && decide ((Int8.ofInt v).toInt32 = z)
  | .sipush v => decide (D = .ok (.sipush v, 3)) && decide ((Int16.ofInt v).toInt32 = z)
  | .ldc k => decide (D = .ok (.ldc k, 2)) && g_cs.any (fun q => decide (q.1 = k) && decide (q.2.1 = z) && decide (q.2.2.1 = M.1))
  | .ldc_w k => decide (D = .ok (.ldc_w k, 3)) && g_cs.any (fun q => decide (q.1 = k) && decide (q.2.1 = z) && decide (q.2.2.1 = M.1))
  | .iload k => decide (D = .ok (.iload k, 2))
  | .aload k => decide (D = .ok (.aload k, 2))
  | .istore k => decide (D = .ok (.istore k, 2))
  | .astore k => decide (D = .ok (.astore k, 2))
  | .iinc k v => decide (D = .ok (.iinc k v, 3)) && decide (Int32.ofInt v = z)
  | .goto o => decide (D = .ok (.goto o, 3)) && decide ((pc : Int) + o = (a : Int))
  | .if_icmp c o => decide (D = .ok (.if_icmp c o, 3)) && decide ((pc : Int) + o = (a : Int))
  | .ifCond c o => decide (D = .ok (.ifCond c o, 3)) && decide ((pc : Int) + o = (a : Int))
  | .tableswitch d lo hi offs => (match D with
    | .ok (j, _) => decide (j = .tableswitch d lo hi offs)
    | _ => false) && decide (0 ≤ (pc : Int) + d) && decide (hi - lo < (offs.size : Int)) && offs.toList.all (fun o => decide (0 ≤ (pc : Int) + o))
  | .getfield k => decide (D = .ok (.getfield k, 3)) && g_fl.any (fun q => decide (q.1 = k) && decide (q.2.1 = a) && decide (q.2.2.1 = b) && decide (q.2.2.2.1 = M.1))
  | .putfield k => decide (D = .ok (.putfield k, 3)) && g_fl.any (fun q => decide (q.1 = k) && decide (q.2.1 = a) && decide (q.2.2.1 = b) && decide (q.2.2.2.1 = M.1)) &&
      (match g_cls[a]? with
      | some q => !(q.2.1 b).2.2.2 || (decide (M.2.1.name = "<init>") && decide ((q.2.1 b).1 = g_nm M.1))
      | none => false)
  | .new k => decide (D = .ok (.new k, 3)) && g_nw.any (fun q => decide (q.1 = k) && decide (q.2.1 = a) && decide (q.2.2.1 = M.1))
  | .newarray t => decide (D = .ok (.newarray t, 2))
  | .invokestatic k => decide (D = .ok (.invokestatic k, 3)) && (if a = 998 then g_mx.any (fun q => decide (q.1 = k) && decide (q.2.1 = M.1)) && decide (1 ≤ M.2.2.2.2.2.1) && decide (21 ≤ M.2.2.2.2.2.2.1) else g_lk.any (fun q => decide (q.1 = k) && decide (q.2.1 = a) && decide (q.2.2.1 = M.1) && (decide (q.2.2.2.1 = 1) || decide (q.2.2.2.1 = 2))) && decide (b = (g_meth a).2.2.2.2.2.2.2) && decide ((g_meth a).2.2.2.2.2.1 + 1 ≤ M.2.2.2.2.2.1) && decide (8 + ((g_meth a).2.2.2.1 + 11) + (g_meth a).2.2.2.2.2.2.1 ≤ M.2.2.2.2.2.2.1))
  | .invokevirtual k => decide (D = .ok (.invokevirtual k, 3)) && g_lk.any (fun q => decide (q.1 = k) && decide (q.2.1 = a) && decide (q.2.2.1 = M.1) && decide (q.2.2.2.1 = 0)) && decide (b = (g_meth a).2.2.2.2.2.2.2) && decide ((g_meth a).2.2.2.2.2.1 + 1 ≤ M.2.2.2.2.2.1) && decide (8 + ((g_meth a).2.2.2.1 + 11) + (g_meth a).2.2.2.2.2.2.1 ≤ M.2.2.2.2.2.2.1)
  | .invokespecial k => decide (D = .ok (.invokespecial k, 3)) && (if a = 999 then g_ob.any (fun q => decide (q.1 = k) && decide (q.2.1 = M.1)) && decide (1 ≤ M.2.2.2.2.2.1) && decide (12 ≤ M.2.2.2.2.2.2.1) else
      g_lk.any (fun q => decide (q.1 = k) && decide (q.2.1 = a) && decide (q.2.2.1 = M.1) && (decide (q.2.2.2.1 = 3) || decide (q.2.2.2.1 = 4))) && decide (b = (g_meth a).2.2.2.2.2.2.2) && decide ((g_meth a).2.2.2.2.2.1 + 1 ≤ M.2.2.2.2.2.1) && decide (8 + ((g_meth a).2.2.2.1 + 11) + (g_meth a).2.2.2.2.2.2.1 ≤ M.2.2.2.2.2.2.1))
  | i => decide (D = .ok (i, 1))
end
section
theorem g_ok0_0 : ∀ e ∈ gk0_0, g_okI 0 e = true := by decide +kernel
theorem g_ok0 : ∀ e ∈ gk0, g_okI 0 e = true := g_ok0_0
theorem g_ok1_0 : ∀ e ∈ gk1_0, g_okI 1 e = true := by decide +kernel
theorem g_ok1 : ∀ e ∈ gk1, g_okI 1 e = true := g_ok1_0
theorem g_ok2_0 : ∀ e ∈ gk2_0, g_okI 2 e = true := by decide +kernel
theorem g_ok2 : ∀ e ∈ gk2, g_okI 2 e = true := g_ok2_0
theorem g_ok3_0 : ∀ e ∈ gk3_0, g_okI 3 e = true := by decide +kernel
theorem g_ok3 : ∀ e ∈ gk3, g_okI 3 e = true := g_ok3_0
theorem g_ok4_0 : ∀ e ∈ gk4_0, g_okI 4 e = true := by decide +kernel
theorem g_ok4 : ∀ e ∈ gk4, g_okI 4 e = true := g_ok4_0
theorem g_ok5_0 : ∀ e ∈ gk5_0, g_okI 5 e = true := by decide +kernel
theorem g_ok5_1 : ∀ e ∈ gk5_1, g_okI 5 e = true := by decide +kernel
theorem g_ok5 : ∀ e ∈ gk5, g_okI 5 e = true := List.forall_mem_append.mpr ⟨g_ok5_0, g_ok5_1⟩
theorem g_ok6_0 : ∀ e ∈ gk6_0, g_okI 6 e = true := by decide +kernel
theorem g_ok6_1 : ∀ e ∈ gk6_1, g_okI 6 e = true := by decide +kernel
theorem g_ok6 : ∀ e ∈ gk6, g_okI 6 e = true := List.forall_mem_append.mpr ⟨g_ok6_0, g_ok6_1⟩
theorem g_ok7_0 : ∀ e ∈ gk7_0, g_okI 7 e = true := by decide +kernel
theorem g_ok7_1 : ∀ e ∈ gk7_1, g_okI 7 e = true := by decide +kernel
theorem g_ok7 : ∀ e ∈ gk7, g_okI 7 e = true := List.forall_mem_append.mpr ⟨g_ok7_0, g_ok7_1⟩
theorem g_ok8_0 : ∀ e ∈ gk8_0, g_okI 8 e = true := by decide +kernel
theorem g_ok8_1 : ∀ e ∈ gk8_1, g_okI 8 e = true := by decide +kernel
theorem g_ok8 : ∀ e ∈ gk8, g_okI 8 e = true := List.forall_mem_append.mpr ⟨g_ok8_0, g_ok8_1⟩
theorem g_ok9_0 : ∀ e ∈ gk9_0, g_okI 9 e = true := by decide +kernel
theorem g_ok9 : ∀ e ∈ gk9, g_okI 9 e = true := g_ok9_0
theorem g_ok10_0 : ∀ e ∈ gk10_0, g_okI 10 e = true := by decide +kernel
theorem g_ok10 : ∀ e ∈ gk10, g_okI 10 e = true := g_ok10_0
theorem g_ok11_0 : ∀ e ∈ gk11_0, g_okI 11 e = true := by decide +kernel
theorem g_ok11 : ∀ e ∈ gk11, g_okI 11 e = true := g_ok11_0
theorem g_ok12_0 : ∀ e ∈ gk12_0, g_okI 12 e = true := by decide +kernel
theorem g_ok12 : ∀ e ∈ gk12, g_okI 12 e = true := g_ok12_0
theorem g_ok13_0 : ∀ e ∈ gk13_0, g_okI 13 e = true := by decide +kernel
theorem g_ok13 : ∀ e ∈ gk13, g_okI 13 e = true := g_ok13_0
theorem g_ok14_0 : ∀ e ∈ gk14_0, g_okI 14 e = true := by decide +kernel
theorem g_ok14 : ∀ e ∈ gk14, g_okI 14 e = true := g_ok14_0
theorem g_ok15_0 : ∀ e ∈ gk15_0, g_okI 15 e = true := by decide +kernel
theorem g_ok15 : ∀ e ∈ gk15, g_okI 15 e = true := g_ok15_0
theorem g_ok16_0 : ∀ e ∈ gk16_0, g_okI 16 e = true := by decide +kernel
theorem g_ok16_1 : ∀ e ∈ gk16_1, g_okI 16 e = true := by decide +kernel
theorem g_ok16 : ∀ e ∈ gk16, g_okI 16 e = true := List.forall_mem_append.mpr ⟨g_ok16_0, g_ok16_1⟩
theorem g_ok17_0 : ∀ e ∈ gk17_0, g_okI 17 e = true := by decide +kernel
theorem g_ok17 : ∀ e ∈ gk17, g_okI 17 e = true := g_ok17_0
theorem g_ok18_0 : ∀ e ∈ gk18_0, g_okI 18 e = true := by decide +kernel
theorem g_ok18_1 : ∀ e ∈ gk18_1, g_okI 18 e = true := by decide +kernel
theorem g_ok18 : ∀ e ∈ gk18, g_okI 18 e = true := List.forall_mem_append.mpr ⟨g_ok18_0, g_ok18_1⟩
theorem g_ok19_0 : ∀ e ∈ gk19_0, g_okI 19 e = true := by decide +kernel
theorem g_ok19 : ∀ e ∈ gk19, g_okI 19 e = true := g_ok19_0
theorem g_ok20_0 : ∀ e ∈ gk20_0, g_okI 20 e = true := by decide +kernel
theorem g_ok20 : ∀ e ∈ gk20, g_okI 20 e = true := g_ok20_0
theorem g_ok21_0 : ∀ e ∈ gk21_0, g_okI 21 e = true := by decide +kernel
theorem g_ok21 : ∀ e ∈ gk21, g_okI 21 e = true := g_ok21_0
theorem g_ok22_0 : ∀ e ∈ gk22_0, g_okI 22 e = true := by decide +kernel
theorem g_ok22 : ∀ e ∈ gk22, g_okI 22 e = true := g_ok22_0
theorem g_ok23_0 : ∀ e ∈ gk23_0, g_okI 23 e = true := by decide +kernel
theorem g_ok23 : ∀ e ∈ gk23, g_okI 23 e = true := g_ok23_0
theorem g_ok24_0 : ∀ e ∈ gk24_0, g_okI 24 e = true := by decide +kernel
theorem g_ok24 : ∀ e ∈ gk24, g_okI 24 e = true := g_ok24_0
theorem g_ok25_0 : ∀ e ∈ gk25_0, g_okI 25 e = true := by decide +kernel
theorem g_ok25 : ∀ e ∈ gk25, g_okI 25 e = true := g_ok25_0
theorem g_ok26_0 : ∀ e ∈ gk26_0, g_okI 26 e = true := by decide +kernel
theorem g_ok26_1 : ∀ e ∈ gk26_1, g_okI 26 e = true := by decide +kernel
theorem g_ok26 : ∀ e ∈ gk26, g_okI 26 e = true := List.forall_mem_append.mpr ⟨g_ok26_0, g_ok26_1⟩
theorem g_ok27_0 : ∀ e ∈ gk27_0, g_okI 27 e = true := by decide +kernel
theorem g_ok27_1 : ∀ e ∈ gk27_1, g_okI 27 e = true := by decide +kernel
theorem g_ok27 : ∀ e ∈ gk27, g_okI 27 e = true := List.forall_mem_append.mpr ⟨g_ok27_0, g_ok27_1⟩
theorem g_ok28_0 : ∀ e ∈ gk28_0, g_okI 28 e = true := by decide +kernel
theorem g_ok28 : ∀ e ∈ gk28, g_okI 28 e = true := g_ok28_0
theorem g_ok29_0 : ∀ e ∈ gk29_0, g_okI 29 e = true := by decide +kernel
theorem g_ok29 : ∀ e ∈ gk29, g_okI 29 e = true := g_ok29_0
theorem g_ok30_0 : ∀ e ∈ gk30_0, g_okI 30 e = true := by decide +kernel
theorem g_ok30_1 : ∀ e ∈ gk30_1, g_okI 30 e = true := by decide +kernel
theorem g_ok30 : ∀ e ∈ gk30, g_okI 30 e = true := List.forall_mem_append.mpr ⟨g_ok30_0, g_ok30_1⟩
theorem g_ok31_0 : ∀ e ∈ gk31_0, g_okI 31 e = true := by decide +kernel
theorem g_ok31 : ∀ e ∈ gk31, g_okI 31 e = true := g_ok31_0
theorem g_ok32_0 : ∀ e ∈ gk32_0, g_okI 32 e = true := by decide +kernel
theorem g_ok32 : ∀ e ∈ gk32, g_okI 32 e = true := g_ok32_0
theorem g_ok33_0 : ∀ e ∈ gk33_0, g_okI 33 e = true := by decide +kernel
theorem g_ok33_1 : ∀ e ∈ gk33_1, g_okI 33 e = true := by decide +kernel
theorem g_ok33 : ∀ e ∈ gk33, g_okI 33 e = true := List.forall_mem_append.mpr ⟨g_ok33_0, g_ok33_1⟩
theorem g_ok34_0 : ∀ e ∈ gk34_0, g_okI 34 e = true := by decide +kernel
theorem g_ok34 : ∀ e ∈ gk34, g_okI 34 e = true := g_ok34_0
theorem g_ok35_0 : ∀ e ∈ gk35_0, g_okI 35 e = true := by decide +kernel
theorem g_ok35 : ∀ e ∈ gk35, g_okI 35 e = true := g_ok35_0
theorem g_ok36_0 : ∀ e ∈ gk36_0, g_okI 36 e = true := by decide +kernel
theorem g_ok36 : ∀ e ∈ gk36, g_okI 36 e = true := g_ok36_0
theorem g_ok37_0 : ∀ e ∈ gk37_0, g_okI 37 e = true := by decide +kernel
theorem g_ok37_1 : ∀ e ∈ gk37_1, g_okI 37 e = true := by decide +kernel
theorem g_ok37 : ∀ e ∈ gk37, g_okI 37 e = true := List.forall_mem_append.mpr ⟨g_ok37_0, g_ok37_1⟩
theorem g_ok38_0 : ∀ e ∈ gk38_0, g_okI 38 e = true := by decide +kernel
theorem g_ok38 : ∀ e ∈ gk38, g_okI 38 e = true := g_ok38_0
theorem g_ok39_0 : ∀ e ∈ gk39_0, g_okI 39 e = true := by decide +kernel
theorem g_ok39 : ∀ e ∈ gk39, g_okI 39 e = true := g_ok39_0
theorem g_ok40_0 : ∀ e ∈ gk40_0, g_okI 40 e = true := by decide +kernel
theorem g_ok40_1 : ∀ e ∈ gk40_1, g_okI 40 e = true := by decide +kernel
theorem g_ok40 : ∀ e ∈ gk40, g_okI 40 e = true := List.forall_mem_append.mpr ⟨g_ok40_0, g_ok40_1⟩
theorem g_ok41_0 : ∀ e ∈ gk41_0, g_okI 41 e = true := by decide +kernel
theorem g_ok41_1 : ∀ e ∈ gk41_1, g_okI 41 e = true := by decide +kernel
theorem g_ok41 : ∀ e ∈ gk41, g_okI 41 e = true := List.forall_mem_append.mpr ⟨g_ok41_0, g_ok41_1⟩
theorem g_ok42_0 : ∀ e ∈ gk42_0, g_okI 42 e = true := by decide +kernel
theorem g_ok42 : ∀ e ∈ gk42, g_okI 42 e = true := g_ok42_0
theorem g_ok43_0 : ∀ e ∈ gk43_0, g_okI 43 e = true := by decide +kernel
theorem g_ok43_1 : ∀ e ∈ gk43_1, g_okI 43 e = true := by decide +kernel
theorem g_ok43 : ∀ e ∈ gk43, g_okI 43 e = true := List.forall_mem_append.mpr ⟨g_ok43_0, g_ok43_1⟩
theorem g_ok44_0 : ∀ e ∈ gk44_0, g_okI 44 e = true := by decide +kernel
theorem g_ok44 : ∀ e ∈ gk44, g_okI 44 e = true := g_ok44_0
theorem g_ok45_0 : ∀ e ∈ gk45_0, g_okI 45 e = true := by decide +kernel
theorem g_ok45_1 : ∀ e ∈ gk45_1, g_okI 45 e = true := by decide +kernel
theorem g_ok45 : ∀ e ∈ gk45, g_okI 45 e = true := List.forall_mem_append.mpr ⟨g_ok45_0, g_ok45_1⟩
theorem g_ok46_0 : ∀ e ∈ gk46_0, g_okI 46 e = true := by decide +kernel
theorem g_ok46 : ∀ e ∈ gk46, g_okI 46 e = true := g_ok46_0
theorem g_ok47_0 : ∀ e ∈ gk47_0, g_okI 47 e = true := by decide +kernel
theorem g_ok47_1 : ∀ e ∈ gk47_1, g_okI 47 e = true := by decide +kernel
theorem g_ok47_2 : ∀ e ∈ gk47_2, g_okI 47 e = true := by decide +kernel
theorem g_ok47 : ∀ e ∈ gk47, g_okI 47 e = true := List.forall_mem_append.mpr ⟨List.forall_mem_append.mpr ⟨g_ok47_0, g_ok47_1⟩, g_ok47_2⟩
theorem g_ok48_0 : ∀ e ∈ gk48_0, g_okI 48 e = true := by decide +kernel
theorem g_ok48 : ∀ e ∈ gk48, g_okI 48 e = true := g_ok48_0
theorem g_ok49_0 : ∀ e ∈ gk49_0, g_okI 49 e = true := by decide +kernel
theorem g_ok49_1 : ∀ e ∈ gk49_1, g_okI 49 e = true := by decide +kernel
theorem g_ok49 : ∀ e ∈ gk49, g_okI 49 e = true := List.forall_mem_append.mpr ⟨g_ok49_0, g_ok49_1⟩
theorem g_ok50_0 : ∀ e ∈ gk50_0, g_okI 50 e = true := by decide +kernel
theorem g_ok50 : ∀ e ∈ gk50, g_okI 50 e = true := g_ok50_0
theorem g_ok51_0 : ∀ e ∈ gk51_0, g_okI 51 e = true := by decide +kernel
theorem g_ok51 : ∀ e ∈ gk51, g_okI 51 e = true := g_ok51_0
theorem g_ok52_0 : ∀ e ∈ gk52_0, g_okI 52 e = true := by decide +kernel
theorem g_ok52 : ∀ e ∈ gk52, g_okI 52 e = true := g_ok52_0
theorem g_ok53_0 : ∀ e ∈ gk53_0, g_okI 53 e = true := by decide +kernel
theorem g_ok53 : ∀ e ∈ gk53, g_okI 53 e = true := g_ok53_0
theorem g_ok54_0 : ∀ e ∈ gk54_0, g_okI 54 e = true := by decide +kernel
theorem g_ok54_1 : ∀ e ∈ gk54_1, g_okI 54 e = true := by decide +kernel
theorem g_ok54 : ∀ e ∈ gk54, g_okI 54 e = true := List.forall_mem_append.mpr ⟨g_ok54_0, g_ok54_1⟩
theorem g_ok55_0 : ∀ e ∈ gk55_0, g_okI 55 e = true := by decide +kernel
theorem g_ok55_1 : ∀ e ∈ gk55_1, g_okI 55 e = true := by decide +kernel
theorem g_ok55_2 : ∀ e ∈ gk55_2, g_okI 55 e = true := by decide +kernel
theorem g_ok55 : ∀ e ∈ gk55, g_okI 55 e = true := List.forall_mem_append.mpr ⟨List.forall_mem_append.mpr ⟨g_ok55_0, g_ok55_1⟩, g_ok55_2⟩
theorem g_ok56_0 : ∀ e ∈ gk56_0, g_okI 56 e = true := by decide +kernel
theorem g_ok56_1 : ∀ e ∈ gk56_1, g_okI 56 e = true := by decide +kernel
theorem g_ok56 : ∀ e ∈ gk56, g_okI 56 e = true := List.forall_mem_append.mpr ⟨g_ok56_0, g_ok56_1⟩
theorem g_ok57_0 : ∀ e ∈ gk57_0, g_okI 57 e = true := by decide +kernel
theorem g_ok57_1 : ∀ e ∈ gk57_1, g_okI 57 e = true := by decide +kernel
theorem g_ok57 : ∀ e ∈ gk57, g_okI 57 e = true := List.forall_mem_append.mpr ⟨g_ok57_0, g_ok57_1⟩
theorem g_ok58_0 : ∀ e ∈ gk58_0, g_okI 58 e = true := by decide +kernel
theorem g_ok58_1 : ∀ e ∈ gk58_1, g_okI 58 e = true := by decide +kernel
theorem g_ok58 : ∀ e ∈ gk58, g_okI 58 e = true := List.forall_mem_append.mpr ⟨g_ok58_0, g_ok58_1⟩
theorem g_ok59_0 : ∀ e ∈ gk59_0, g_okI 59 e = true := by decide +kernel
theorem g_ok59_1 : ∀ e ∈ gk59_1, g_okI 59 e = true := by decide +kernel
theorem g_ok59_2 : ∀ e ∈ gk59_2, g_okI 59 e = true := by decide +kernel
theorem g_ok59 : ∀ e ∈ gk59, g_okI 59 e = true := List.forall_mem_append.mpr ⟨List.forall_mem_append.mpr ⟨g_ok59_0, g_ok59_1⟩, g_ok59_2⟩
theorem g_ok60_0 : ∀ e ∈ gk60_0, g_okI 60 e = true := by decide +kernel
theorem g_ok60_1 : ∀ e ∈ gk60_1, g_okI 60 e = true := by decide +kernel
theorem g_ok60 : ∀ e ∈ gk60, g_okI 60 e = true := List.forall_mem_append.mpr ⟨g_ok60_0, g_ok60_1⟩
theorem g_ok61_0 : ∀ e ∈ gk61_0, g_okI 61 e = true := by decide +kernel
theorem g_ok61 : ∀ e ∈ gk61, g_okI 61 e = true := g_ok61_0
theorem g_ok62_0 : ∀ e ∈ gk62_0, g_okI 62 e = true := by decide +kernel
theorem g_ok62_1 : ∀ e ∈ gk62_1, g_okI 62 e = true := by decide +kernel
theorem g_ok62 : ∀ e ∈ gk62, g_okI 62 e = true := List.forall_mem_append.mpr ⟨g_ok62_0, g_ok62_1⟩
theorem g_ok63_0 : ∀ e ∈ gk63_0, g_okI 63 e = true := by decide +kernel
theorem g_ok63_1 : ∀ e ∈ gk63_1, g_okI 63 e = true := by decide +kernel
theorem g_ok63_2 : ∀ e ∈ gk63_2, g_okI 63 e = true := by decide +kernel
theorem g_ok63 : ∀ e ∈ gk63, g_okI 63 e = true := List.forall_mem_append.mpr ⟨List.forall_mem_append.mpr ⟨g_ok63_0, g_ok63_1⟩, g_ok63_2⟩
theorem g_ok64_0 : ∀ e ∈ gk64_0, g_okI 64 e = true := by decide +kernel
theorem g_ok64 : ∀ e ∈ gk64, g_okI 64 e = true := g_ok64_0
theorem g_ok65_0 : ∀ e ∈ gk65_0, g_okI 65 e = true := by decide +kernel
theorem g_ok65 : ∀ e ∈ gk65, g_okI 65 e = true := g_ok65_0
theorem g_ok66_0 : ∀ e ∈ gk66_0, g_okI 66 e = true := by decide +kernel
theorem g_ok66 : ∀ e ∈ gk66, g_okI 66 e = true := g_ok66_0
theorem g_ok67_0 : ∀ e ∈ gk67_0, g_okI 67 e = true := by decide +kernel
theorem g_ok67_1 : ∀ e ∈ gk67_1, g_okI 67 e = true := by decide +kernel
theorem g_ok67 : ∀ e ∈ gk67, g_okI 67 e = true := List.forall_mem_append.mpr ⟨g_ok67_0, g_ok67_1⟩
theorem g_ok68_0 : ∀ e ∈ gk68_0, g_okI 68 e = true := by decide +kernel
theorem g_ok68 : ∀ e ∈ gk68, g_okI 68 e = true := g_ok68_0
theorem g_ok69_0 : ∀ e ∈ gk69_0, g_okI 69 e = true := by decide +kernel
theorem g_ok69 : ∀ e ∈ gk69, g_okI 69 e = true := g_ok69_0
theorem g_ok70_0 : ∀ e ∈ gk70_0, g_okI 70 e = true := by decide +kernel
theorem g_ok70_1 : ∀ e ∈ gk70_1, g_okI 70 e = true := by decide +kernel
theorem g_ok70_2 : ∀ e ∈ gk70_2, g_okI 70 e = true := by decide +kernel
theorem g_ok70 : ∀ e ∈ gk70, g_okI 70 e = true := List.forall_mem_append.mpr ⟨List.forall_mem_append.mpr ⟨g_ok70_0, g_ok70_1⟩, g_ok70_2⟩
theorem g_ok71_0 : ∀ e ∈ gk71_0, g_okI 71 e = true := by decide +kernel
theorem g_ok71_1 : ∀ e ∈ gk71_1, g_okI 71 e = true := by decide +kernel
theorem g_ok71_2 : ∀ e ∈ gk71_2, g_okI 71 e = true := by decide +kernel
theorem g_ok71 : ∀ e ∈ gk71, g_okI 71 e = true := List.forall_mem_append.mpr ⟨List.forall_mem_append.mpr ⟨g_ok71_0, g_ok71_1⟩, g_ok71_2⟩
theorem g_ok72_0 : ∀ e ∈ gk72_0, g_okI 72 e = true := by decide +kernel
theorem g_ok72 : ∀ e ∈ gk72, g_okI 72 e = true := g_ok72_0
theorem g_ok73_0 : ∀ e ∈ gk73_0, g_okI 73 e = true := by decide +kernel
theorem g_ok73 : ∀ e ∈ gk73, g_okI 73 e = true := g_ok73_0
theorem g_ok74_0 : ∀ e ∈ gk74_0, g_okI 74 e = true := by decide +kernel
theorem g_ok74 : ∀ e ∈ gk74, g_okI 74 e = true := g_ok74_0
theorem g_ok75_0 : ∀ e ∈ gk75_0, g_okI 75 e = true := by decide +kernel
theorem g_ok75 : ∀ e ∈ gk75, g_okI 75 e = true := g_ok75_0
theorem g_ok76_0 : ∀ e ∈ gk76_0, g_okI 76 e = true := by decide +kernel
theorem g_ok76_1 : ∀ e ∈ gk76_1, g_okI 76 e = true := by decide +kernel
theorem g_ok76 : ∀ e ∈ gk76, g_okI 76 e = true := List.forall_mem_append.mpr ⟨g_ok76_0, g_ok76_1⟩
theorem g_ok77_0 : ∀ e ∈ gk77_0, g_okI 77 e = true := by decide +kernel
theorem g_ok77 : ∀ e ∈ gk77, g_okI 77 e = true := g_ok77_0
theorem g_ok78_0 : ∀ e ∈ gk78_0, g_okI 78 e = true := by decide +kernel
theorem g_ok78_1 : ∀ e ∈ gk78_1, g_okI 78 e = true := by decide +kernel
theorem g_ok78 : ∀ e ∈ gk78, g_okI 78 e = true := List.forall_mem_append.mpr ⟨g_ok78_0, g_ok78_1⟩
theorem g_ok79_0 : ∀ e ∈ gk79_0, g_okI 79 e = true := by decide +kernel
theorem g_ok79 : ∀ e ∈ gk79, g_okI 79 e = true := g_ok79_0
theorem g_ok80_0 : ∀ e ∈ gk80_0, g_okI 80 e = true := by decide +kernel
theorem g_ok80 : ∀ e ∈ gk80, g_okI 80 e = true := g_ok80_0
theorem g_ok81_0 : ∀ e ∈ gk81_0, g_okI 81 e = true := by decide +kernel
theorem g_ok81_1 : ∀ e ∈ gk81_1, g_okI 81 e = true := by decide +kernel
theorem g_ok81 : ∀ e ∈ gk81, g_okI 81 e = true := List.forall_mem_append.mpr ⟨g_ok81_0, g_ok81_1⟩
theorem g_ok82_0 : ∀ e ∈ gk82_0, g_okI 82 e = true := by decide +kernel
theorem g_ok82 : ∀ e ∈ gk82, g_okI 82 e = true := g_ok82_0
theorem g_ok83_0 : ∀ e ∈ gk83_0, g_okI 83 e = true := by decide +kernel
theorem g_ok83_1 : ∀ e ∈ gk83_1, g_okI 83 e = true := by decide +kernel
theorem g_ok83 : ∀ e ∈ gk83, g_okI 83 e = true := List.forall_mem_append.mpr ⟨g_ok83_0, g_ok83_1⟩
theorem g_ok84_0 : ∀ e ∈ gk84_0, g_okI 84 e = true := by decide +kernel
theorem g_ok84 : ∀ e ∈ gk84, g_okI 84 e = true := g_ok84_0
theorem g_ok85_0 : ∀ e ∈ gk85_0, g_okI 85 e = true := by decide +kernel
theorem g_ok85 : ∀ e ∈ gk85, g_okI 85 e = true := g_ok85_0
theorem g_ok86_0 : ∀ e ∈ gk86_0, g_okI 86 e = true := by decide +kernel
theorem g_ok86_1 : ∀ e ∈ gk86_1, g_okI 86 e = true := by decide +kernel
theorem g_ok86 : ∀ e ∈ gk86, g_okI 86 e = true := List.forall_mem_append.mpr ⟨g_ok86_0, g_ok86_1⟩
theorem g_ok87_0 : ∀ e ∈ gk87_0, g_okI 87 e = true := by decide +kernel
theorem g_ok87 : ∀ e ∈ gk87, g_okI 87 e = true := g_ok87_0
theorem g_ok88_0 : ∀ e ∈ gk88_0, g_okI 88 e = true := by decide +kernel
theorem g_ok88 : ∀ e ∈ gk88, g_okI 88 e = true := g_ok88_0
theorem g_ok89_0 : ∀ e ∈ gk89_0, g_okI 89 e = true := by decide +kernel
theorem g_ok89 : ∀ e ∈ gk89, g_okI 89 e = true := g_ok89_0
theorem g_ok90_0 : ∀ e ∈ gk90_0, g_okI 90 e = true := by decide +kernel
theorem g_ok90 : ∀ e ∈ gk90, g_okI 90 e = true := g_ok90_0
theorem g_ok91_0 : ∀ e ∈ gk91_0, g_okI 91 e = true := by decide +kernel
theorem g_ok91 : ∀ e ∈ gk91, g_okI 91 e = true := g_ok91_0
theorem g_ok92_0 : ∀ e ∈ gk92_0, g_okI 92 e = true := by decide +kernel
theorem g_ok92_1 : ∀ e ∈ gk92_1, g_okI 92 e = true := by decide +kernel
theorem g_ok92_2 : ∀ e ∈ gk92_2, g_okI 92 e = true := by decide +kernel
theorem g_ok92_3 : ∀ e ∈ gk92_3, g_okI 92 e = true := by decide +kernel
theorem g_ok92_4 : ∀ e ∈ gk92_4, g_okI 92 e = true := by decide +kernel
theorem g_ok92 : ∀ e ∈ gk92, g_okI 92 e = true := List.forall_mem_append.mpr ⟨List.forall_mem_append.mpr ⟨List.forall_mem_append.mpr ⟨List.forall_mem_append.mpr ⟨g_ok92_0, g_ok92_1⟩, g_ok92_2⟩, g_ok92_3⟩, g_ok92_4⟩
theorem g_ok93_0 : ∀ e ∈ gk93_0, g_okI 93 e = true := by decide +kernel
theorem g_ok93_1 : ∀ e ∈ gk93_1, g_okI 93 e = true := by decide +kernel
theorem g_ok93 : ∀ e ∈ gk93, g_okI 93 e = true := List.forall_mem_append.mpr ⟨g_ok93_0, g_ok93_1⟩
theorem g_ok94_0 : ∀ e ∈ gk94_0, g_okI 94 e = true := by decide +kernel
theorem g_ok94 : ∀ e ∈ gk94, g_okI 94 e = true := g_ok94_0
theorem g_ok95_0 : ∀ e ∈ gk95_0, g_okI 95 e = true := by decide +kernel
theorem g_ok95 : ∀ e ∈ gk95, g_okI 95 e = true := g_ok95_0
theorem g_ok96_0 : ∀ e ∈ gk96_0, g_okI 96 e = true := by decide +kernel
theorem g_ok96 : ∀ e ∈ gk96, g_okI 96 e = true := g_ok96_0
theorem g_ok97_0 : ∀ e ∈ gk97_0, g_okI 97 e = true := by decide +kernel
theorem g_ok97_1 : ∀ e ∈ gk97_1, g_okI 97 e = true := by decide +kernel
theorem g_ok97 : ∀ e ∈ gk97, g_okI 97 e = true := List.forall_mem_append.mpr ⟨g_ok97_0, g_ok97_1⟩
theorem g_ok98_0 : ∀ e ∈ gk98_0, g_okI 98 e = true := by decide +kernel
theorem g_ok98 : ∀ e ∈ gk98, g_okI 98 e = true := g_ok98_0
theorem g_ok99_0 : ∀ e ∈ gk99_0, g_okI 99 e = true := by decide +kernel
theorem g_ok99 : ∀ e ∈ gk99, g_okI 99 e = true := g_ok99_0
theorem g_ok100_0 : ∀ e ∈ gk100_0, g_okI 100 e = true := by decide +kernel
theorem g_ok100 : ∀ e ∈ gk100, g_okI 100 e = true := g_ok100_0
theorem g_ok101_0 : ∀ e ∈ gk101_0, g_okI 101 e = true := by decide +kernel
theorem g_ok101 : ∀ e ∈ gk101, g_okI 101 e = true := g_ok101_0
theorem g_ok102_0 : ∀ e ∈ gk102_0, g_okI 102 e = true := by decide +kernel
theorem g_ok102 : ∀ e ∈ gk102, g_okI 102 e = true := g_ok102_0
theorem g_ok103_0 : ∀ e ∈ gk103_0, g_okI 103 e = true := by decide +kernel
theorem g_ok103_1 : ∀ e ∈ gk103_1, g_okI 103 e = true := by decide +kernel
theorem g_ok103 : ∀ e ∈ gk103, g_okI 103 e = true := List.forall_mem_append.mpr ⟨g_ok103_0, g_ok103_1⟩
theorem g_ok104_0 : ∀ e ∈ gk104_0, g_okI 104 e = true := by decide +kernel
theorem g_ok104 : ∀ e ∈ gk104, g_okI 104 e = true := g_ok104_0
theorem g_ok105_0 : ∀ e ∈ gk105_0, g_okI 105 e = true := by decide +kernel
theorem g_ok105 : ∀ e ∈ gk105, g_okI 105 e = true := g_ok105_0
theorem g_ok106_0 : ∀ e ∈ gk106_0, g_okI 106 e = true := by decide +kernel
theorem g_ok106_1 : ∀ e ∈ gk106_1, g_okI 106 e = true := by decide +kernel
theorem g_ok106 : ∀ e ∈ gk106, g_okI 106 e = true := List.forall_mem_append.mpr ⟨g_ok106_0, g_ok106_1⟩
theorem g_ok107_0 : ∀ e ∈ gk107_0, g_okI 107 e = true := by decide +kernel
theorem g_ok107_1 : ∀ e ∈ gk107_1, g_okI 107 e = true := by decide +kernel
theorem g_ok107 : ∀ e ∈ gk107, g_okI 107 e = true := List.forall_mem_append.mpr ⟨g_ok107_0, g_ok107_1⟩
theorem g_ok108_0 : ∀ e ∈ gk108_0, g_okI 108 e = true := by decide +kernel
theorem g_ok108 : ∀ e ∈ gk108, g_okI 108 e = true := g_ok108_0
theorem g_ok109_0 : ∀ e ∈ gk109_0, g_okI 109 e = true := by decide +kernel
theorem g_ok109 : ∀ e ∈ gk109, g_okI 109 e = true := g_ok109_0
theorem g_ok110_0 : ∀ e ∈ gk110_0, g_okI 110 e = true := by decide +kernel
theorem g_ok110 : ∀ e ∈ gk110, g_okI 110 e = true := g_ok110_0
theorem g_ok111_0 : ∀ e ∈ gk111_0, g_okI 111 e = true := by decide +kernel
theorem g_ok111 : ∀ e ∈ gk111, g_okI 111 e = true := g_ok111_0
theorem g_ok112_0 : ∀ e ∈ gk112_0, g_okI 112 e = true := by decide +kernel
theorem g_ok112 : ∀ e ∈ gk112, g_okI 112 e = true := g_ok112_0
theorem g_ok113_0 : ∀ e ∈ gk113_0, g_okI 113 e = true := by decide +kernel
theorem g_ok113_1 : ∀ e ∈ gk113_1, g_okI 113 e = true := by decide +kernel
theorem g_ok113 : ∀ e ∈ gk113, g_okI 113 e = true := List.forall_mem_append.mpr ⟨g_ok113_0, g_ok113_1⟩
theorem g_ok114_0 : ∀ e ∈ gk114_0, g_okI 114 e = true := by decide +kernel
theorem g_ok114_1 : ∀ e ∈ gk114_1, g_okI 114 e = true := by decide +kernel
theorem g_ok114 : ∀ e ∈ gk114, g_okI 114 e = true := List.forall_mem_append.mpr ⟨g_ok114_0, g_ok114_1⟩
theorem g_ok115_0 : ∀ e ∈ gk115_0, g_okI 115 e = true := by decide +kernel
theorem g_ok115 : ∀ e ∈ gk115, g_okI 115 e = true := g_ok115_0
theorem g_ok116_0 : ∀ e ∈ gk116_0, g_okI 116 e = true := by decide +kernel
theorem g_ok116_1 : ∀ e ∈ gk116_1, g_okI 116 e = true := by decide +kernel
theorem g_ok116_2 : ∀ e ∈ gk116_2, g_okI 116 e = true := by decide +kernel
theorem g_ok116 : ∀ e ∈ gk116, g_okI 116 e = true := List.forall_mem_append.mpr ⟨List.forall_mem_append.mpr ⟨g_ok116_0, g_ok116_1⟩, g_ok116_2⟩
theorem g_ok117_0 : ∀ e ∈ gk117_0, g_okI 117 e = true := by decide +kernel
theorem g_ok117_1 : ∀ e ∈ gk117_1, g_okI 117 e = true := by decide +kernel
theorem g_ok117 : ∀ e ∈ gk117, g_okI 117 e = true := List.forall_mem_append.mpr ⟨g_ok117_0, g_ok117_1⟩
theorem g_ok118_0 : ∀ e ∈ gk118_0, g_okI 118 e = true := by decide +kernel
theorem g_ok118_1 : ∀ e ∈ gk118_1, g_okI 118 e = true := by decide +kernel
theorem g_ok118 : ∀ e ∈ gk118, g_okI 118 e = true := List.forall_mem_append.mpr ⟨g_ok118_0, g_ok118_1⟩
theorem g_ok119_0 : ∀ e ∈ gk119_0, g_okI 119 e = true := by decide +kernel
theorem g_ok119 : ∀ e ∈ gk119, g_okI 119 e = true := g_ok119_0
theorem g_ok120_0 : ∀ e ∈ gk120_0, g_okI 120 e = true := by decide +kernel
theorem g_ok120_1 : ∀ e ∈ gk120_1, g_okI 120 e = true := by decide +kernel
theorem g_ok120 : ∀ e ∈ gk120, g_okI 120 e = true := List.forall_mem_append.mpr ⟨g_ok120_0, g_ok120_1⟩
theorem g_ok121_0 : ∀ e ∈ gk121_0, g_okI 121 e = true := by decide +kernel
theorem g_ok121 : ∀ e ∈ gk121, g_okI 121 e = true := g_ok121_0
theorem g_ok122_0 : ∀ e ∈ gk122_0, g_okI 122 e = true := by decide +kernel
theorem g_ok122 : ∀ e ∈ gk122, g_okI 122 e = true := g_ok122_0
theorem g_ok123_0 : ∀ e ∈ gk123_0, g_okI 123 e = true := by decide +kernel
theorem g_ok123 : ∀ e ∈ gk123, g_okI 123 e = true := g_ok123_0
theorem g_ok124_0 : ∀ e ∈ gk124_0, g_okI 124 e = true := by decide +kernel
theorem g_ok124 : ∀ e ∈ gk124, g_okI 124 e = true := g_ok124_0
theorem g_ok125_0 : ∀ e ∈ gk125_0, g_okI 125 e = true := by decide +kernel
theorem g_ok125_1 : ∀ e ∈ gk125_1, g_okI 125 e = true := by decide +kernel
theorem g_ok125 : ∀ e ∈ gk125, g_okI 125 e = true := List.forall_mem_append.mpr ⟨g_ok125_0, g_ok125_1⟩
theorem g_ok126_0 : ∀ e ∈ gk126_0, g_okI 126 e = true := by decide +kernel
theorem g_ok126 : ∀ e ∈ gk126, g_okI 126 e = true := g_ok126_0
theorem g_ok127_0 : ∀ e ∈ gk127_0, g_okI 127 e = true := by decide +kernel
theorem g_ok127_1 : ∀ e ∈ gk127_1, g_okI 127 e = true := by decide +kernel
theorem g_ok127 : ∀ e ∈ gk127, g_okI 127 e = true := List.forall_mem_append.mpr ⟨g_ok127_0, g_ok127_1⟩
theorem g_ok128_0 : ∀ e ∈ gk128_0, g_okI 128 e = true := by decide +kernel
theorem g_ok128 : ∀ e ∈ gk128, g_okI 128 e = true := g_ok128_0
theorem g_ok129_0 : ∀ e ∈ gk129_0, g_okI 129 e = true := by decide +kernel
theorem g_ok129_1 : ∀ e ∈ gk129_1, g_okI 129 e = true := by decide +kernel
theorem g_ok129_2 : ∀ e ∈ gk129_2, g_okI 129 e = true := by decide +kernel
theorem g_ok129_3 : ∀ e ∈ gk129_3, g_okI 129 e = true := by decide +kernel
theorem g_ok129 : ∀ e ∈ gk129, g_okI 129 e = true := List.forall_mem_append.mpr ⟨List.forall_mem_append.mpr ⟨List.forall_mem_append.mpr ⟨g_ok129_0, g_ok129_1⟩, g_ok129_2⟩, g_ok129_3⟩
theorem g_ok130_0 : ∀ e ∈ gk130_0, g_okI 130 e = true := by decide +kernel
theorem g_ok130 : ∀ e ∈ gk130, g_okI 130 e = true := g_ok130_0
theorem g_ok131_0 : ∀ e ∈ gk131_0, g_okI 131 e = true := by decide +kernel
theorem g_ok131_1 : ∀ e ∈ gk131_1, g_okI 131 e = true := by decide +kernel
theorem g_ok131 : ∀ e ∈ gk131, g_okI 131 e = true := List.forall_mem_append.mpr ⟨g_ok131_0, g_ok131_1⟩
theorem g_ok132_0 : ∀ e ∈ gk132_0, g_okI 132 e = true := by decide +kernel
theorem g_ok132 : ∀ e ∈ gk132, g_okI 132 e = true := g_ok132_0
theorem g_ok133_0 : ∀ e ∈ gk133_0, g_okI 133 e = true := by decide +kernel
theorem g_ok133 : ∀ e ∈ gk133, g_okI 133 e = true := g_ok133_0
theorem g_ok134_0 : ∀ e ∈ gk134_0, g_okI 134 e = true := by decide +kernel
theorem g_ok134 : ∀ e ∈ gk134, g_okI 134 e = true := g_ok134_0
theorem g_ok135_0 : ∀ e ∈ gk135_0, g_okI 135 e = true := by decide +kernel
theorem g_ok135 : ∀ e ∈ gk135, g_okI 135 e = true := g_ok135_0
theorem g_ok136_0 : ∀ e ∈ gk136_0, g_okI 136 e = true := by decide +kernel
theorem g_ok136_1 : ∀ e ∈ gk136_1, g_okI 136 e = true := by decide +kernel
theorem g_ok136 : ∀ e ∈ gk136, g_okI 136 e = true := List.forall_mem_append.mpr ⟨g_ok136_0, g_ok136_1⟩
theorem g_ok137_0 : ∀ e ∈ gk137_0, g_okI 137 e = true := by decide +kernel
theorem g_ok137 : ∀ e ∈ gk137, g_okI 137 e = true := g_ok137_0
theorem g_ok138_0 : ∀ e ∈ gk138_0, g_okI 138 e = true := by decide +kernel
theorem g_ok138 : ∀ e ∈ gk138, g_okI 138 e = true := g_ok138_0
theorem g_ok139_0 : ∀ e ∈ gk139_0, g_okI 139 e = true := by decide +kernel
theorem g_ok139_1 : ∀ e ∈ gk139_1, g_okI 139 e = true := by decide +kernel
theorem g_ok139 : ∀ e ∈ gk139, g_okI 139 e = true := List.forall_mem_append.mpr ⟨g_ok139_0, g_ok139_1⟩
theorem g_ok140_0 : ∀ e ∈ gk140_0, g_okI 140 e = true := by decide +kernel
theorem g_ok140 : ∀ e ∈ gk140, g_okI 140 e = true := g_ok140_0
theorem g_ok141_0 : ∀ e ∈ gk141_0, g_okI 141 e = true := by decide +kernel
theorem g_ok141_1 : ∀ e ∈ gk141_1, g_okI 141 e = true := by decide +kernel
theorem g_ok141_2 : ∀ e ∈ gk141_2, g_okI 141 e = true := by decide +kernel
theorem g_ok141 : ∀ e ∈ gk141, g_okI 141 e = true := List.forall_mem_append.mpr ⟨List.forall_mem_append.mpr ⟨g_ok141_0, g_ok141_1⟩, g_ok141_2⟩
theorem g_ok142_0 : ∀ e ∈ gk142_0, g_okI 142 e = true := by decide +kernel
theorem g_ok142 : ∀ e ∈ gk142, g_okI 142 e = true := g_ok142_0
theorem g_ok143_0 : ∀ e ∈ gk143_0, g_okI 143 e = true := by decide +kernel
theorem g_ok143 : ∀ e ∈ gk143, g_okI 143 e = true := g_ok143_0
theorem g_ok144_0 : ∀ e ∈ gk144_0, g_okI 144 e = true := by decide +kernel
theorem g_ok144 : ∀ e ∈ gk144, g_okI 144 e = true := g_ok144_0
theorem g_ok145_0 : ∀ e ∈ gk145_0, g_okI 145 e = true := by decide +kernel
theorem g_ok145 : ∀ e ∈ gk145, g_okI 145 e = true := g_ok145_0
theorem g_ok146_0 : ∀ e ∈ gk146_0, g_okI 146 e = true := by decide +kernel
theorem g_ok146_1 : ∀ e ∈ gk146_1, g_okI 146 e = true := by decide +kernel
theorem g_ok146 : ∀ e ∈ gk146, g_okI 146 e = true := List.forall_mem_append.mpr ⟨g_ok146_0, g_ok146_1⟩
theorem g_ok147_0 : ∀ e ∈ gk147_0, g_okI 147 e = true := by decide +kernel
theorem g_ok147 : ∀ e ∈ gk147, g_okI 147 e = true := g_ok147_0
theorem g_ok148_0 : ∀ e ∈ gk148_0, g_okI 148 e = true := by decide +kernel
theorem g_ok148_1 : ∀ e ∈ gk148_1, g_okI 148 e = true := by decide +kernel
theorem g_ok148 : ∀ e ∈ gk148, g_okI 148 e = true := List.forall_mem_append.mpr ⟨g_ok148_0, g_ok148_1⟩
theorem g_ok149_0 : ∀ e ∈ gk149_0, g_okI 149 e = true := by decide +kernel
theorem g_ok149_1 : ∀ e ∈ gk149_1, g_okI 149 e = true := by decide +kernel
theorem g_ok149_2 : ∀ e ∈ gk149_2, g_okI 149 e = true := by decide +kernel
theorem g_ok149_3 : ∀ e ∈ gk149_3, g_okI 149 e = true := by decide +kernel
theorem g_ok149_4 : ∀ e ∈ gk149_4, g_okI 149 e = true := by decide +kernel
theorem g_ok149_5 : ∀ e ∈ gk149_5, g_okI 149 e = true := by decide +kernel
theorem g_ok149_6 : ∀ e ∈ gk149_6, g_okI 149 e = true := by decide +kernel
theorem g_ok149_7 : ∀ e ∈ gk149_7, g_okI 149 e = true := by decide +kernel
theorem g_ok149_8 : ∀ e ∈ gk149_8, g_okI 149 e = true := by decide +kernel
theorem g_ok149_9 : ∀ e ∈ gk149_9, g_okI 149 e = true := by decide +kernel
theorem g_ok149_10 : ∀ e ∈ gk149_10, g_okI 149 e = true := by decide +kernel
theorem g_ok149_11 : ∀ e ∈ gk149_11, g_okI 149 e = true := by decide +kernel
theorem g_ok149 : ∀ e ∈ gk149, g_okI 149 e = true := List.forall_mem_append.mpr ⟨List.forall_mem_append.mpr ⟨List.forall_mem_append.mpr ⟨List.forall_mem_append.mpr ⟨List.forall_mem_append.mpr ⟨List.forall_mem_append.mpr ⟨List.forall_mem_append.mpr ⟨List.forall_mem_append.mpr ⟨List.forall_mem_append.mpr ⟨List.forall_mem_append.mpr ⟨List.forall_mem_append.mpr ⟨g_ok149_0, g_ok149_1⟩, g_ok149_2⟩, g_ok149_3⟩, g_ok149_4⟩, g_ok149_5⟩, g_ok149_6⟩, g_ok149_7⟩, g_ok149_8⟩, g_ok149_9⟩, g_ok149_10⟩, g_ok149_11⟩
theorem g_ok : ∀ (m : Nat), ∀ e ∈ g_code m, g_okI m e = true := by
  intro m
  match m with
  | 0 => exact g_ok0
  | 1 => exact g_ok1
  | 2 => exact g_ok2
  | 3 => exact g_ok3
  | 4 => exact g_ok4
  | 5 => exact g_ok5
  | 6 => exact g_ok6
  | 7 => exact g_ok7
  | 8 => exact g_ok8
  | 9 => exact g_ok9
  | 10 => exact g_ok10
  | 11 => exact g_ok11
  | 12 => exact g_ok12
  | 13 => exact g_ok13
  | 14 => exact g_ok14
  | 15 => exact g_ok15
  | 16 => exact g_ok16
  | 17 => exact g_ok17
  | 18 => exact g_ok18
  | 19 => exact g_ok19
  | 20 => exact g_ok20
  | 21 => exact g_ok21
  | 22 => exact g_ok22
  | 23 => exact g_ok23
  | 24 => exact g_ok24
  | 25 => exact g_ok25
  | 26 => exact g_ok26
  | 27 => exact g_ok27
  | 28 => exact g_ok28
  | 29 => exact g_ok29
  | 30 => exact g_ok30
  | 31 => exact g_ok31
  | 32 => exact g_ok32
  | 33 => exact g_ok33
  | 34 => exact g_ok34
  | 35 => exact g_ok35
  | 36 => exact g_ok36
  | 37 => exact g_ok37
  | 38 => exact g_ok38
  | 39 => exact g_ok39
  | 40 => exact g_ok40
  | 41 => exact g_ok41
  | 42 => exact g_ok42
  | 43 => exact g_ok43
  | 44 => exact g_ok44
  | 45 => exact g_ok45
  | 46 => exact g_ok46
  | 47 => exact g_ok47
  | 48 => exact g_ok48
  | 49 => exact g_ok49
  | 50 => exact g_ok50
  | 51 => exact g_ok51
  | 52 => exact g_ok52
  | 53 => exact g_ok53
  | 54 => exact g_ok54
  | 55 => exact g_ok55
  | 56 => exact g_ok56
  | 57 => exact g_ok57
  | 58 => exact g_ok58
  | 59 => exact g_ok59
  | 60 => exact g_ok60
  | 61 => exact g_ok61
  | 62 => exact g_ok62
  | 63 => exact g_ok63
  | 64 => exact g_ok64
  | 65 => exact g_ok65
  | 66 => exact g_ok66
  | 67 => exact g_ok67
  | 68 => exact g_ok68
  | 69 => exact g_ok69
  | 70 => exact g_ok70
  | 71 => exact g_ok71
  | 72 => exact g_ok72
  | 73 => exact g_ok73
  | 74 => exact g_ok74
  | 75 => exact g_ok75
  | 76 => exact g_ok76
  | 77 => exact g_ok77
  | 78 => exact g_ok78
  | 79 => exact g_ok79
  | 80 => exact g_ok80
  | 81 => exact g_ok81
  | 82 => exact g_ok82
  | 83 => exact g_ok83
  | 84 => exact g_ok84
  | 85 => exact g_ok85
  | 86 => exact g_ok86
  | 87 => exact g_ok87
  | 88 => exact g_ok88
  | 89 => exact g_ok89
  | 90 => exact g_ok90
  | 91 => exact g_ok91
  | 92 => exact g_ok92
  | 93 => exact g_ok93
  | 94 => exact g_ok94
  | 95 => exact g_ok95
  | 96 => exact g_ok96
  | 97 => exact g_ok97
  | 98 => exact g_ok98
  | 99 => exact g_ok99
  | 100 => exact g_ok100
  | 101 => exact g_ok101
  | 102 => exact g_ok102
  | 103 => exact g_ok103
  | 104 => exact g_ok104
  | 105 => exact g_ok105
  | 106 => exact g_ok106
  | 107 => exact g_ok107
  | 108 => exact g_ok108
  | 109 => exact g_ok109
  | 110 => exact g_ok110
  | 111 => exact g_ok111
  | 112 => exact g_ok112
  | 113 => exact g_ok113
  | 114 => exact g_ok114
  | 115 => exact g_ok115
  | 116 => exact g_ok116
  | 117 => exact g_ok117
  | 118 => exact g_ok118
  | 119 => exact g_ok119
  | 120 => exact g_ok120
  | 121 => exact g_ok121
  | 122 => exact g_ok122
  | 123 => exact g_ok123
  | 124 => exact g_ok124
  | 125 => exact g_ok125
  | 126 => exact g_ok126
  | 127 => exact g_ok127
  | 128 => exact g_ok128
  | 129 => exact g_ok129
  | 130 => exact g_ok130
  | 131 => exact g_ok131
  | 132 => exact g_ok132
  | 133 => exact g_ok133
  | 134 => exact g_ok134
  | 135 => exact g_ok135
  | 136 => exact g_ok136
  | 137 => exact g_ok137
  | 138 => exact g_ok138
  | 139 => exact g_ok139
  | 140 => exact g_ok140
  | 141 => exact g_ok141
  | 142 => exact g_ok142
  | 143 => exact g_ok143
  | 144 => exact g_ok144
  | 145 => exact g_ok145
  | 146 => exact g_ok146
  | 147 => exact g_ok147
  | 148 => exact g_ok148
  | 149 => exact g_ok149
  | m + 150 => exact fun e h => absurd h List.not_mem_nil
theorem g_look_mem {i : gI} {pc : Nat} : ∀ (l : List (Nat × gI)), g_look l pc = some i → (pc, i) ∈ l
  | [], h => by cases h
  | (q, j) :: l, h => by
    unfold g_look at h
    split at h
    · next e => cases h; subst e; exact List.mem_cons_self
    · exact List.mem_cons_of_mem _ (g_look_mem l h)
theorem g_okA {m pc : Nat} {i : gI} (h : g_at m pc = some i) : g_okI m (pc, i) = true := g_ok m _ (g_look_mem _ h)
end
section
/-! How the small machine's state lies in the heap. -/
def g_cv (b0 b : Nat) : Value → Value
  | .ref p => .ref (if p = 1000 then b0 else b + p)
  | v => v
theorem g_cv_cat (b0 b : Nat) (v : Value) : (g_cv b0 b v).category = v.category := by cases v <;> rfl
def g_pl (Dd : va_G) (cI cZ : ClassId) (b0 b : Nat) (ρ : Nat → Nat → Option Nat) (σ : Nat → Nat → Int32) (p : Nat) (H : Heap) : Prop := match g_shp p with
  | .inl q => H[b + p]? = some (arrV (if q.1 then cZ else cI) q.2 (fun j => .int (σ p j)))
  | .inr c => ∃ r : vw_C, g_cls[c]? = some r ∧ t_OB (b + p) (Dd.1 c) r.2.2 (Dd.2 c) H (fun k => g_cv b0 b (g_av ρ σ p c k))
def g_WP (Dd : va_G) (cI cZ : ClassId) (b0 b : Nat) (g : gS) (H : Heap) : Prop := H.size = b + g.1 ∧ g.1 ≤ 47 ∧ ∀ p, p < g.1 → g_pl Dd cI cZ b0 b g.2.1 g.2.2 p H
def g_WH (Dd : va_G) (cI cZ : ClassId) (b0 b : Nat) (X : gX) (g : gS) (s : State) (H : Heap) : Prop := g_WP Dd cI cZ b0 b g H ∧ b0 < b ∧ va_X b0 X.1 X.2 s H
def g_En (Dd : va_G) (cI cZ : ClassId) (s : State) : Prop := va_K Dd g_cls [(cI, .int), (cZ, .boolean)] s ∧ ∀ w ∈ g_nest, va_Nw (.methodLinkNest w.1 w.2.1 w.2.2 "SwitchBook") s
theorem g_En.warm {Dd : va_G} {cI cZ : ClassId} {s U : State} (hW : s.WarmedH U.vm) (h : g_En Dd cI cZ s) : g_En Dd cI cZ U := ⟨va_K.moved hW.alike h.1, fun w hw => va_Nw.warmM hW (h.2 w hw)⟩
theorem g_En.same {Dd : va_G} {cI cZ : ClassId} {s U : State} (hv : s.vm = U.vm) (h : g_En Dd cI cZ s) : g_En Dd cI cZ U := ⟨va_K.moved (by rw [hv]; exact Vm.Alike.refl _) h.1, fun w hw => va_Nw.same rfl hv (h.2 w hw)⟩
/-- the locals -/
def g_ll (b0 b : Nat) : Nat → gLo → List (Nat × Value)
  | _, [] => []
  | k, none :: L => g_ll b0 b (k + 1) L
  | k, some v :: L => (k, g_cv b0 b v) :: g_ll b0 b (k + 1) L
theorem g_ll_mem {b0 b : Nat} {j : Nat} {w : Value} : ∀ (L : gLo) (k : Nat), (j, w) ∈ g_ll b0 b k L ↔ ∃ i v, j = k + i ∧ g_lg L i = some v ∧ w = g_cv b0 b v
  | [], k => ⟨fun h => (by cases h), fun ⟨i, v, _, h, _⟩ => by cases i <;> cases h⟩
  | none :: L, k => by
    have ih := g_ll_mem (b0 := b0) (b := b) (j := j) (w := w) L (k + 1)
    simp only [g_ll]
    rw [ih]
    constructor
    · rintro ⟨i, v, h1, h2, h3⟩
      exact ⟨i + 1, v, by omega, h2, h3⟩
    · rintro ⟨i, v, h1, h2, h3⟩
      cases i with
      | zero => cases h2
      | succ i => exact ⟨i, v, by omega, h2, h3⟩
  | some u :: L, k => by
    have ih := g_ll_mem (b0 := b0) (b := b) (j := j) (w := w) L (k + 1)
    simp only [g_ll, List.mem_cons, Prod.mk.injEq]
    rw [ih]
    constructor
    · rintro (⟨h1, h2⟩ | ⟨i, v, h1, h2, h3⟩)
      · exact ⟨0, u, by omega, rfl, h2⟩
      · exact ⟨i + 1, v, by omega, h2, h3⟩
    · rintro ⟨i, v, h1, h2, h3⟩
      cases i with
      | zero =>
        cases h2
        exact Or.inl ⟨by omega, h3⟩
      | succ i => exact Or.inr ⟨i, v, by omega, h2, h3⟩
theorem g_ls_length : ∀ (L : gLo) (k : Nat) (v : Value), (g_ls L k v).length = L.length
  | [], _, _ => rfl
  | _ :: _, 0, _ => rfl
  | _ :: L, k + 1, v => congrArg (· + 1) (g_ls_length L k v)
theorem g_lg_ls : ∀ (L : gLo) (k : Nat) (v w : Value) (j : Nat), g_lg (g_ls L k v) j = some w → (j = k ∧ w = v) ∨ (j ≠ k ∧ g_lg L j = some w)
  | [], _, _, _, j, h => by cases j <;> cases h
  | a :: L, 0, v, w, j, h => by
    cases j with
    | zero =>
      cases h
      exact Or.inl ⟨rfl, rfl⟩
    | succ j => exact Or.inr ⟨by omega, h⟩
  | a :: L, k + 1, v, w, j, h => by
    cases j with
    | zero => exact Or.inr ⟨by omega, h⟩
    | succ j =>
      rcases g_lg_ls L k v w j h with ⟨h1, h2⟩ | ⟨h1, h2⟩
      · exact Or.inl ⟨by omega, h2⟩
      · exact Or.inr ⟨by omega, h2⟩
def g_LR (b0 b : Nat) (ls : Array Slot) (nL : Nat) (L : gLo) : Prop := lv_has ls nL (g_ll b0 b 0 L) ∧ L.length = nL ∧ ∀ k v, g_lg L k = some v → v.category = 1
theorem g_LR.get {b0 b : Nat} {ls : Array Slot} {nL : Nat} {L : gLo} (h : g_LR b0 b ls nL L) {k : Nat} {v : Value} (hk : g_lg L k = some v) : ls[k]? = some (.val (g_cv b0 b v)) := h.1.2.2 (k, _) ((g_ll_mem L 0).mpr ⟨k, v, by omega, hk, rfl⟩)
theorem g_LR.set {b0 b : Nat} {ls ls' : Array Slot} {nL : Nat} {L : gLo} (h : g_LR b0 b ls nL L) {k : Nat} {v : Value} (hc : v.category = 1) (h' : lv_has ls' nL ((k, g_cv b0 b v) :: (g_ll b0 b 0 L).filter (fun q => !(q.1 == k) && !(q.1 + 1 == k && q.2.category == 2)))) : g_LR b0 b ls' nL (g_ls L k v) := by
  refine ⟨⟨h'.1, h'.2.1, fun q hq => ?_⟩, by rw [g_ls_length]; exact h.2.1, fun j w hj => ?_⟩
  · obtain ⟨j, w⟩ := q
    obtain ⟨i, u, h1, h2, h3⟩ := (g_ll_mem _ 0).mp hq
    have e : j = i := by omega
    subst e
    rcases g_lg_ls L k v u j h2 with ⟨e1, e2⟩ | ⟨e1, e2⟩
    · subst e1; subst e2; subst h3
      exact h'.2.2 _ List.mem_cons_self
    · refine h'.2.2 _ (List.mem_cons_of_mem _ (List.mem_filter.mpr ⟨(g_ll_mem L 0).mpr ⟨j, u, by omega, e2, h3⟩, ?_⟩))
      have hcat : w.category = 1 := by rw [h3, g_cv_cat]; exact h.2.2 j u e2
      simp [e1, hcat]
  · rcases g_lg_ls L k v w j hj with ⟨e1, e2⟩ | ⟨e1, e2⟩
    · rw [e2]; exact hc
    · exact h.2.2 j w e2
theorem g_lg_map : ∀ (A : List Value) (n i : Nat) (v : Value), g_lg (A.map some ++ List.replicate n none) i = some v → A[i]? = some v
  | [], n, i, v, h => by
    exfalso
    simp only [List.map_nil, List.nil_append] at h
    induction n generalizing i with
    | zero => cases i <;> cases h
    | succ n ih =>
      rw [List.replicate_succ] at h
      cases i with
      | zero => cases h
      | succ i => exact ih i h
  | a :: A, n, 0, v, h => by simpa [g_lg] using h
  | a :: A, n, i + 1, v, h => by
    have := g_lg_map A n i v (by simpa [g_lg] using h)
    simpa using this
theorem g_args_mem : ∀ (A : List Value) (k i : Nat) (v : Value), (∀ v ∈ A, v.category = 1) → A[i]? = some v → (k + i, v) ∈ lv_args k A
  | [], _, i, v, _, h => by simp at h
  | a :: A, k, 0, v, hc, h => by
    simp only [List.getElem?_cons_zero] at h
    cases h
    exact List.mem_cons_self
  | a :: A, k, i + 1, v, hc, h => by
    have h1 : a.category = 1 := hc a List.mem_cons_self
    simp only [List.getElem?_cons_succ] at h
    have := g_args_mem A (k + 1) i v (fun v hv => hc v (List.mem_cons_of_mem _ hv)) h
    rw [show k + (i + 1) = k + 1 + i by omega]
    show _ ∈ (k, a) :: lv_args (if a.category = 2 then k + 2 else k + 1) A
    rw [if_neg (by omega)]
    exact List.mem_cons_of_mem _ this
theorem g_sl_len : ∀ (A : List Value), (∀ v ∈ A, v.category = 1) → (lg_sl A).length = A.length
  | [], _ => rfl
  | a :: A, h => by
    have h1 : a.category = 1 := h a List.mem_cons_self
    have ih := g_sl_len A (fun v hv => h v (List.mem_cons_of_mem _ hv))
    simp only [lg_sl, List.flatMap_cons, List.length_append, List.length_cons] at ih ⊢
    rw [if_neg (by omega), ih]
    simp
    omega
/-- the locals at a method's entry -/
theorem g_LR.entry {b0 b : Nat} {A : List Value} {n : Nat} (hc : ∀ v ∈ A, v.category = 1) (hn : A.length ≤ n) : g_LR b0 b (lg_sl (A.map (g_cv b0 b)) ++ List.replicate (n - (lg_sl (A.map (g_cv b0 b))).length) Slot.unset).toArray n (A.map some ++ List.replicate (n - A.length) none) := by
  have hc' : ∀ v ∈ A.map (g_cv b0 b), v.category = 1 := by
    intro v hv
    obtain ⟨u, h1, h2⟩ := List.mem_map.mp hv
    rw [← h2, g_cv_cat]
    exact hc u h1
  have hl := g_sl_len _ hc'
  rw [List.length_map] at hl
  have h := lv_entry (A.map (g_cv b0 b)) (n := n) (by omega)
  refine ⟨⟨h.1, h.2.1, fun q hq => ?_⟩, by simp; omega, fun k v hk => hc v (List.mem_of_getElem? (g_lg_map A _ k v hk))⟩
  obtain ⟨j, w⟩ := q
  obtain ⟨i, u, h1, h2, h3⟩ := (g_ll_mem _ 0).mp hq
  have h4 := g_lg_map A _ i u h2
  have h5 := g_args_mem (A.map (g_cv b0 b)) 0 i (g_cv b0 b u) hc' (by rw [List.getElem?_map, h4]; rfl)
  rw [h1, h3]
  exact h.2.2 _ h5
/-! places that stay -/
theorem g_pl.congr {Dd : va_G} {cI cZ : ClassId} {b0 b : Nat} {ρ ρ' : Nat → Nat → Option Nat} {σ σ' : Nat → Nat → Int32} {p : Nat} {H H' : Heap} (h : g_pl Dd cI cZ b0 b ρ σ p H) (hr : ρ' p = ρ p) (hs : σ' p = σ p) (hH : H'[b + p]? = H[b + p]?) : g_pl Dd cI cZ b0 b ρ' σ' p H' := by
  unfold g_pl at *
  split
  · next q hq =>
    rw [hq] at h
    rw [hH, hs]
    exact h
  · next c hq =>
    rw [hq] at h
    obtain ⟨r, h1, h2⟩ := h
    refine ⟨r, h1, (h2.kept hH).to (fun k _ => ?_)⟩
    simp only [g_av, hr, hs]
theorem g_WP.set {Dd : va_G} {cI cZ : ClassId} {b0 b : Nat} {n : Nat} {ρ ρ' : Nat → Nat → Option Nat} {σ σ' : Nat → Nat → Int32} {H H' : Heap} {p : Nat} (h : g_WP Dd cI cZ b0 b (n, ρ, σ) H) (hr : ∀ q, q ≠ p → ρ' q = ρ q) (hs : ∀ q, q ≠ p → σ' q = σ q) (hz : H'.size = H.size) (ho : ∀ q, q ≠ b + p → H'[q]? = H[q]?) (hp : g_pl Dd cI cZ b0 b ρ' σ' p H') : g_WP Dd cI cZ b0 b (n, ρ', σ') H' := by
  refine ⟨hz.trans h.1, h.2.1, fun q hq => ?_⟩
  by_cases e : q = p
  · subst e; exact hp
  · exact (h.2.2 q hq).congr (hr q e) (hs q e) (ho _ (by omega))
theorem g_X.kept {b0 b : Nat} {X : gX} {s : State} {H H' : Heap} (hb : b0 < b) (h : va_X b0 X.1 X.2 s H) (ho : ∀ q, q < b → H'[q]? = H[q]?) : va_X b0 X.1 X.2 s H' := h.kept (ho b0 hb)
theorem g_slots_mono {a c : Nat} (h : a ≤ c) : g_slots a ≤ g_slots c := by
  induction h with
  | refl => exact Nat.le_refl _
  | step _ ih => exact Nat.le_trans ih (Nat.le_add_right _ _)
/-! the classes -/
theorem g_in0 : ∀ w ∈ u_ws RX0 TX0 9, w ∈ lw_tbl ∧ goodWord w = true := by decide +kernel
theorem g_in1 : ∀ w ∈ u_ws RX1 TX1 14, w ∈ lw_tbl ∧ goodWord w = true := by decide +kernel
theorem g_in2 : ∀ w ∈ u_ws RX2 TX2 6, w ∈ lw_tbl ∧ goodWord w = true := by decide +kernel
theorem g_in3 : ∀ w ∈ u_ws RX3 TX3 16, w ∈ lw_tbl ∧ goodWord w = true := by decide +kernel
theorem g_in4 : ∀ w ∈ u_ws RX4 TX4 25, w ∈ lw_tbl ∧ goodWord w = true := by decide +kernel
def g_clsOK (c : Nat) (q : vw_C) : Prop := (∀ k, k < q.2.2 → parseFieldDescriptor (q.2.1 k).2.2.1 = some (g_tyf c k)) ∧ (∀ a, a < q.2.2 → ∀ b, b < q.2.2 → a ≠ b → (q.2.1 a).2.1 ≠ (q.2.1 b).2.1) ∧ ∀ w ∈ u_ws q.1 q.2.1 q.2.2, w ∈ g_tbl
theorem g_cls_ok {c : Nat} {q : vw_C} (h : g_cls[c]? = some q) : g_clsOK c q := by
  match c, h with
  | 0, h => cases h; exact ⟨tyX0_ok, nmX0, fun w hw => List.mem_filter.mpr (g_in0 w hw)⟩
  | 1, h => cases h; exact ⟨tyX1_ok, nmX1, fun w hw => List.mem_filter.mpr (g_in1 w hw)⟩
  | 2, h => cases h; exact ⟨tyX2_ok, nmX2, fun w hw => List.mem_filter.mpr (g_in2 w hw)⟩
  | 3, h => cases h; exact ⟨tyX3_ok, nmX3, fun w hw => List.mem_filter.mpr (g_in3 w hw)⟩
  | 4, h => cases h; exact ⟨tyX4_ok, nmX4, fun w hw => List.mem_filter.mpr (g_in4 w hw)⟩
  | c + 5, h => simp [g_cls] at h
theorem g_sz_cls {c : Nat} {q : vw_C} (h : g_cls[c]? = some q) {p : Nat} (hp : g_shp p = .inr c) : g_sz p = q.2.2 := by
  unfold g_sz
  rw [hp]
  match c, h with
  | 0, h => cases h; rfl
  | 1, h => cases h; rfl
  | 2, h => cases h; rfl
  | 3, h => cases h; rfl
  | 4, h => cases h; rfl
  | c + 5, h => simp [g_cls] at h
section GWR
variable {p : Program} {l : Launch} {e : Env} {R : Room} {s : State} {m : MethodId} {args : Array Value} {below : List Frame} {meth : Method} {c : Code} {H : Heap} {locs : List Loc} {cells slots : Nat} {Q : State → Prop}
variable {cc : ByteArray} {pc : Nat} {ls : Array Slot} {rest : List Value} {Dd : va_G} {cl : List vw_C} {a : Nat} {tys : List (ClassId × FieldType)}
/-- a field is written: what else stays -/
theorem gw_put (hexec : p.tables.exec = Jvm.exec) (hb : c.code = cc) {own : String} {C : String} {T : u_T} {N ci index : Nat} {Ts : List Jvm.Cond} (hts : ∀ w ∈ Ts, w.before args s = true) (hin : ∀ w ∈ u_ws C T N, w ∈ Ts) (ty0 : Nat → FieldType) (hty : ∀ k, k < N → parseFieldDescriptor (T k).2.2.1 = some (ty0 k)) (hnm : ∀ a, a < N → ∀ b, b < N → a ≠ b → (T a).2.1 ≠ (T b).2.1) (hown : s.vm.findClass own = some m.cls) (hK : va_K Dd cl tys s) {V : Nat → Value} (hO : t_OB a (Dd.1 ci) N (Dd.2 ci) H V) (hc : cl[ci]? = some (C, T, N)) (k : Nat) (hk : k < N) (hlink : (Jvm.Cond.fieldLink own index (T k).1 (T k).2.1 (T k).2.2.1).before args s = true) (hfin : (T k).2.2.2 = false ∨ (meth.name = "<init>" ∧ (T k).1 = own)) {v : Value} (hn : narrow (ty0 k) v = v) (hfit : fits (ty0 k) v = true)
    (hdg : decode cc pc = .ok (.putfield index, 3)) (kk : ∀ (H1 : Heap) (locs1 : List Loc), t_OB a (Dd.1 ci) N (Dd.2 ci) H1 (updV V k v) → H1.size = H.size → (∀ q, q ≠ a → H1[q]? = H[q]?) → (∀ q ∈ locs1, q ∈ locs ∨ q.base = a) → W p l e R s m args below meth c H1 locs1 cells slots Q (F0 m (pc + 3) ls rest)) : W p l e R s m args below meth c H locs cells slots Q (F0 m pc ls (v :: .ref a :: rest)) := by
  have hap := va_apart (own := own) hts hin ty0 hty hnm hK hc
  obtain ⟨cell, q1, q2, q3, q4⟩ := hO
  obtain ⟨hS, hfc, kC, hkC, hkind⟩ := hK.1 ci _ hc
  obtain ⟨cf, kf, fi, f, hi, hsl⟩ := hS k hk
  have hlay := hts _ (hin _ (u_in_lay hk))
  have hst := (u_facts hfc hkC (u_lays hts hin hk) hi).1
  have fin : ∀ (H1 : Heap) (L1 : List Loc), L1 = locs ++ [⟨a, f.slot⟩] → H1[a]? = some (cell.setSlot f.slot v) → H1.size = H.size → (∀ q, q ≠ a → H1[q]? = H[q]?) → W p l e R s m args below meth c H1 L1 cells slots Q (F0 m (pc + 3) ls rest) := by
    intro H1 L1 hL1 e1 e2 e3
    subst hL1
    refine kk H1 _ ⟨cell.setSlot (Dd.2 ci k) v, by rw [hsl] at e1; exact e1, q2, q3, t_set q4 hap hk v⟩ e2 e3 (fun q hq => ?_)
    rcases List.mem_append.mp hq with h | h
    · exact Or.inl h
    · rw [List.mem_singleton.mp h]; exact Or.inr rfl
  rcases Bool.eq_false_or_eq_true (T k).2.2.2 with hf | hf
  · obtain ⟨hin2, hdecl⟩ : meth.name = "<init>" ∧ (T k).1 = own := by
      rcases hfin with h | h
      · rw [hf] at h; cases h
      · exact h
    unfold u_lay at hlay
    rw [if_pos hf] at hlay
    have hcf : m.cls = cf := by
      obtain ⟨_, _, c', _, _, _, -, -, hf', -, -, -, hown2, -⟩ := Cond.laysFinal_spec hlay
      have e1 : c' = cf := by have := hi.symm.trans hf'; simp at this; exact this.1.symm
      rw [hdecl] at hown2
      rw [← e1]; exact Option.some.inj (hown.symm.trans hown2)
    have h6 := u_fits hfc hkC hkind (Or.inr hlay) hi (hty k hk) hn hfit
    exact W.putFinK hexec hb hown hlink hi hst hcf hin2 (by rw [q2]; exact h6) q1 q3 (by rw [hsl]; exact k2_hasslot (q4 k hk)) rfl rfl hdg fun H' e1 e2 e3 => fin H' _ rfl e1 e2 e3
  · unfold u_lay at hlay
    rw [if_neg (by rw [hf]; decide)] at hlay
    have h6 := u_store hfc hkC hkind hlay hi (hty k hk) hn hfit
    exact W.putK hexec hb (f := f) ⟨hown, hlink, ⟨_, _, _, hi⟩, hst⟩ (by rw [q2]; exact h6) q1 q3 (by rw [hsl]; exact k2_hasslot (q4 k hk)) rfl rfl hdg fun H' e1 e2 e3 => fin H' _ rfl e1 e2 e3
end GWR
end
section
/-! THE SMALL MACHINE IS THE MACHINE: what it answers, the bytecode answers. -/
def g_Q (Dd : va_G) (cI cZ : ClassId) (b0 b : Nat) (rr : gR) : Array Value → State → Outcome → State → Prop := fun _ st o t => o = .returned (rr.1.map (g_cv b0 b)) ∧ g_WP Dd cI cZ b0 b rr.2 t.heap ∧ ∀ q, q < b → t.heap[q]? = st.heap[q]?
def g_Cx (Dd : va_G) (cI cZ : ClassId) (p : Program) (R : Room) (s : State) (mm : MethodId) (args : Array Value) (meth : Method) (c : Code) (m : Nat) : Prop :=
  (p.tables.exec = Jvm.exec ∧ c.code = (g_meth m).2.2.1 ∧ meth.sig.returnType = (g_meth m).2.2.2.2.1 ∧ c.maxLocals = (g_meth m).2.2.2.1 ∧ s.vm.findClass (g_own m) = some mm.cls) ∧ (∀ w ∈ g_tbl, w.before args s = true) ∧ meth.locks = false ∧ ((g_meth m).2.1.name = "<init>" → meth.name = "<init>") ∧ (g_meth m).2.2.2.2.2.1 ≤ R.frames ∧ (g_meth m).2.2.2.2.2.2.1 ≤ R.locals ∧ g_En Dd cI cZ s
def g_Goal (l : Launch) (Dd : va_G) (cI cZ : ClassId) (b0 b : Nat) (X : gX) (n : Nat) : Prop := ∀ (m pc : Nat) (L : gLo) (st : List Value) (g : gS) (rr : gR), EvN X n m pc L st g rr →
  ∀ (p : Program) (e : Env) (R : Room) (s : State) (mm : MethodId) (args : Array Value) (below : List Frame) (meth : Method) (c : Code) (H : Heap) (locs : List Loc) (cells slots mc ms : Nat) (ls : Array Slot),
  g_Cx Dd cI cZ p R s mm args meth c m → g_LR b0 b ls (g_meth m).2.2.2.1 L → g_WH Dd cI cZ b0 b X g s H → va_S (fun q => b ≤ q) s.heap H locs → b ≤ s.heap.size →
  (cells + rr.2.1 = mc + g.1 ∧ slots + g_slots rr.2.1 = ms + g_slots g.1 ∧ mc ≤ R.cells ∧ ms ≤ R.slots) →
  W p l e R s mm args below meth c H locs cells slots (MQ below (g_Q Dd cI cZ b0 b rr) args s mc ms (fun q => b ≤ q)) (F0 mm pc ls (st.map (g_cv b0 b)))
def g_ws (y : Nat) : List Jvm.Cond := .code (g_meth y).2.1 (g_meth y).2.2.1 (g_meth y).2.2.2.1 (g_meth y).2.2.2.2.1 :: g_tbl
theorem g_good {y : Nat} (h : Jvm.Cond.code (g_meth y).2.1 (g_meth y).2.2.1 (g_meth y).2.2.2.1 (g_meth y).2.2.2.2.1 ∈ g_tbl) : GoodIn g_tbl (g_ws y) := by
  intro w hw
  have h1 : w ∈ g_tbl := by
    rcases List.mem_cons.mp hw with e | e
    · rw [e]; exact h
    · exact e
  exact ⟨h1, good_of_word (List.mem_filter.mp h1).2⟩
/-! how many cells stand never falls -/
theorem g_s1_out {st : List Value} {f : Int32 → List Value → Prop} {P : Prop} (h : ∀ a r, f a r → P) (k : g_s1 st f) : P := by
  unfold g_s1 at k
  split at k
  · exact h _ _ k
  · exact k.elim
theorem g_sr_out {st : List Value} {f : Nat → List Value → Prop} {P : Prop} (h : ∀ a r, f a r → P) (k : g_sr st f) : P := by
  unfold g_sr at k
  split at k
  · exact h _ _ k
  · exact k.elim
theorem g_s2_out {st : List Value} {f : Int32 → Int32 → List Value → Prop} {P : Prop} (h : ∀ a b r, f a b r → P) (k : g_s2 st f) : P := g_s1_out (fun _ _ k => g_s1_out (fun _ _ k => h _ _ _ k) k) k
theorem g_li_out {L : gLo} {k : Nat} {f : Int32 → Prop} {P : Prop} (h : ∀ a, f a → P) (q : g_li L k f) : P := by
  unfold g_li at q
  split at q
  · exact h _ q
  · exact q.elim
theorem g_lr_out {L : gLo} {k : Nat} {f : Nat → Prop} {P : Prop} (h : ∀ a, f a → P) (q : g_lr L k f) : P := by
  unfold g_lr at q
  split at q
  · exact h _ q
  · exact q.elim
theorem g_ald_out {X : gX} {z : Bool} {g : gS} {p : Nat} {i : Int32} {f : Int32 → Prop} {P : Prop} (h : ∀ a, f a → P) (q : g_ald X z g p i f) : P := by
  unfold g_ald at q
  split at q
  · exact h _ q.2.2
  · split at q
    · exact h _ q.2.2.2
    · exact q.elim
theorem g_ast_out {z : Bool} {g : gS} {p : Nat} {i v : Int32} {f : gS → Prop} {P : Prop} (h : ∀ s, f (g.1, g.2.1, s) → P) (q : g_ast z g p i v f) : P := by
  unfold g_ast at q
  split at q
  · exact h _ q.2.2.2
  · exact q.elim
theorem g_obj_out {g : gS} {p c : Nat} {P Q : Prop} (h : P → Q) (q : g_obj g p c P) : Q := by
  unfold g_obj at q
  split at q
  · exact q.elim
  · exact h q.2.2
theorem g_call_le {m pc y : Nat} {A : List Value} {L : gLo} {r : List Value} {g : gS} {rr : gR} (q : g_call (fun _ _ _ _ g rr => g.1 ≤ rr.2.1) m pc y A L r g rr) : g.1 ≤ rr.2.1 := by
  obtain ⟨-, -, v, g1, h1, h2⟩ := q
  exact Nat.le_trans h1 h2
set_option maxHeartbeats 4000000 in
theorem g_do_le {X : gX} {m pc : Nat} {i : gI} {L : gLo} {st : List Value} {g : gS} {rr : gR} (q : g_do X (fun _ _ _ _ g rr => g.1 ≤ rr.2.1) m pc i L st g rr) : g.1 ≤ rr.2.1 := by
  obtain ⟨ins, a, b, z⟩ := i
  cases ins
  case iconst => exact q
  case bipush => exact q
  case sipush => exact q
  case ldc => exact q
  case ldc_w => exact q
  case goto => exact q
  case iload => exact g_li_out (fun _ k => k) q
  case iload_n => exact g_li_out (fun _ k => k) q
  case aload => exact g_lr_out (fun _ k => k) q
  case aload_n => exact g_lr_out (fun _ k => k) q
  case istore => exact g_s1_out (fun _ _ k => k.2) q
  case istore_n => exact g_s1_out (fun _ _ k => k.2) q
  case astore => exact g_sr_out (fun _ _ k => k.2) q
  case astore_n => exact g_sr_out (fun _ _ k => k.2) q
  case iinc => exact g_li_out (fun _ k => k.2) q
  case iadd => exact g_s2_out (fun _ _ _ k => k) q
  case isub => exact g_s2_out (fun _ _ _ k => k) q
  case imul => exact g_s2_out (fun _ _ _ k => k) q
  case iand => exact g_s2_out (fun _ _ _ k => k) q
  case ior => exact g_s2_out (fun _ _ _ k => k) q
  case ixor => exact g_s2_out (fun _ _ _ k => k) q
  case ishl => exact g_s2_out (fun _ _ _ k => k) q
  case ishr => exact g_s2_out (fun _ _ _ k => k) q
  case iushr => exact g_s2_out (fun _ _ _ k => k) q
  case idiv => exact g_s2_out (fun _ _ _ k => k.2) q
  case irem => exact g_s2_out (fun _ _ _ k => k.2) q
  case dup =>
    match st, q with
    | v :: r, q => exact q.2
  case pop =>
    match st, q with
    | v :: r, q => exact q.2
  case dup2 =>
    match st, q with
    | v :: w :: r, q => exact q.2.2
  case if_icmp c _ => exact g_s2_out (fun x y _ k => (Classical.em (g_ic c x y)).elim k.1 k.2) q
  case ifCond c _ => exact g_s1_out (fun x _ k => (Classical.em (g_ic c x 0)).elim k.1 k.2) q
  case tableswitch => exact g_s1_out (fun _ _ k => k) q
  case getfield => exact g_sr_out (fun _ _ => g_obj_out (fun k => k)) q
  case putfield =>
    match st, q with
    | .int v :: r, q => exact g_sr_out (fun _ _ => g_obj_out (fun k => k.2)) q
    | .ref v :: r, q => exact g_sr_out (fun _ _ => g_obj_out (fun k => k.2.2)) q
  case iaload => exact g_s1_out (fun _ _ => g_sr_out (fun _ _ => g_ald_out (fun _ k => k))) q
  case baload => exact g_s1_out (fun _ _ => g_sr_out (fun _ _ => g_ald_out (fun _ k => k))) q
  case iastore => exact g_s1_out (fun _ _ => g_s1_out (fun _ _ => g_sr_out (fun _ _ => g_ast_out (fun _ k => k)))) q
  case bastore => exact g_s1_out (fun _ _ => g_s1_out (fun _ _ => g_sr_out (fun _ _ => g_ast_out (fun _ k => k)))) q
  case arraylength =>
    refine g_sr_out (fun p r k => ?_) q
    by_cases hp : p = 1000
    · rw [if_pos hp] at k
      exact k
    · rw [if_neg hp] at k
      split at k
      · exact k.2
      · exact k.elim
  case new => exact Nat.le_trans (Nat.le_succ _) q.2.2.2.2
  case newarray => exact g_s1_out (fun _ _ k => Nat.le_trans (Nat.le_succ _) k.2.2.2.2.2.2) q
  case invokestatic =>
    simp only [g_do] at q
    split at q
    · exact g_s2_out (fun _ _ _ k => k.2) q
    · split at q
      · exact g_call_le q
      · exact q.elim
  case invokevirtual =>
    simp only [g_do] at q
    split at q
    · exact g_obj_out g_call_le q
    · exact q.elim
  case invokespecial =>
    simp only [g_do] at q
    split at q
    · split at q
      · exact q
      · exact q.elim
    · split at q
      · exact g_call_le q
      · exact q.elim
  case ireturn =>
    match st, q with
    | [.int v], q => rw [q.2]; exact Nat.le_refl _
  case return_ => rw [q.2]; exact Nat.le_refl _
  all_goals exact q.elim
theorem EvN_n {X : gX} : ∀ (n : Nat) {m pc : Nat} {L : gLo} {st : List Value} {g : gS} {rr : gR}, EvN X n m pc L st g rr → g.1 ≤ rr.2.1
  | 0, _, _, _, _, _, _, h => h.elim
  | n + 1, _, _, _, _, _, _, h => by
    obtain ⟨i, h1, h2⟩ := h
    exact g_do_le (g_do_mono (fun _ _ _ _ _ _ k => EvN_n n k) h2)
/-! contracts out of the goal -/
def g_rm (y : Nat) (mc ms : Nat) : Room := { frames := (g_meth y).2.2.2.2.2.1, cells := mc, slots := ms, locals := (g_meth y).2.2.2.2.2.2.1 }
def g_Pc (Dd : va_G) (cI cZ : ClassId) (b0 b : Nat) (X : gX) (A : List Value) (g : gS) : Array Value → State → Prop := va_Pc (A.map (g_cv b0 b)) (fun U => b ≤ U.heap.size ∧ g_En Dd cI cZ U ∧ g_WH Dd cI cZ b0 b X g U U.heap)
theorem g_Pc.blind {Dd : va_G} {cI cZ : ClassId} {b0 b : Nat} {X : gX} {A : List Value} {g : gS} : FrameBlind (g_Pc Dd cI cZ b0 b X A g) := by
  intro a U f mk h
  obtain ⟨h1, h2, h3, h4, h5, h6⟩ := h
  exact ⟨h1, h2, h3.same (U := U.calling f mk a) rfl, h4, h5, va_X.moved (u := U) (U := U.calling f mk a) (Vm.Alike.refl U.vm) h6⟩
theorem g_met {l : Launch} {Dd : va_G} {cI cZ : ClassId} {b0 b : Nat} {X : gX} {n : Nat} (IH : g_Goal l Dd cI cZ b0 b X n) {y : Nat} {A : List Value} {g g1 : gS} {v : Option Value} (hp : plainName (g_meth y).2.1.cls = true) (hcl : (g_meth y).2.1.cls = g_own y) (hA : A.length ≤ (g_meth y).2.2.2.1) (hc : (A.all fun v => v.category == 1) = true) (h : EvN X n y 0 (g_l0 y A) [] g (v, g1)) :
    Met l (g_meth y).2.1 (g_ws y) (g_rm y (g1.1 - g.1) (g_slots g1.1 - g_slots g.1)) (g_Pc Dd cI cZ b0 b X A g) (g_Q Dd cI cZ b0 b (v, g1)) (g1.1 - g.1) (g_slots g1.1 - g_slots g.1) (fun q => b ≤ q) := by
  refine Met.ofW (cc := (g_meth y).2.2.1) (maxL := (g_meth y).2.2.2.1) (ret := (g_meth y).2.2.2.2.1) hp rfl ?_
  intro p e s m args below meth c s₁ B hml hv
  obtain ⟨rfl, hbs, hE, hW⟩ := hv
  have hts := atoms_spec (ws := g_ws y) B.pre
  have hown : s.vm.findClass (g_own y) = some m.cls := by rw [← hcl]; exact findClass_of_methodNamed B.named
  have hname : (g_meth y).2.1.name = "<init>" → meth.name = "<init>" := fun q => by rw [← q]; exact (name_of_methodNamed B.named B.method).1
  have hn := EvN_n n h
  have hsl := g_slots_mono hn
  have hcat : ∀ v ∈ A, v.category = 1 := fun v hv => by have := List.all_eq_true.mp hc v hv; simpa using this
  rw [lg_entry_eq]
  exact IH y 0 (g_l0 y A) [] g (v, g1) h p e _ s m _ below meth c s.heap [] 0 0 _ _ _ ⟨⟨B.exec, B.bytes, B.returns, hml, hown⟩, fun w hw => hts w (List.mem_cons_of_mem _ hw), B.notSynchronized, hname, Nat.le_refl _, Nat.le_refl _, hE⟩ (g_LR.entry hcat hA) hW va_S.rf hbs ⟨by dsimp only at hn ⊢; omega, by dsimp only at hn hsl ⊢; omega, Nat.le_refl _, Nat.le_refl _⟩
theorem g_s1_inv {st : List Value} {f : Int32 → List Value → Prop} (k : g_s1 st f) : ∃ a r, st = .int a :: r ∧ f a r := by
  unfold g_s1 at k
  split at k
  · exact ⟨_, _, rfl, k⟩
  · exact k.elim
theorem g_sr_inv {st : List Value} {f : Nat → List Value → Prop} (k : g_sr st f) : ∃ (a : Nat) (r : List Value), st = .ref a :: r ∧ f a r := by
  unfold g_sr at k
  split at k
  · exact ⟨_, _, rfl, k⟩
  · exact k.elim
theorem g_s2_inv {st : List Value} {f : Int32 → Int32 → List Value → Prop} (k : g_s2 st f) : ∃ a b r, st = .int b :: .int a :: r ∧ f a b r := by
  obtain ⟨b, r, e, k⟩ := g_s1_inv k
  obtain ⟨a, r, e2, k⟩ := g_s1_inv k
  exact ⟨a, b, r, by rw [e, e2], k⟩
theorem g_li_inv {L : gLo} {k : Nat} {f : Int32 → Prop} (q : g_li L k f) : ∃ a, g_lg L k = some (.int a) ∧ f a := by
  unfold g_li at q
  split at q
  · next h => exact ⟨_, h, q⟩
  · exact q.elim
theorem g_lr_inv {L : gLo} {k : Nat} {f : Nat → Prop} (q : g_lr L k f) : ∃ a : Nat, g_lg L k = some (.ref a) ∧ f a := by
  unfold g_lr at q
  split at q
  · next h => exact ⟨_, h, q⟩
  · exact q.elim
theorem g_obj_inv {g : gS} {p c : Nat} {P : Prop} (q : g_obj g p c P) : g_shp p = .inr c ∧ p < g.1 ∧ P := by
  unfold g_obj at q
  split at q
  · exact q.elim
  · next h => exact ⟨by rw [h, q.1], q.2⟩
theorem g_ast_inv {z : Bool} {g : gS} {p : Nat} {i v : Int32} {f : gS → Prop} (q : g_ast z g p i v f) : ∃ n, g_shp p = .inl (z, n) ∧ p < g.1 ∧ vp_in i n ∧ f (g.1, g.2.1, g_up g.2.2 p i.toNatClampNeg v) := by
  unfold g_ast at q
  split at q
  · next w h =>
    obtain ⟨w1, w2⟩ := w
    obtain ⟨q1, q2⟩ := q
    dsimp only at q1 q2
    subst q1
    exact ⟨w2, h, q2⟩
  · exact q.elim
theorem g_ald_inv {X : gX} {z : Bool} {g : gS} {p : Nat} {i : Int32} {f : Int32 → Prop} (q : g_ald X z g p i f) : (p = 1000 ∧ z = false ∧ vp_in i X.1 ∧ f (X.2 i.toNatClampNeg)) ∨ (p ≠ 1000 ∧ ∃ n, g_shp p = .inl (z, n) ∧ p < g.1 ∧ vp_in i n ∧ f (g.2.2 p i.toNatClampNeg)) := by
  unfold g_ald at q
  split at q
  · next h => exact Or.inl ⟨h, q⟩
  · next hp =>
    split at q
    · next w h =>
      obtain ⟨w1, w2⟩ := w
      obtain ⟨q1, q2⟩ := q
      dsimp only at q1 q2
      subst q1
      exact Or.inr ⟨hp, w2, h, q2⟩
    · exact q.elim
theorem g_cv_ref {b0 b p : Nat} (h : p ≠ 1000) : g_cv b0 b (.ref p) = .ref (b + p) := by
  simp only [g_cv, if_neg h]
theorem g_pops_eq : ∀ (n : Nat) (st acc A r : List Value), g_pops n st acc = some (A, r) → A.length = n + acc.length ∧ A.reverse ++ r = acc.reverse ++ st
  | 0, st, acc, A, r, h => by
    simp only [g_pops, Option.some.injEq, Prod.mk.injEq] at h
    obtain ⟨rfl, rfl⟩ := h
    exact ⟨by omega, rfl⟩
  | n + 1, [], acc, A, r, h => by cases h
  | n + 1, v :: st, acc, A, r, h => by
    obtain ⟨h1, h2⟩ := g_pops_eq n st (v :: acc) A r h
    refine ⟨by rw [h1, List.length_cons]; omega, ?_⟩
    rw [h2]
    simp
section GSIM
variable {p : Program} {l : Launch} {e : Env} {R : Room} {s : State} {mm : MethodId} {args : Array Value} {below : List Frame} {meth : Method} {c : Code} {H : Heap} {locs : List Loc} {cells slots : Nat} {Q : State → Prop} {Dd : va_G} {cI cZ : ClassId} {b0 b : Nat} {X : gX}
theorem g_after {pc mc' ms' : Nat} {ls : Array Slot} {st0 rest : List Value} {v : Option Value} {g g1 : gS} {a' : Array Value} (hr : va_Run p l e R s mm args below meth c H locs cells slots mc' ms' (F0 mm pc ls st0) rest (g_Q Dd cI cZ b0 b (v, g1) a') (fun q => b ≤ q)) (hW : g_WH Dd cI cZ b0 b X g s H) (hS : va_S (fun q => b ≤ q) s.heap H locs) (hn : g.1 ≤ g1.1) (hbs : b ≤ s.heap.size)
    (kk : ∀ (H1 : Heap) (locs1 : List Loc), g_WH Dd cI cZ b0 b X g1 s H1 → va_S (fun q => b ≤ q) s.heap H1 locs1 → W p l e R s mm args below meth c H1 locs1 (cells + mc') (slots + ms') Q (F0 mm (pc + 3) ls ((v.map (g_cv b0 b)).toList ++ rest))) : W p l e R s mm args below meth c H locs cells slots Q (F0 mm pc ls st0) := by
  intro T hT X'
  obtain ⟨w, st₀, t, T', Lc, h0, X1, hL, e1, e2, ⟨hq1, hq2, hq3⟩, st⟩ := hr T hT X'
  have hw : w = v.map (g_cv b0 b) := Outcome.returned.inj hq1
  subst hw
  have hz : T'.heap.size = b + g1.1 := by rw [e1]; exact hq2.1
  have hz0 : H.size = b + g.1 := hW.1.1
  obtain ⟨t2, a1, b1⟩ := kk T'.heap (locs ++ Lc) ⟨by rw [e1]; exact hq2, hW.2.1, g_X.kept hW.2.1 hW.2.2 (fun q hq => by rw [e1, hq3 q hq, h0])⟩
    ⟨by have := hS.1; omega, fun q h1 h2 => by rw [e1, hq3 q (by omega), h0]; exact hS.2.1 q h1 h2, fun q hq => by
      rcases List.mem_append.mp hq with h | h
      · exact hS.2.2 q h
      · exact hL q h⟩ T' rfl X1
  exact ⟨t2, st t2 a1, b1⟩
/-- the callee's contract, its words, its start: for all kinds of call -/
theorem g_pre {A : List Value} {g : gS} (hEn : g_En Dd cI cZ s) (hW : g_WH Dd cI cZ b0 b X g s H) : ∀ U : State, U.heap = H → s.WarmedH U.vm → g_Pc Dd cI cZ b0 b X A g (A.map (g_cv b0 b)).toArray U := by
  intro U hU hWm
  refine ⟨rfl, ?_, hEn.warm hWm, ?_, hW.2.1, ?_⟩
  · rw [hU, hW.1.1]; omega
  · rw [hU]; exact hW.1
  · rw [hU]; exact va_X.moved hWm.alike hW.2.2
end GSIM
theorem g_push_map (b0 b : Nat) (v : Option Value) (r : List Value) : (g_push v r).map (g_cv b0 b) = (v.map (g_cv b0 b)).toList ++ r.map (g_cv b0 b) := by cases v <;> rfl
theorem g_cls_nm {c : Nat} {q : vw_C} (h : g_cls[c]? = some q) : q.1 = g_nm c := by
  match c, h with
  | 0, h => cases h; rfl
  | 1, h => cases h; rfl
  | 2, h => cases h; rfl
  | 3, h => cases h; rfl
  | 4, h => cases h; rfl
  | c + 5, h => simp [g_cls] at h
section GSIN
variable {p : Program} {l : Launch} {e : Env} {R : Room} {s : State} {mm : MethodId} {args : Array Value} {below : List Frame} {meth : Method} {c : Code} {H : Heap} {locs : List Loc} {cells slots mc ms : Nat} {Q : State → Prop} {Dd : va_G} {cI cZ : ClassId} {b0 b : Nat} {X : gX} {n m pc : Nat} {L : gLo} {ls : Array Slot} {g : gS} {rr : gR}
theorem g_cont (IH : g_Goal l Dd cI cZ b0 b X n) {r st0 : List Value} {v : Option Value} {g1 : gS} {a' : Array Value} (h4 : EvN X n m (pc + 3) L (g_push v r) g1 rr) (hn : g.1 ≤ g1.1) (hC : g_Cx Dd cI cZ p R s mm args meth c m) (hL : g_LR b0 b ls (g_meth m).2.2.2.1 L) (hW : g_WH Dd cI cZ b0 b X g s H) (hS : va_S (fun q => b ≤ q) s.heap H locs) (hbs : b ≤ s.heap.size)
    (hR : cells + rr.2.1 = mc + g.1 ∧ slots + g_slots rr.2.1 = ms + g_slots g.1 ∧ mc ≤ R.cells ∧ ms ≤ R.slots)
    (hr : cells + (g1.1 - g.1) ≤ R.cells ∧ slots + (g_slots g1.1 - g_slots g.1) ≤ R.slots → va_Run p l e R s mm args below meth c H locs cells slots (g1.1 - g.1) (g_slots g1.1 - g_slots g.1) (F0 mm pc ls st0) (r.map (g_cv b0 b)) (g_Q Dd cI cZ b0 b (v, g1) a') (fun q => b ≤ q)) :
    W p l e R s mm args below meth c H locs cells slots (MQ below (g_Q Dd cI cZ b0 b rr) args s mc ms (fun q => b ≤ q)) (F0 mm pc ls st0) := by
  have hn2 := EvN_n n h4
  have hs1 := g_slots_mono hn
  have hs2 := g_slots_mono hn2
  obtain ⟨r1, r2, r3, r4⟩ := hR
  refine g_after (hr ⟨by omega, by omega⟩) hW hS hn hbs (fun H1 locs1 hW1 hS1 => ?_)
  have := IH m (pc + 3) L (g_push v r) g1 rr h4 p e R s mm args below meth c H1 locs1 (cells + (g1.1 - g.1)) (slots + (g_slots g1.1 - g_slots g.1)) mc ms ls hC hL hW1 hS1 hbs ⟨by omega, by omega, r3, r4⟩
  rw [g_push_map] at this
  exact this
/-- what a link's words say -/
theorem g_lk_words {k y cn kd p1 p2 p3 p4 p5 : Nat} (h : (k, y, cn, kd, p1, p2, p3, p4, p5) ∈ g_lk) : g_okL (k, y, cn, kd, p1, p2, p3, p4, p5) = true := g_lk_ok _ h
theorem g_runV (IH : g_Goal l Dd cI cZ b0 b X n) (hC : g_Cx Dd cI cZ p R s mm args meth c m) (hL : g_LR b0 b ls (g_meth m).2.2.2.1 L) (hW : g_WH Dd cI cZ b0 b X g s H) {k y q : Nat} {A r st : List Value} {v : Option Value} {g1 : gS}
    (hlk : g_lk.any (fun q => decide (q.1 = k) && decide (q.2.1 = y) && decide (q.2.2.1 = (g_meth m).1) && decide (q.2.2.2.1 = 0)) = true) (hnb : A.length = (g_meth y).2.2.2.2.2.2.2) (hf1 : (g_meth y).2.2.2.2.2.1 + 1 ≤ (g_meth m).2.2.2.2.2.1) (hf2 : 8 + ((g_meth y).2.2.2.1 + 11) + (g_meth y).2.2.2.2.2.2.1 ≤ (g_meth m).2.2.2.2.2.2.1)
    (hdg : decode (g_meth m).2.2.1 pc = .ok (.invokevirtual k, 3)) (hst : (Value.ref q :: A).reverse ++ r = st) (ho : g_shp q = .inr (g_meth y).1) (hq : q < g.1) (hcat : (r.map fun v => v.category).sum ≤ 8) (hA : (Value.ref q :: A).length ≤ (g_meth y).2.2.2.1) (hAc : ((Value.ref q :: A).all fun v => v.category == 1) = true) (h3 : EvN X n y 0 (g_l0 y (.ref q :: A)) [] g (v, g1))
    (hf : cells + (g1.1 - g.1) ≤ R.cells ∧ slots + (g_slots g1.1 - g_slots g.1) ≤ R.slots) :
    ∃ a', va_Run p l e R s mm args below meth c H locs cells slots (g1.1 - g.1) (g_slots g1.1 - g_slots g.1) (F0 mm pc ls (st.map (g_cv b0 b))) (r.map (g_cv b0 b)) (g_Q Dd cI cZ b0 b (v, g1) a') (fun q => b ≤ q) := by
  obtain ⟨⟨hx, hb, hret, hml, hown⟩, hts, hlocks, hname, hfr, hlo, hEn⟩ := hC
  obtain ⟨⟨k', y', cn, kd, p1, p2, p3, p4, p5⟩, hmem, hh⟩ := List.any_eq_true.mp hlk
  simp only [Bool.and_eq_true, decide_eq_true_eq] at hh
  obtain ⟨⟨⟨rfl, rfl⟩, rfl⟩, rfl⟩ := hh
  have hw := g_lk_ok _ hmem
  simp only [g_okL, Bool.and_eq_true, decide_eq_true_eq] at hw
  obtain ⟨⟨⟨⟨⟨⟨⟨w1, w2⟩, w3⟩, w4⟩, w5⟩, w6⟩, w7⟩, ⟨w8, w9⟩, w10⟩ := hw
  have hq1000 : q ≠ 1000 := by have := hW.1.2.1; omega
  have hM := g_met IH (y := y') (A := .ref q :: A) w6 w1 hA hAc h3
  have hpl := hW.1.2.2 q hq
  unfold g_pl at hpl
  rw [ho] at hpl
  obtain ⟨rc, hrc, cell, hc1, hc2, hc3, hc4⟩ := hpl
  have hkn := (hEn.1.1 _ _ hrc).2.1
  refine ⟨_, va_runV (As := A.map (g_cv b0 b)) (rest := r.map (g_cv b0 b)) (b := b + q) (C := (g_meth y').2.1.cls) ⟨hx, hb, hml, hown, hts⟩ hM
    ⟨callB_of (g_meth y').2.2.2.2.2.2.2 hts (g_good (g_memT w2)) rfl rfl rfl (hts _ (g_memT w3)) (hts _ (g_memT w8)) ⟨w4, w5, w7⟩ ⟨Nat.le_trans hf1 hfr, Nat.le_trans hf2 hlo⟩, hts _ (g_memT w9), hts _ (g_memT w10)⟩
    ⟨g_Pc.blind, ⟨cell, hc1, by rw [hc3]; rfl, by rw [w1, ← g_cls_nm hrc, hc2]; exact hkn⟩, ?_⟩ rfl (by rw [List.length_map]; exact hnb) hL.1.1 ?_ ?_ hdg hf⟩
  · have := g_pre (A := .ref q :: A) hEn hW
    rw [List.map_cons, g_cv_ref hq1000] at this
    exact this
  · rw [← hst]
    simp [g_cv_ref hq1000]
  · refine lv_room ?_
    rw [List.map_map]
    have : ((fun v => v.category) ∘ g_cv b0 b) = fun v : Value => v.category := funext fun v => g_cv_cat b0 b v
    rw [this]
    exact hcat
theorem g_runS (IH : g_Goal l Dd cI cZ b0 b X n) (hC : g_Cx Dd cI cZ p R s mm args meth c m) (hL : g_LR b0 b ls (g_meth m).2.2.2.1 L) (hW : g_WH Dd cI cZ b0 b X g s H) {k y : Nat} {A r st : List Value} {v : Option Value} {g1 : gS}
    (hlk : g_lk.any (fun q => decide (q.1 = k) && decide (q.2.1 = y) && decide (q.2.2.1 = (g_meth m).1) && (decide (q.2.2.2.1 = 1) || decide (q.2.2.2.1 = 2))) = true) (hnb : A.length = (g_meth y).2.2.2.2.2.2.2) (hf1 : (g_meth y).2.2.2.2.2.1 + 1 ≤ (g_meth m).2.2.2.2.2.1) (hf2 : 8 + ((g_meth y).2.2.2.1 + 11) + (g_meth y).2.2.2.2.2.2.1 ≤ (g_meth m).2.2.2.2.2.2.1)
    (hdg : decode (g_meth m).2.2.1 pc = .ok (.invokestatic k, 3)) (hst : A.reverse ++ r = st) (hcat : (r.map fun v => v.category).sum ≤ 8) (hA : A.length ≤ (g_meth y).2.2.2.1) (hAc : (A.all fun v => v.category == 1) = true) (h3 : EvN X n y 0 (g_l0 y A) [] g (v, g1))
    (hf : cells + (g1.1 - g.1) ≤ R.cells ∧ slots + (g_slots g1.1 - g_slots g.1) ≤ R.slots) :
    ∃ a', va_Run p l e R s mm args below meth c H locs cells slots (g1.1 - g.1) (g_slots g1.1 - g_slots g.1) (F0 mm pc ls (st.map (g_cv b0 b))) (r.map (g_cv b0 b)) (g_Q Dd cI cZ b0 b (v, g1) a') (fun q => b ≤ q) := by
  obtain ⟨⟨hx, hb, hret, hml, hown⟩, hts, hlocks, hname, hfr, hlo, hEn⟩ := hC
  obtain ⟨⟨k', y', cn, kd, p1, p2, p3, p4, p5⟩, hmem, hh⟩ := List.any_eq_true.mp hlk
  simp only [Bool.and_eq_true, Bool.or_eq_true, decide_eq_true_eq] at hh
  obtain ⟨⟨⟨rfl, rfl⟩, rfl⟩, hkd⟩ := hh
  have hw := g_lk_ok _ hmem
  have hroom : 2 * (F0 mm pc ls (st.map (g_cv b0 b))).monitorRoom + ((r.map (g_cv b0 b)).map fun v => v.category).sum ≤ 8 := by
    refine lv_room ?_
    rw [List.map_map]
    have : ((fun v => v.category) ∘ g_cv b0 b) = fun v : Value => v.category := funext fun v => g_cv_cat b0 b v
    rw [this]
    exact hcat
  rcases hkd with rfl | rfl
  · simp only [g_okL, Bool.and_eq_true, decide_eq_true_eq] at hw
    obtain ⟨⟨⟨⟨⟨⟨⟨w1, w2⟩, w3⟩, w4⟩, w5⟩, w6⟩, w7⟩, w8, w9⟩ := hw
    have hM := g_met IH (y := y') (A := A) w6 w1 hA hAc h3
    exact ⟨_, va_runS (As := A.map (g_cv b0 b)) (rest := r.map (g_cv b0 b)) ⟨hx, hb, hml, hown, hts⟩ hM
      ⟨callB_of (g_meth y').2.2.2.2.2.2.2 hts (g_good (g_memT w2)) rfl rfl rfl (hts _ (g_memT w3)) (hts _ (g_memT w8)) ⟨w4, w5, w7⟩ ⟨Nat.le_trans hf1 hfr, Nat.le_trans hf2 hlo⟩, hts _ (g_memT w9)⟩
      ⟨g_Pc.blind, g_pre hEn hW⟩ rfl (by rw [List.length_map]; exact hnb) hL.1.1 (by rw [← hst]; simp) hroom hdg hf⟩
  · simp only [g_okL, Bool.and_eq_true, decide_eq_true_eq] at hw
    obtain ⟨⟨⟨⟨⟨⟨⟨w1, w2⟩, w3⟩, w4⟩, w5⟩, w6⟩, w7⟩, w8, w9⟩ := hw
    have hM := g_met IH (y := y') (A := A) w6 w1 hA hAc h3
    have hg := g_good (g_memT w2)
    have hcb := va_cnB (R := R) (rm := g_rm y' (g1.1 - g.1) (g_slots g1.1 - g_slots g.1)) (g_meth y').2.2.2.2.2.2.2 hts hg rfl rfl rfl (hEn.2 _ w8) (hts _ (g_memT w3)) ⟨w4, w5, w7⟩ ⟨Nat.le_trans hf1 hfr, Nat.le_trans hf2 hlo⟩
    exact ⟨_, va_runSN (As := A.map (g_cv b0 b)) (rest := r.map (g_cv b0 b)) ⟨hx, hb, hml, hown, hts⟩ hM
      ⟨hcb, hts _ (g_memT w9), trivial⟩
      ⟨g_Pc.blind, g_pre hEn hW⟩ rfl (by rw [List.length_map]; exact hnb) hL.1.1 (by rw [← hst]; simp) hroom hdg hf⟩
theorem g_runI (IH : g_Goal l Dd cI cZ b0 b X n) (hC : g_Cx Dd cI cZ p R s mm args meth c m) (hL : g_LR b0 b ls (g_meth m).2.2.2.1 L) (hW : g_WH Dd cI cZ b0 b X g s H) {k y q : Nat} {A r st : List Value} {v : Option Value} {g1 : gS}
    (hlk : g_lk.any (fun q => decide (q.1 = k) && decide (q.2.1 = y) && decide (q.2.2.1 = (g_meth m).1) && (decide (q.2.2.2.1 = 3) || decide (q.2.2.2.1 = 4))) = true) (hnb : A.length = (g_meth y).2.2.2.2.2.2.2) (hf1 : (g_meth y).2.2.2.2.2.1 + 1 ≤ (g_meth m).2.2.2.2.2.1) (hf2 : 8 + ((g_meth y).2.2.2.1 + 11) + (g_meth y).2.2.2.2.2.2.1 ≤ (g_meth m).2.2.2.2.2.2.1)
    (hdg : decode (g_meth m).2.2.1 pc = .ok (.invokespecial k, 3)) (hst : (Value.ref q :: A).reverse ++ r = st) (hcat : (r.map fun v => v.category).sum ≤ 8) (hA : (Value.ref q :: A).length ≤ (g_meth y).2.2.2.1) (hAc : ((Value.ref q :: A).all fun v => v.category == 1) = true) (h3 : EvN X n y 0 (g_l0 y (.ref q :: A)) [] g (v, g1))
    (hf : cells + (g1.1 - g.1) ≤ R.cells ∧ slots + (g_slots g1.1 - g_slots g.1) ≤ R.slots) :
    ∃ a', va_Run p l e R s mm args below meth c H locs cells slots (g1.1 - g.1) (g_slots g1.1 - g_slots g.1) (F0 mm pc ls (st.map (g_cv b0 b))) (r.map (g_cv b0 b)) (g_Q Dd cI cZ b0 b (v, g1) a') (fun q => b ≤ q) := by
  obtain ⟨⟨hx, hb, hret, hml, hown⟩, hts, hlocks, hname, hfr, hlo, hEn⟩ := hC
  obtain ⟨⟨k', y', cn, kd, p1, p2, p3, p4, p5⟩, hmem, hh⟩ := List.any_eq_true.mp hlk
  simp only [Bool.and_eq_true, Bool.or_eq_true, decide_eq_true_eq] at hh
  obtain ⟨⟨⟨rfl, rfl⟩, rfl⟩, hkd⟩ := hh
  have hw := g_lk_ok _ hmem
  have hroom : 2 * (F0 mm pc ls (st.map (g_cv b0 b))).monitorRoom + ((r.map (g_cv b0 b)).map fun v => v.category).sum ≤ 8 := by
    refine lv_room ?_
    rw [List.map_map]
    have : ((fun v => v.category) ∘ g_cv b0 b) = fun v : Value => v.category := funext fun v => g_cv_cat b0 b v
    rw [this]
    exact hcat
  have hpre := g_pre (A := .ref q :: A) hEn hW
  rw [List.map_cons, show g_cv b0 b (.ref q) = .ref (if q = 1000 then b0 else b + q) from rfl] at hpre
  have hstk : st.map (g_cv b0 b) = (A.map (g_cv b0 b)).reverse ++ Value.ref (if q = 1000 then b0 else b + q) :: r.map (g_cv b0 b) := by
    rw [← hst]
    simp [g_cv]
  rcases hkd with rfl | rfl
  · simp only [g_okL, Bool.and_eq_true, decide_eq_true_eq] at hw
    obtain ⟨⟨⟨⟨⟨⟨⟨w1, w2⟩, w3⟩, w4⟩, w5⟩, w6⟩, w7⟩, ⟨⟨w8, w9⟩, w10⟩, w11⟩ := hw
    have hM := g_met IH (y := y') (A := .ref q :: A) w6 w1 hA hAc h3
    have hg := g_good (g_memT w2)
    have hcb := callB_of (R := R) (rm := g_rm y' (g1.1 - g.1) (g_slots g1.1 - g_slots g.1)) (g_meth y').2.2.2.2.2.2.2 hts hg rfl rfl rfl (hts _ (g_memT w3)) (hts _ (g_memT w8)) ⟨w4, w5, w7⟩ ⟨Nat.le_trans hf1 hfr, Nat.le_trans hf2 hlo⟩
    rw [w11] at hcb
    exact ⟨_, va_runI (As := A.map (g_cv b0 b)) (rest := r.map (g_cv b0 b)) (b := if q = 1000 then b0 else b + q) ⟨hx, hb, hml, hown, hts⟩ hM
      ⟨hcb, w10, hts _ (g_memT w9)⟩
      ⟨g_Pc.blind, hpre⟩ rfl (by rw [List.length_map]; exact hnb) hL.1.1 hstk hroom hdg hf⟩
  · simp only [g_okL, Bool.and_eq_true, decide_eq_true_eq] at hw
    obtain ⟨⟨⟨⟨⟨⟨⟨w1, w2⟩, w3⟩, w4⟩, w5⟩, w6⟩, w7⟩, ⟨⟨w8, w9⟩, w10⟩, w11⟩ := hw
    have hM := g_met IH (y := y') (A := .ref q :: A) w6 w1 hA hAc h3
    have hg := g_good (g_memT w2)
    have hcb := va_cnB (R := R) (rm := g_rm y' (g1.1 - g.1) (g_slots g1.1 - g_slots g.1)) (g_meth y').2.2.2.2.2.2.2 hts hg rfl rfl rfl (hEn.2 _ w8) (hts _ (g_memT w3)) ⟨w4, w5, w7⟩ ⟨Nat.le_trans hf1 hfr, Nat.le_trans hf2 hlo⟩
    rw [w11] at hcb
    exact ⟨_, va_runIN (As := A.map (g_cv b0 b)) (rest := r.map (g_cv b0 b)) (b := if q = 1000 then b0 else b + q) ⟨hx, hb, hml, hown, hts⟩ hM
      ⟨hcb, w10, hts _ (g_memT w9)⟩
      ⟨g_Pc.blind, hpre⟩ rfl (by rw [List.length_map]; exact hnb) hL.1.1 hstk hroom hdg hf⟩
end GSIN
end
section
def g_rtI (m : Nat) (i : Instr) : Bool := match i with
  | .ireturn => decide ((g_meth m).2.2.2.2.1 = some .int) || decide ((g_meth m).2.2.2.2.1 = some .boolean)
  | .return_ => decide ((g_meth m).2.2.2.2.1 = none)
  | _ => true
theorem g_rt_ok : ∀ m, m < 150 → ((g_code m).all fun e => g_rtI m e.2.1) = true := by decide +kernel
theorem g_rt_at {m pc : Nat} {i : gI} (h : g_at m pc = some i) : g_rtI m i.1 = true := by
  have hm := g_look_mem _ h
  by_cases hlt : m < 150
  · exact List.all_eq_true.mp (g_rt_ok m hlt) _ hm
  · have : g_code m = [] := by
      obtain ⟨k, rfl⟩ : ∃ k, m = k + 150 := ⟨m - 150, by omega⟩
      rfl
    rw [this] at hm
    cases hm
theorem g_any_fl {k a b cn : Nat} (h : g_fl.any (fun q => decide (q.1 = k) && decide (q.2.1 = a) && decide (q.2.2.1 = b) && decide (q.2.2.2.1 = cn)) = true) : ∃ q, g_cls[a]? = some q ∧ b < q.2.2 ∧ Jvm.Cond.fieldLink (g_nm cn) k (q.2.1 b).1 (q.2.1 b).2.1 (q.2.1 b).2.2.1 ∈ g_tbl := by
  obtain ⟨⟨k', a', b', cn', pl⟩, hq, hh⟩ := List.any_eq_true.mp h
  simp only [Bool.and_eq_true, decide_eq_true_eq] at hh
  obtain ⟨⟨⟨rfl, rfl⟩, rfl⟩, rfl⟩ := hh
  have h1 := g_fl_ok _ hq
  unfold g_okF at h1
  dsimp only at h1
  split at h1
  · next q hq' =>
    simp only [Bool.and_eq_true, decide_eq_true_eq] at h1
    exact ⟨q, hq', h1.1, g_memT h1.2⟩
  · cases h1
theorem g_any_cs {k cn : Nat} {z : Int32} (h : g_cs.any (fun q => decide (q.1 = k) && decide (q.2.1 = z) && decide (q.2.2.1 = cn)) = true) : Jvm.Cond.constant (g_nm cn) k z ∈ g_tbl := by
  obtain ⟨⟨k', z', cn', pl⟩, hq, hh⟩ := List.any_eq_true.mp h
  simp only [Bool.and_eq_true, decide_eq_true_eq] at hh
  obtain ⟨⟨rfl, rfl⟩, rfl⟩ := hh
  exact g_memT (g_cs_ok _ hq)
theorem g_any_ob {k cn : Nat} (h : g_ob.any (fun q => decide (q.1 = k) && decide (q.2.1 = cn)) = true) : Jvm.Cond.methodLink (g_nm cn) k objectInit ∈ g_tbl := by
  obtain ⟨⟨k', cn', pl⟩, hq, hh⟩ := List.any_eq_true.mp h
  simp only [Bool.and_eq_true, decide_eq_true_eq] at hh
  obtain ⟨rfl, rfl⟩ := hh
  exact g_memT (g_ob_ok _ hq)
theorem g_any_mx {k cn : Nat} (h : g_mx.any (fun q => decide (q.1 = k) && decide (q.2.1 = cn)) = true) : Jvm.Cond.methodLink (g_nm cn) k Lib.Math.max.name ∈ g_tbl := by
  obtain ⟨⟨k', cn', pl⟩, hq, hh⟩ := List.any_eq_true.mp h
  simp only [Bool.and_eq_true, decide_eq_true_eq] at hh
  obtain ⟨rfl, rfl⟩ := hh
  exact g_memT (g_mx_ok _ hq)
theorem g_any_nw {k a cn : Nat} (h : g_nw.any (fun q => decide (q.1 = k) && decide (q.2.1 = a) && decide (q.2.2.1 = cn)) = true) : ∃ q, g_cls[a]? = some q ∧ Jvm.Cond.classLink (g_nm cn) k q.1 ∈ g_tbl ∧ Jvm.Cond.instantiable q.1 q.2.2 ∈ g_tbl ∧ Jvm.Cond.initialized q.1 ∈ g_tbl := by
  obtain ⟨⟨k', a', cn', p1, p2, p3⟩, hq, hh⟩ := List.any_eq_true.mp h
  simp only [Bool.and_eq_true, decide_eq_true_eq] at hh
  obtain ⟨⟨rfl, rfl⟩, rfl⟩ := hh
  have h1 := g_nw_ok _ hq
  unfold g_okN at h1
  dsimp only at h1
  split at h1
  · next q hq' =>
    simp only [Bool.and_eq_true] at h1
    exact ⟨q, hq', g_memT h1.1.1, g_memT h1.1.2, g_memT h1.2⟩
  · cases h1
theorem g_cat_map (b0 b : Nat) (r : List Value) : ((r.map (g_cv b0 b)).map fun v => v.category) = r.map fun v => v.category := by
  rw [List.map_map]
  exact congrArg (fun f => List.map f r) (funext fun v => g_cv_cat b0 b v)
theorem g_isR_int {c k : Nat} (h : g_isR c k = false) : g_tyf c k = .int := by
  unfold g_isR at h
  split at h
  · assumption
  · cases h
theorem g_fits_ref {c : Nat} {q : vw_C} (hc : g_cls[c]? = some q) {k : Nat} (hk : k < q.2.2) (h : g_isR c k = true) (a : Nat) : narrow (g_tyf c k) (.ref a) = .ref a ∧ fits (g_tyf c k) (.ref a) = true := by
  have h0 : ∀ t : FieldType, narrow t (.ref a) = .ref a := fun t => by cases t <;> rfl
  refine ⟨h0 _, ?_⟩
  have key : ∀ c, c < 5 → ∀ k, k < 25 → g_isR c k = true → (match g_tyf c k with
    | .object _ => true
    | .array _ => true
    | _ => false) = true := by decide +kernel
  have hc5 : c < 5 := by
    have := (List.getElem?_eq_some_iff.mp hc).1
    exact this
  have hk25 : k < 25 := by
    match c, hc with
    | 0, hc => cases hc; exact Nat.lt_of_lt_of_le hk (by decide)
    | 1, hc => cases hc; exact Nat.lt_of_lt_of_le hk (by decide)
    | 2, hc => cases hc; exact Nat.lt_of_lt_of_le hk (by decide)
    | 3, hc => cases hc; exact Nat.lt_of_lt_of_le hk (by decide)
    | 4, hc => cases hc; exact Nat.lt_of_lt_of_le hk (by decide)
    | c + 5, hc => omega
  have h1 := key c hc5 k hk25 h
  cases ht : g_tyf c k <;> rw [ht] at h1 <;> first | rfl | cases h1
set_option maxHeartbeats 8000000 in
theorem g_sim (l : Launch) (Dd : va_G) (cI cZ : ClassId) (b0 b : Nat) (X : gX) : ∀ n, g_Goal l Dd cI cZ b0 b X n
  | 0 => fun _ _ _ _ _ _ h => h.elim
  | n + 1 => by
    have IH := g_sim l Dd cI cZ b0 b X n
    intro m pc L st g rr hE p e R s mm args below meth c H locs cells slots mc ms ls hC hL hW hS hbs hR
    obtain ⟨i, hat, hdo⟩ := hE
    have hok := g_okA hat
    have hC0 := hC
    obtain ⟨⟨hx, hb, hret, hml, hown⟩, hts, hlocks, hname, hfr, hlo, hEn⟩ := hC
    have go : ∀ (pc' : Nat) (L' : gLo) (st' : List Value) (ls' : Array Slot), EvN X n m pc' L' st' g rr → g_LR b0 b ls' (g_meth m).2.2.2.1 L' → W p l e R s mm args below meth c H locs cells slots (MQ below (g_Q Dd cI cZ b0 b rr) args s mc ms (fun q => b ≤ q)) (F0 mm pc' ls' (st'.map (g_cv b0 b))) :=
      fun pc' L' st' ls' h hl => IH m pc' L' st' g rr h p e R s mm args below meth c H locs cells slots mc ms ls' hC0 hl hW hS hbs hR
    have goW : ∀ (pc' : Nat) (st' : List Value) (g' : gS) (H' : Heap) (locs' : List Loc), EvN X n m pc' L st' g' rr → g'.1 = g.1 → g_WP Dd cI cZ b0 b g' H' → H'.size = H.size → (∀ q, q < b → H'[q]? = H[q]?) → (∀ q ∈ locs', q ∈ locs ∨ b ≤ q.base) → W p l e R s mm args below meth c H' locs' cells slots (MQ below (g_Q Dd cI cZ b0 b rr) args s mc ms (fun q => b ≤ q)) (F0 mm pc' ls (st'.map (g_cv b0 b))) := by
      intro pc' st' g' H' locs' h hg hP hz ho hl
      refine IH m pc' L st' g' rr h p e R s mm args below meth c H' locs' cells slots mc ms ls hC0 hL ⟨hP, hW.2.1, g_X.kept hW.2.1 hW.2.2 ho⟩ ⟨by rw [hz]; exact hS.1, fun q h1 h2 => by rw [ho q (by omega)]; exact hS.2.1 q h1 h2, fun q hq => ?_⟩ hbs (by rw [hg]; exact hR)
      rcases hl q hq with h1 | h1
      · exact hS.2.2 q h1
      · exact h1
    obtain ⟨ins, a, bb, z⟩ := i
    cases ins
    case iconst v =>
      simp only [g_okI, Bool.and_eq_true, decide_eq_true_eq] at hok
      exact lv_iconst hx hb hok.1 hok.2 (go _ _ _ _ hdo hL)
    case bipush v =>
      simp only [g_okI, Bool.and_eq_true, decide_eq_true_eq] at hok
      exact lv_bipush hx hb hok.1 hok.2 (go _ _ _ _ hdo hL)
    case sipush v =>
      simp only [g_okI, Bool.and_eq_true, decide_eq_true_eq] at hok
      exact lv_sipush hx hb hok.1 hok.2 (go _ _ _ _ hdo hL)
    case ldc v =>
      simp only [g_okI, Bool.and_eq_true, decide_eq_true_eq] at hok
      exact lv_ldc hx hb hown (hts _ (g_any_cs hok.2)) hok.1 (go _ _ _ _ hdo hL)
    case ldc_w v =>
      simp only [g_okI, Bool.and_eq_true, decide_eq_true_eq] at hok
      exact lv_ldcw hx hb hown (hts _ (g_any_cs hok.2)) hok.1 (go _ _ _ _ hdo hL)
    case iload k =>
      simp only [g_okI, decide_eq_true_eq] at hok
      obtain ⟨v, h1, h2⟩ := g_li_inv hdo
      exact lv_iload hx hb hok (hL.get h1) (go _ _ _ _ h2 hL)
    case iload_n k =>
      simp only [g_okI, decide_eq_true_eq] at hok
      obtain ⟨v, h1, h2⟩ := g_li_inv hdo
      exact lv_iload_n hx hb hok rfl (hL.get h1) (go _ _ _ _ h2 hL)
    case aload k =>
      simp only [g_okI, decide_eq_true_eq] at hok
      obtain ⟨v, h1, h2⟩ := g_lr_inv hdo
      exact lv_aload hx hb hok (hL.get h1) (go _ _ _ _ h2 hL)
    case aload_n k =>
      simp only [g_okI, decide_eq_true_eq] at hok
      obtain ⟨v, h1, h2⟩ := g_lr_inv hdo
      exact lv_aload_n hx hb hok rfl (hL.get h1) (go _ _ _ _ h2 hL)
    case istore k =>
      simp only [g_okI, decide_eq_true_eq] at hok
      obtain ⟨v, r, rfl, h1, h2⟩ := g_s1_inv hdo
      exact lv_istore hx hb hok hL.1 (by rw [← hL.2.1]; exact h1) rfl (fun ls' h' => go _ _ _ _ h2 (hL.set (v := .int v) rfl h'))
    case istore_n k =>
      simp only [g_okI, decide_eq_true_eq] at hok
      obtain ⟨v, r, rfl, h1, h2⟩ := g_s1_inv hdo
      exact lv_istore_n hx hb hok rfl hL.1 (by rw [← hL.2.1]; exact h1) rfl (fun ls' h' => go _ _ _ _ h2 (hL.set (v := .int v) rfl h'))
    case astore k =>
      simp only [g_okI, decide_eq_true_eq] at hok
      obtain ⟨v, r, rfl, h1, h2⟩ := g_sr_inv hdo
      exact lv_astore hx hb hok hL.1 (by rw [← hL.2.1]; exact h1) rfl (fun ls' h' => go _ _ _ _ h2 (hL.set (v := .ref v) rfl h'))
    case astore_n k =>
      simp only [g_okI, decide_eq_true_eq] at hok
      obtain ⟨v, r, rfl, h1, h2⟩ := g_sr_inv hdo
      exact lv_astore_n hx hb hok rfl hL.1 (by rw [← hL.2.1]; exact h1) rfl (fun ls' h' => go _ _ _ _ h2 (hL.set (v := .ref v) rfl h'))
    case iinc k v =>
      simp only [g_okI, Bool.and_eq_true, decide_eq_true_eq] at hok
      obtain ⟨w, h1, h2, h3⟩ := g_li_inv hdo
      obtain ⟨j, hj⟩ := List.getElem?_of_mem ((g_ll_mem (b0 := b0) (b := b) (j := k) L 0).mpr ⟨k, .int w, by omega, h1, rfl⟩)
      exact lv_iinc (v := w + z) hx hb hok.1 hL.1 hj (by rw [hok.2]) (by rw [← hL.2.1]; exact h2) rfl (fun ls' h' => go _ _ _ _ h3 (hL.set (v := .int (w + z)) rfl h'))
    case iadd =>
      simp only [g_okI, decide_eq_true_eq] at hok
      obtain ⟨v, w, r, rfl, h⟩ := g_s2_inv hdo
      exact lv_iadd hx hb hok (go _ _ _ _ h hL)
    case isub =>
      simp only [g_okI, decide_eq_true_eq] at hok
      obtain ⟨v, w, r, rfl, h⟩ := g_s2_inv hdo
      exact lv_isub hx hb hok (go _ _ _ _ h hL)
    case imul =>
      simp only [g_okI, decide_eq_true_eq] at hok
      obtain ⟨v, w, r, rfl, h⟩ := g_s2_inv hdo
      exact lv_imul hx hb hok (go _ _ _ _ h hL)
    case iand =>
      simp only [g_okI, decide_eq_true_eq] at hok
      obtain ⟨v, w, r, rfl, h⟩ := g_s2_inv hdo
      exact lv_iand hx hb hok (go _ _ _ _ h hL)
    case ior =>
      simp only [g_okI, decide_eq_true_eq] at hok
      obtain ⟨v, w, r, rfl, h⟩ := g_s2_inv hdo
      exact lv_ior hx hb hok (go _ _ _ _ h hL)
    case ixor =>
      simp only [g_okI, decide_eq_true_eq] at hok
      obtain ⟨v, w, r, rfl, h⟩ := g_s2_inv hdo
      exact lv_ixor hx hb hok (go _ _ _ _ h hL)
    case ishl =>
      simp only [g_okI, decide_eq_true_eq] at hok
      obtain ⟨v, w, r, rfl, h⟩ := g_s2_inv hdo
      exact lv_ishl hx hb hok (go _ _ _ _ h hL)
    case ishr =>
      simp only [g_okI, decide_eq_true_eq] at hok
      obtain ⟨v, w, r, rfl, h⟩ := g_s2_inv hdo
      exact lv_ishr hx hb hok (go _ _ _ _ h hL)
    case iushr =>
      simp only [g_okI, decide_eq_true_eq] at hok
      obtain ⟨v, w, r, rfl, h⟩ := g_s2_inv hdo
      exact lv_iushr hx hb hok rfl (go _ _ _ _ h hL)
    case idiv =>
      simp only [g_okI, decide_eq_true_eq] at hok
      obtain ⟨v, w, r, rfl, h0, h⟩ := g_s2_inv hdo
      exact lv_idiv hx hb hok h0 (go _ _ _ _ h hL)
    case irem =>
      simp only [g_okI, decide_eq_true_eq] at hok
      obtain ⟨v, w, r, rfl, h0, h⟩ := g_s2_inv hdo
      exact lv_irem hx hb hok h0 (go _ _ _ _ h hL)
    case dup =>
      simp only [g_okI, decide_eq_true_eq] at hok
      match st, hdo with
      | v :: r, hdo => exact lv_dup hx hb hok (by rw [g_cv_cat]; exact hdo.1) (go _ _ _ _ hdo.2 hL)
    case pop =>
      simp only [g_okI, decide_eq_true_eq] at hok
      match st, hdo with
      | v :: r, hdo => exact lv_pop hx hb hok (by rw [g_cv_cat]; exact hdo.1) (go _ _ _ _ hdo.2 hL)
    case dup2 =>
      simp only [g_okI, decide_eq_true_eq] at hok
      match st, hdo with
      | v :: w :: r, hdo => exact lv_dup2_11 hx hb hok (by rw [g_cv_cat]; exact hdo.1) (by rw [g_cv_cat]; exact hdo.2.1) (go _ _ _ _ hdo.2.2 hL)
    case goto o =>
      simp only [g_okI, Bool.and_eq_true, decide_eq_true_eq] at hok
      exact lv_goto hx hb hok.1 hok.2 (go _ _ _ _ hdo hL)
    case if_icmp cd o =>
      simp only [g_okI, Bool.and_eq_true, decide_eq_true_eq] at hok
      obtain ⟨v, w, r, rfl, h1, h2⟩ := g_s2_inv hdo
      cases cd
      · exact lv_icmp_eq hx hb hok.1 hok.2 (fun q => go _ _ _ _ (h1 q) hL) (fun q => go _ _ _ _ (h2 q) hL)
      · exact lv_icmp_ne hx hb hok.1 hok.2 (fun q => go _ _ _ _ (h1 q) hL) (fun q => go _ _ _ _ (h2 (fun z => z q)) hL)
      · exact lv_icmp_lt hx hb hok.1 hok.2 (fun q => go _ _ _ _ (h1 q) hL) (fun q => go _ _ _ _ (h2 q) hL)
      · exact lv_icmp_ge hx hb hok.1 hok.2 (fun q => go _ _ _ _ (h1 q) hL) (fun q => go _ _ _ _ (h2 q) hL)
      · exact lv_icmp_gt hx hb hok.1 hok.2 (fun q => go _ _ _ _ (h1 q) hL) (fun q => go _ _ _ _ (h2 q) hL)
      · exact lv_icmp_le hx hb hok.1 hok.2 (fun q => go _ _ _ _ (h1 q) hL) (fun q => go _ _ _ _ (h2 q) hL)
    case ifCond cd o =>
      simp only [g_okI, Bool.and_eq_true, decide_eq_true_eq] at hok
      obtain ⟨v, r, rfl, h1, h2⟩ := g_s1_inv hdo
      cases cd
      · exact lv_if_eq hx hb hok.1 hok.2 (fun q => go _ _ _ _ (h1 q) hL) (fun q => go _ _ _ _ (h2 q) hL)
      · exact lv_if_ne hx hb hok.1 hok.2 (fun q => go _ _ _ _ (h1 q) hL) (fun q => go _ _ _ _ (h2 (fun z => z q)) hL)
      · exact lv_if_lt hx hb hok.1 hok.2 (fun q => go _ _ _ _ (h1 q) hL) (fun q => go _ _ _ _ (h2 q) hL)
      · exact lv_if_ge hx hb hok.1 hok.2 (fun q => go _ _ _ _ (h1 q) hL) (fun q => go _ _ _ _ (h2 q) hL)
      · exact lv_if_gt hx hb hok.1 hok.2 (fun q => go _ _ _ _ (h1 q) hL) (fun q => go _ _ _ _ (h2 q) hL)
      · exact lv_if_le hx hb hok.1 hok.2 (fun q => go _ _ _ _ (h1 q) hL) (fun q => go _ _ _ _ (h2 q) hL)
    case tableswitch d lo hi offs =>
      simp only [g_okI, Bool.and_eq_true, decide_eq_true_eq, List.all_eq_true] at hok
      obtain ⟨⟨⟨hd, h0⟩, hsz⟩, hall⟩ := hok
      obtain ⟨v, r, rfl, h⟩ := g_s1_inv hdo
      have hd2 : ∃ len, decode (g_meth m).2.2.1 pc = .ok (.tableswitch d lo hi offs, len) := by
        split at hd
        · next j len hj =>
          simp only [decide_eq_true_eq] at hd
          exact ⟨len, by rw [hj, hd]⟩
        · cases hd
      obtain ⟨len, hd3⟩ := hd2
      by_cases hr : v.toInt < lo ∨ hi < v.toInt
      · have ht : g_tgt pc d lo hi offs v = ((pc : Int) + d).toNat := by unfold g_tgt; rw [if_pos hr]
        rw [ht] at h
        exact lv_tableOut hx hb hd3 hr (by omega) (go _ _ _ _ h hL)
      · have hlt : (v.toInt - lo).toNat < offs.size := by omega
        have ho : offs[(v.toInt - lo).toNat]? = some (offs.getD (v.toInt - lo).toNat 0) := by
          simp [Array.getD, hlt]
        have hm : offs.getD (v.toInt - lo).toNat 0 ∈ offs.toList := by
          rw [← Array.getElem?_toList] at ho
          exact List.mem_of_getElem? ho
        have hp := hall _ hm
        have ht : g_tgt pc d lo hi offs v = ((pc : Int) + offs.getD (v.toInt - lo).toNat 0).toNat := by unfold g_tgt; rw [if_neg hr]
        rw [ht] at h
        exact lv_tableIn hx hb hd3 (fun q => hr (Or.inl q)) (fun q => hr (Or.inr q)) ho (by omega) (go _ _ _ _ h hL)
    case getfield k =>
      simp only [g_okI, Bool.and_eq_true, decide_eq_true_eq] at hok
      obtain ⟨q, r, rfl, h⟩ := g_sr_inv hdo
      obtain ⟨ho, hq, h⟩ := g_obj_inv h
      obtain ⟨cq, hc, hk, hlink⟩ := g_any_fl hok.2
      have hq1000 : q ≠ 1000 := by have := hW.1.2.1; omega
      have hpl := hW.1.2.2 q hq
      unfold g_pl at hpl
      rw [ho] at hpl
      obtain ⟨rc, hrc, hO⟩ := hpl
      cases hrc.symm.trans hc
      obtain ⟨c1, c2, c3⟩ := g_cls_ok hc
      have hP : va_P Dd g_cls [(b + q, .inr (a, (List.range cq.2.2).map (fun j => g_cv b0 b (g_av g.2.1 g.2.2 q a j))))] H := by
        intro j y hy
        match j, hy with
        | 0, hy =>
          cases hy
          refine ⟨cq, hc, hO.to (fun j hj => ?_)⟩
          simp [vp_V, hj]
        | j + 1, hy => simp at hy
      have hgo := go _ _ _ _ h hL
      rw [List.map_cons] at hgo
      show W p l e R s mm args below meth c H locs cells slots _ (F0 mm pc ls (g_cv b0 b (.ref q) :: r.map (g_cv b0 b)))
      rw [g_cv_ref hq1000]
      exact va_get (Ts := g_tbl) (own := g_nm (g_meth m).1) hx hb hts c3 hown hEn.1 hP 0 rfl hc bb hk (hts _ hlink) (fun _ h => h) (by simp [hk]) hok.1 hgo
    case putfield k =>
      simp only [g_okI, Bool.and_eq_true, decide_eq_true_eq] at hok
      obtain ⟨⟨hdg, hfl⟩, hfn⟩ := hok
      obtain ⟨cq, hc, hk, hlink⟩ := g_any_fl hfl
      obtain ⟨c1, c2, c3⟩ := g_cls_ok hc
      have hfin : (cq.2.1 bb).2.2.2 = false ∨ (meth.name = "<init>" ∧ (cq.2.1 bb).1 = g_nm (g_meth m).1) := by
        rw [hc] at hfn
        simp only [Bool.or_eq_true, Bool.and_eq_true, decide_eq_true_eq, Bool.not_eq_true'] at hfn
        rcases hfn with h | ⟨h1, h2⟩
        · exact Or.inl h
        · exact Or.inr ⟨hname h1, h2⟩
      have key : ∀ (v : Value) (q : Nat) (r : List Value) (g' : gS), g_shp q = .inr a → q < g.1 → narrow (g_tyf a bb) (g_cv b0 b v) = g_cv b0 b v → fits (g_tyf a bb) (g_cv b0 b v) = true → g'.1 = g.1 → (∀ y, y ≠ q → g'.2.1 y = g.2.1 y) → (∀ y, y ≠ q → g'.2.2 y = g.2.2 y) → (∀ j, g_cv b0 b (g_av g'.2.1 g'.2.2 q a j) = updV (fun j => g_cv b0 b (g_av g.2.1 g.2.2 q a j)) bb (g_cv b0 b v) j) → EvN X n m (pc + 3) L r g' rr →
          W p l e R s mm args below meth c H locs cells slots (MQ below (g_Q Dd cI cZ b0 b rr) args s mc ms (fun q => b ≤ q)) (F0 mm pc ls (g_cv b0 b v :: g_cv b0 b (.ref q) :: r.map (g_cv b0 b))) := by
        intro v q r g' ho hq hn1 hn2 hg hr hs hav h
        have hq1000 : q ≠ 1000 := by have := hW.1.2.1; omega
        have hpl := hW.1.2.2 q hq
        unfold g_pl at hpl
        rw [ho] at hpl
        obtain ⟨rc, hrc, hO⟩ := hpl
        cases hrc.symm.trans hc
        rw [g_cv_ref hq1000]
        refine gw_put (Ts := g_tbl) (own := g_nm (g_meth m).1) hx hb hts c3 (g_tyf a) c1 c2 hown hEn.1 hO hc bb hk (hts _ hlink) hfin hn1 hn2 hdg (fun H1 locs1 e1 e2 e3 e4 => ?_)
        refine goW _ _ g' _ _ h hg ?_ e2 (fun y hy => e3 y (by omega)) (fun y hy => ?_)
        · obtain ⟨n', ρ', σ'⟩ := g'
          obtain ⟨n0, ρ, σ⟩ := g
          dsimp only at hg hr hs hav hq ⊢
          subst hg
          refine hW.1.set (p := q) hr hs e2 e3 ?_
          unfold g_pl
          rw [ho]
          exact ⟨cq, hc, e1.to (fun j _ => (hav j).symm)⟩
        · rcases e4 y hy with h1 | h1
          · exact Or.inl h1
          · exact Or.inr (by rw [h1]; exact Nat.le_add_right _ _)
      match st, hdo with
      | .int v :: st', hdo =>
        obtain ⟨q, r, rfl, h⟩ := g_sr_inv hdo
        obtain ⟨ho, hq, hR1, h⟩ := g_obj_inv h
        have hti := g_isR_int hR1
        refine key (.int v) q r (g.1, g.2.1, g_up g.2.2 q bb v) ho hq (by rw [hti]; rfl) (by rw [hti]; rfl) rfl (fun _ _ => rfl) (fun y hy => by simp only [g_up, if_neg hy]) (fun j => ?_) h
        by_cases hj : j = bb
        · subst hj
          simp [updV, g_av, hR1, g_up, upd, g_cv]
        · simp [updV, g_av, g_up, upd, hj]
      | .ref v :: st', hdo =>
        obtain ⟨q, r, rfl, h⟩ := g_sr_inv hdo
        obtain ⟨ho, hq, hR1, hv1, h⟩ := g_obj_inv h
        obtain ⟨f1, f2⟩ := g_fits_ref hc hk hR1 (if v = 1000 then b0 else b + v)
        refine key (.ref v) q r (g.1, g_ur g.2.1 q bb (some v), g.2.2) ho hq f1 f2 rfl (fun y hy => by funext j; simp only [g_ur, if_neg hy]) (fun _ _ => rfl) (fun j => ?_) h
        by_cases hj : j = bb
        · subst hj
          simp [updV, g_av, hR1, g_ur, va_rf]
        · simp [updV, g_av, g_ur, hj]
    case iaload =>
      simp only [g_okI, decide_eq_true_eq] at hok
      obtain ⟨j, r0, rfl, h0⟩ := g_s1_inv hdo
      obtain ⟨q, r, rfl, h⟩ := g_sr_inv h0
      show W p l e R s mm args below meth c H locs cells slots _ (F0 mm pc ls (.int j :: g_cv b0 b (.ref q) :: r.map (g_cv b0 b)))
      rcases g_ald_inv h with ⟨rfl, -, hin, h⟩ | ⟨hq1000, len, ho, hq, hin, h⟩
      · have : g_cv b0 b (.ref 1000) = .ref b0 := rfl
        rw [this]
        exact va_sld (H0 := H) (A := fun q => b ≤ q) (locs := locs) hx hb hW.2.2 (by have := hW.1.1; have := hW.2.1; omega) (by have := hW.2.1; omega) ⟨Nat.le_refl _, fun _ _ _ => rfl, hS.2.2⟩ hin hok (go _ _ _ _ h hL)
      · rw [g_cv_ref hq1000]
        have hpl := hW.1.2.2 q hq
        unfold g_pl at hpl
        rw [ho] at hpl
        have hP : va_P Dd g_cls [(b + q, .inl (cI, len, .inl (g.2.2 q)))] H := by
          intro k y hy
          match k, hy with
          | 0, hy => cases hy; exact hpl
          | k + 1, hy => simp at hy
        exact va_iald hx hb hEn.1 hP 0 0 rfl rfl hin hok (go _ _ _ _ h hL)
    case baload =>
      simp only [g_okI, decide_eq_true_eq] at hok
      obtain ⟨j, r0, rfl, h0⟩ := g_s1_inv hdo
      obtain ⟨q, r, rfl, h⟩ := g_sr_inv h0
      show W p l e R s mm args below meth c H locs cells slots _ (F0 mm pc ls (.int j :: g_cv b0 b (.ref q) :: r.map (g_cv b0 b)))
      rcases g_ald_inv h with ⟨rfl, hz, hin, h⟩ | ⟨hq1000, len, ho, hq, hin, h⟩
      · cases hz
      · rw [g_cv_ref hq1000]
        have hpl := hW.1.2.2 q hq
        unfold g_pl at hpl
        rw [ho] at hpl
        have hP : va_P Dd g_cls [(b + q, .inl (cZ, len, .inl (g.2.2 q)))] H := by
          intro k y hy
          match k, hy with
          | 0, hy => cases hy; exact hpl
          | k + 1, hy => simp at hy
        exact va_zald hx hb hEn.1 hP 0 1 rfl rfl hin hok (go _ _ _ _ h hL)
    case iastore =>
      simp only [g_okI, decide_eq_true_eq] at hok
      obtain ⟨v, r0, rfl, h0⟩ := g_s1_inv hdo
      obtain ⟨j, r1, rfl, h1⟩ := g_s1_inv h0
      obtain ⟨q, r, rfl, h2⟩ := g_sr_inv h1
      obtain ⟨len, ho, hq, hin, h⟩ := g_ast_inv h2
      have hq1000 : q ≠ 1000 := by have := hW.1.2.1; omega
      have hpl := hW.1.2.2 q hq
      unfold g_pl at hpl
      rw [ho] at hpl
      show W p l e R s mm args below meth c H locs cells slots _ (F0 mm pc ls (.int v :: .int j :: g_cv b0 b (.ref q) :: r.map (g_cv b0 b)))
      rw [g_cv_ref hq1000]
      refine W.iast hx hb hpl ((hEn.1.2 0 _ rfl).1 len (fun j => .int (g.2.2 q j))) (fun q => by cases q) (by rw [arrV_size]; exact hin) rfl rfl hok fun H1 e1 e2 e3 => ?_
      refine goW _ _ _ _ _ h rfl ?_ e2 (fun y hy => e3 y (Nat.ne_of_lt (Nat.lt_of_lt_of_le hy (Nat.le_add_right b q)))) (fun y hy => ?_)
      · obtain ⟨n0, ρ, σ⟩ := g
        refine hW.1.set (p := q) (fun _ _ => rfl) (fun y hy => by simp only [g_up, if_neg hy]) e2 e3 ?_
        unfold g_pl
        rw [ho]
        rw [e1, arrV_store]
        congr 2
        funext y
        by_cases hy : y = j.toNatClampNeg
        · simp [updV, g_up, upd, hy]
        · simp [updV, g_up, upd, hy]
      · rcases List.mem_append.mp hy with h1 | h1
        · exact Or.inl h1
        · rw [List.mem_singleton.mp h1]
          exact Or.inr (Nat.le_add_right _ _)
    case bastore =>
      simp only [g_okI, decide_eq_true_eq] at hok
      obtain ⟨v, r0, rfl, h0⟩ := g_s1_inv hdo
      obtain ⟨j, r1, rfl, h1⟩ := g_s1_inv h0
      obtain ⟨q, r, rfl, h2⟩ := g_sr_inv h1
      obtain ⟨len, ho, hq, hin, h⟩ := g_ast_inv h2
      have hq1000 : q ≠ 1000 := by have := hW.1.2.1; omega
      have hpl := hW.1.2.2 q hq
      unfold g_pl at hpl
      rw [ho] at hpl
      show W p l e R s mm args below meth c H locs cells slots _ (F0 mm pc ls (.int v :: .int j :: g_cv b0 b (.ref q) :: r.map (g_cv b0 b)))
      rw [g_cv_ref hq1000]
      refine W.zast hx hb hpl ((hEn.1.2 1 _ rfl).1 len (fun j => .int (g.2.2 q j))) (fun q => by cases q) (by rw [arrV_size]; exact hin) rfl rfl hok fun H1 e1 e2 e3 => ?_
      refine goW _ _ _ _ _ h rfl ?_ e2 (fun y hy => e3 y (Nat.ne_of_lt (Nat.lt_of_lt_of_le hy (Nat.le_add_right b q)))) (fun y hy => ?_)
      · obtain ⟨n0, ρ, σ⟩ := g
        refine hW.1.set (p := q) (fun _ _ => rfl) (fun y hy => by simp only [g_up, if_neg hy]) e2 e3 ?_
        unfold g_pl
        rw [ho]
        rw [e1, arrV_store]
        congr 2
        funext y
        by_cases hy : y = j.toNatClampNeg
        · simp [updV, g_up, upd, hy, narrow]
        · simp [updV, g_up, upd, hy]
      · rcases List.mem_append.mp hy with h1 | h1
        · exact Or.inl h1
        · rw [List.mem_singleton.mp h1]
          exact Or.inr (Nat.le_add_right _ _)
    case arraylength =>
      simp only [g_okI, decide_eq_true_eq] at hok
      obtain ⟨q, r, rfl, h⟩ := g_sr_inv hdo
      show W p l e R s mm args below meth c H locs cells slots _ (F0 mm pc ls (g_cv b0 b (.ref q) :: r.map (g_cv b0 b)))
      by_cases hq1000 : q = 1000
      · rw [if_pos hq1000] at h
        subst hq1000
        have : g_cv b0 b (.ref 1000) = .ref b0 := rfl
        rw [this]
        exact va_slen (H0 := H) (A := fun q => b ≤ q) (locs := locs) hx hb hW.2.2 (by have := hW.1.1; have := hW.2.1; omega) (by have := hW.2.1; omega) ⟨Nat.le_refl _, fun _ _ _ => rfl, hS.2.2⟩ hok (go _ _ _ _ h hL)
      · rw [if_neg hq1000] at h
        rw [g_cv_ref hq1000]
        split at h
        · next w ho =>
          obtain ⟨w1, w2⟩ := w
          obtain ⟨hq, h⟩ := h
          have hpl := hW.1.2.2 q hq
          unfold g_pl at hpl
          rw [ho] at hpl
          have hP : va_P Dd g_cls [(b + q, .inl (if w1 then cZ else cI, w2, .inl (g.2.2 q)))] H := by
            intro k y hy
            match k, hy with
            | 0, hy => cases hy; exact hpl
            | k + 1, hy => simp at hy
          cases w1
          · exact va_alen (ty := .int) hx hb hEn.1 hP 0 0 rfl rfl rfl hok (go _ _ _ _ h hL)
          · exact va_alen (ty := .boolean) hx hb hEn.1 hP 0 1 rfl rfl rfl hok (go _ _ _ _ h hL)
        · exact h.elim
    case new k =>
      simp only [g_okI, Bool.and_eq_true, decide_eq_true_eq] at hok
      obtain ⟨hsh, h47, hr0, hs0, h⟩ := hdo
      obtain ⟨cq, hc, hn1, hn2, hn3⟩ := g_any_nw hok.2
      obtain ⟨c1, c2, c3⟩ := g_cls_ok hc
      have hle := EvN_n n h
      have hsl := g_slots_mono hle
      have hsz : g_slots (g.1 + 1) = g_slots g.1 + cq.2.2 := by show g_slots g.1 + g_sz g.1 = _; rw [g_sz_cls hc hsh]
      obtain ⟨r1, r2, r3, r4⟩ := hR
      dsimp only at hle hsl
      have hKn := hEn.1.1 a _ hc
      refine W.newcK (h := b + g.1) hx hb hown (hts _ hn1) (hts _ hn2) (hts _ hn3) rfl hok.1 (by omega) (by omega) hKn.2.1 hW.1.1 fun H1 kC hkC e1 z1 o1 => ?_
      have hWP : g_WP Dd cI cZ b0 b (g.1 + 1, g.2.1, g.2.2) H1 := by
        refine ⟨by rw [z1]; rfl, h47, fun q hq => ?_⟩
        dsimp only at hq ⊢
        by_cases hqg : q = g.1
        · subst hqg
          unfold g_pl
          rw [hsh]
          refine ⟨cq, hc, (u_born (g_tyf a) hts c3 hKn hkC e1 c1).to (fun j hj => ?_)⟩
          simp only [g_av, hr0, hs0]
          have key : ∀ c, c < 5 → ∀ k, k < 25 → defaultValue (g_tyf c k) = if g_isR c k then .null else .int 0 := by decide +kernel
          have ha : a < 5 := (List.getElem?_eq_some_iff.mp hc).1
          have hj25 : j < 25 := by
            match a, hc with
            | 0, hc => cases hc; exact Nat.lt_of_lt_of_le hj (by decide)
            | 1, hc => cases hc; exact Nat.lt_of_lt_of_le hj (by decide)
            | 2, hc => cases hc; exact Nat.lt_of_lt_of_le hj (by decide)
            | 3, hc => cases hc; exact Nat.lt_of_lt_of_le hj (by decide)
            | 4, hc => cases hc; exact Nat.lt_of_lt_of_le hj (by decide)
            | c + 5, hc => omega
          rw [key a ha j hj25]
          cases g_isR a j <;> rfl
        · exact (hW.1.2.2 q (by omega)).congr rfl rfl (o1 _ (by omega))
      have := IH m (pc + 3) L (.ref g.1 :: st) (g.1 + 1, g.2.1, g.2.2) rr h p e R s mm args below meth c H1 locs (cells + 1) (slots + cq.2.2) mc ms ls hC0 hL ⟨hWP, hW.2.1, g_X.kept hW.2.1 hW.2.2 (fun q hq => o1 q (by omega))⟩ ⟨by have := hS.1; have := hW.1.1; omega, fun q h1 h2 => by rw [o1 q (by omega)]; exact hS.2.1 q h1 h2, hS.2.2⟩ hbs ⟨by dsimp only; omega, by dsimp only; omega, r3, r4⟩
      rw [List.map_cons, g_cv_ref (by omega)] at this
      exact this
    case newarray t =>
      simp only [g_okI, decide_eq_true_eq] at hok
      obtain ⟨v, r, rfl, ht, hsh, hv0, hv2, h47, hs0, h⟩ := g_s1_inv hdo
      have hle := EvN_n n h
      have hsl := g_slots_mono hle
      have hsz : g_slots (g.1 + 1) = g_slots g.1 + v.toNatClampNeg := by show g_slots g.1 + g_sz g.1 = _; unfold g_sz; rw [hsh]
      obtain ⟨r1, r2, r3, r4⟩ := hR
      dsimp only at hle hsl
      have fin : ∀ (cA : ClassId) (H1 : Heap), (if decide (t = .boolean) = true then cZ else cI) = cA → H1[b + g.1]? = some (arrV cA v.toNatClampNeg (fun _ => .int 0)) → H1.size = b + g.1 + 1 → (∀ q, q < b + g.1 → H1[q]? = H[q]?) → W p l e R s mm args below meth c H1 locs (cells + 1) (slots + v.toNatClampNeg) (MQ below (g_Q Dd cI cZ b0 b rr) args s mc ms (fun q => b ≤ q)) (F0 mm (pc + 2) ls (.ref (b + g.1) :: r.map (g_cv b0 b))) := by
        intro cA H1 hA e1 z1 o1
        have hWP : g_WP Dd cI cZ b0 b (g.1 + 1, g.2.1, g.2.2) H1 := by
          refine ⟨by rw [z1]; rfl, h47, fun q hq => ?_⟩
          dsimp only at hq ⊢
          by_cases hqg : q = g.1
          · subst hqg
            unfold g_pl
            rw [hsh]
            dsimp only
            rw [hA, e1, hs0]
          · exact (hW.1.2.2 q (by omega)).congr rfl rfl (o1 _ (by omega))
        have := IH m (pc + 2) L (.ref g.1 :: r) (g.1 + 1, g.2.1, g.2.2) rr h p e R s mm args below meth c H1 locs (cells + 1) (slots + v.toNatClampNeg) mc ms ls hC0 hL ⟨hWP, hW.2.1, g_X.kept hW.2.1 hW.2.2 (fun q hq => o1 q (by omega))⟩ ⟨by have := hS.1; have := hW.1.1; omega, fun q h1 h2 => by rw [o1 q (by omega)]; exact hS.2.1 q h1 h2, hS.2.2⟩ hbs ⟨by dsimp only; omega, by dsimp only; omega, r3, r4⟩
        rw [List.map_cons, g_cv_ref (by omega)] at this
        exact this
      rcases ht with rfl | rfl
      · refine va_newaK (atype := .int) (h := b + g.1) hx hb (hts _ (g_memT g_ai_ok)) rfl hok (n := v) (rest := r.map (g_cv b0 b)) rfl hv0 rfl (by show v.toNatClampNeg * 4 ≤ _; omega) (by omega) (by omega) hW.1.1 fun H1 cA e1 z1 o1 hAr hNm => ?_
        have h2 : s.vm.findClass ("[" ++ (FieldType.int).toString) = some cI := (hEn.1.2 0 _ rfl).2
        have : cA = cI := Option.some.inj (hNm.symm.trans h2)
        subst this
        exact fin cA H1 rfl e1 z1 o1
      · refine va_newaK (atype := .boolean) (h := b + g.1) hx hb (hts _ (g_memT g_az_ok)) rfl hok (n := v) (rest := r.map (g_cv b0 b)) rfl hv0 rfl (by show v.toNatClampNeg * 1 ≤ _; omega) (by omega) (by omega) hW.1.1 fun H1 cA e1 z1 o1 hAr hNm => ?_
        have h2 : s.vm.findClass ("[" ++ (FieldType.boolean).toString) = some cZ := (hEn.1.2 1 _ rfl).2
        have : cA = cZ := Option.some.inj (hNm.symm.trans h2)
        subst this
        exact fin cA H1 rfl e1 z1 o1
    case invokestatic k =>
      simp only [g_okI, Bool.and_eq_true, decide_eq_true_eq] at hok
      simp only [g_do] at hdo
      by_cases h998 : a = 998
      · simp only [if_pos h998] at hok hdo
        simp only [Bool.and_eq_true, decide_eq_true_eq] at hok
        obtain ⟨v, w, r, rfl, hcat, h⟩ := g_s2_inv hdo
        refine va_mmax hx hb (by rw [hml]; exact hL.1.1.symm) hown (hts _ (g_any_mx hok.2.1.1)) (hts _ (g_memT g_mxS_ok)) (hts _ (g_memT g_mxI_ok)) (hts _ (g_memT g_mxC_ok)) (Nat.le_trans hok.2.1.2 hfr) (by rw [g_cat_map]; have := hok.2.2; omega) ?_ ?_ hok.1 (go _ _ _ _ h hL)
        · have := EvN_n n h; have := hR.1; have := hR.2.2.1; omega
        · have := g_slots_mono (EvN_n n h); have := hR.2.1; have := hR.2.2.2; omega
      · simp only [if_neg h998] at hok hdo
        simp only [Bool.and_eq_true, decide_eq_true_eq] at hok
        split at hdo
        · next A r hp =>
          obtain ⟨hcat, ⟨hA, hAc⟩, v, g1, h3, h4⟩ := hdo
          obtain ⟨q1, q2⟩ := g_pops_eq _ _ _ _ _ hp
          have hn1 := EvN_n n h3
          refine g_cont (a' := (A.map (g_cv b0 b)).toArray) IH h4 hn1 hC0 hL hW hS hbs hR (fun hf => ?_)
          obtain ⟨a', h⟩ := g_runS IH hC0 hL hW (L := L) hok.2.1.1.1 (by rw [q1, hok.2.1.1.2]; rfl) hok.2.1.2 hok.2.2 hok.1 (st := st) (by rw [q2]; rfl) hcat hA hAc h3 hf
          exact h
        · exact hdo.elim
    case invokevirtual k =>
      simp only [g_okI, Bool.and_eq_true, decide_eq_true_eq] at hok
      simp only [g_do] at hdo
      split at hdo
      · next q A r hp =>
        obtain ⟨ho, hq, hdo⟩ := g_obj_inv hdo
        obtain ⟨hcat, ⟨hA, hAc⟩, v, g1, h3, h4⟩ := hdo
        obtain ⟨q1, q2⟩ := g_pops_eq _ _ _ _ _ hp
        have hn1 := EvN_n n h3
        refine g_cont (a' := #[]) IH h4 hn1 hC0 hL hW hS hbs hR (fun hf => ?_)
        obtain ⟨a', h⟩ := g_runV IH hC0 hL hW (L := L) hok.1.1.1.2 (by have := q1; simp at this; rw [this, hok.1.1.2]) hok.1.2 hok.2 hok.1.1.1.1 (st := st) (by rw [q2]; rfl) ho hq hcat hA hAc h3 hf
        exact h
      · exact hdo.elim
    case invokespecial k =>
      simp only [g_okI, Bool.and_eq_true, decide_eq_true_eq] at hok
      simp only [g_do] at hdo
      by_cases h999 : a = 999
      · simp only [if_pos h999] at hok hdo
        simp only [Bool.and_eq_true, decide_eq_true_eq] at hok
        split at hdo
        · next q =>
          exact W.objInit hx hb hown (hts _ (g_any_ob hok.2.1.1)) (hts _ (g_memT g_obI_ok)) (hts _ (g_memT g_obC_ok)) rfl (by rw [hml]; exact hL.1.1) rfl hok.1 (Nat.le_trans hok.2.1.2 hfr) (by show 2 * 0 + 0 + 12 ≤ _; have := hok.2.2; omega) (go _ _ _ _ hdo hL)
        · exact hdo.elim
      · simp only [if_neg h999] at hok hdo
        simp only [Bool.and_eq_true, decide_eq_true_eq] at hok
        split at hdo
        · next q A r hp =>
          obtain ⟨hcat, ⟨hA, hAc⟩, v, g1, h3, h4⟩ := hdo
          obtain ⟨q1, q2⟩ := g_pops_eq _ _ _ _ _ hp
          have hn1 := EvN_n n h3
          refine g_cont (a' := #[]) IH h4 hn1 hC0 hL hW hS hbs hR (fun hf => ?_)
          obtain ⟨a', h⟩ := g_runI IH hC0 hL hW (L := L) hok.2.1.1.1 (by have := q1; simp at this; rw [this, hok.2.1.1.2]) hok.2.1.2 hok.2.2 hok.1 (st := st) (by rw [q2]; rfl) hcat hA hAc h3 hf
          exact h
        · exact hdo.elim
    case ireturn =>
      simp only [g_okI, decide_eq_true_eq] at hok
      match st, hdo with
      | [.int v], hdo =>
        obtain ⟨hz, hrr⟩ := hdo
        subst hrr
        obtain ⟨r1, r2, r3, r4⟩ := hR
        dsimp only at r1 r2
        have e1 : cells = mc := by omega
        have e2 : slots = ms := by omega
        subst e1; subst e2
        have hrt := g_rt_at hat
        have hq : ∀ t : State, t.heap = H → s.WarmedH t.vm → g_Q Dd cI cZ b0 b (some (.int v), g) args s (.returned (some (.int v))) t := fun t ht _ => ⟨rfl, by rw [ht]; exact hW.1, fun q hq => by rw [ht]; exact hS.2.1 q (by omega) (by omega)⟩
        dsimp only [g_rtI] at hrt
        simp only [Bool.or_eq_true, decide_eq_true_eq] at hrt
        rcases hrt with hrt | hrt
        · exact W.iret hx hb (by rw [hret, hrt]) hq hS.2.2 hok
        · exact W.zret (ty := .boolean) hx hb (by rw [hret, hrt]) (by show Value.int (v &&& 1) = _; rw [hz (by unfold g_isZ; rw [hrt])]) hq hS.2.2 hok
    case return_ =>
      simp only [g_okI, decide_eq_true_eq] at hok
      obtain ⟨rfl, hrr⟩ := hdo
      subst hrr
      obtain ⟨r1, r2, r3, r4⟩ := hR
      dsimp only at r1 r2
      have e1 : cells = mc := by omega
      have e2 : slots = ms := by omega
      subst e1; subst e2
      have hrt := g_rt_at hat
      dsimp only [g_rtI] at hrt
      simp only [decide_eq_true_eq] at hrt
      exact W.vret hx hb (by rw [hret, hrt]) (fun t ht _ => ⟨rfl, by rw [ht]; exact hW.1, fun q hq => by rw [ht]; exact hS.2.1 q (by omega) (by omega)⟩) hS.2.2 hok
    all_goals exact hdo.elim
end
section
/-! Rules for walks of the small machine. Numbers are nI of naturals wherever they can be. -/
section RU
variable {X : gX} {m pc : Nat} {L : gLo} {st : List Value} {g : gS} {rr : gR}
theorem ev_val {a b : Int32} (e : a = b) (k : Ev X m pc L (.int b :: st) g rr) : Ev X m pc L (.int a :: st) g rr := e ▸ k
theorem ev_lv {L' : gLo} (e : L = L') (k : Ev X m pc L' st g rr) : Ev X m pc L st g rr := e ▸ k
theorem ev_get {n : Nat} {ρ : Nat → Nat → Option Nat} {σ : Nat → Nat → Int32} {i p c f : Nat} {z : Int32} (ht : g_at m pc = some (.getfield i, c, f, z)) (hs : g_shp p = .inr c) (hp : p < n) (hR : g_isR c f = false) (k : Ev X m (pc + 3) L (.int (σ p f) :: st) (n, ρ, σ) rr) : Ev X m pc L (.ref p :: st) (n, ρ, σ) rr := by
  refine ev_i ht ?_
  show g_obj (n, ρ, σ) p c _
  unfold g_obj
  rw [hs]
  refine ⟨rfl, hp, ?_⟩
  unfold g_av
  rw [hR]
  exact k
theorem ev_getr {n : Nat} {ρ : Nat → Nat → Option Nat} {σ : Nat → Nat → Int32} {i p c f q : Nat} {z : Int32} (ht : g_at m pc = some (.getfield i, c, f, z)) (hs : g_shp p = .inr c) (hp : p < n) (hR : g_isR c f = true) (hq : ρ p f = some q) (k : Ev X m (pc + 3) L (.ref q :: st) (n, ρ, σ) rr) : Ev X m pc L (.ref p :: st) (n, ρ, σ) rr := by
  refine ev_i ht ?_
  show g_obj (n, ρ, σ) p c _
  unfold g_obj
  rw [hs]
  refine ⟨rfl, hp, ?_⟩
  unfold g_av
  rw [hR]
  show Ev X m (pc + 3) L (va_rf (ρ p f) :: st) (n, ρ, σ) rr
  rw [hq]
  exact k
theorem ev_put {n : Nat} {ρ : Nat → Nat → Option Nat} {σ : Nat → Nat → Int32} {i p c f : Nat} {z v : Int32} (ht : g_at m pc = some (.putfield i, c, f, z)) (hs : g_shp p = .inr c) (hp : p < n) (hR : g_isR c f = false) (k : Ev X m (pc + 3) L st (n, ρ, g_up σ p f v) rr) : Ev X m pc L (.int v :: .ref p :: st) (n, ρ, σ) rr := by
  refine ev_i ht ?_
  show g_obj (n, ρ, σ) p c _
  unfold g_obj
  rw [hs]
  exact ⟨rfl, hp, hR, k⟩
theorem ev_putr {n : Nat} {ρ : Nat → Nat → Option Nat} {σ : Nat → Nat → Int32} {i p c f q : Nat} {z : Int32} (ht : g_at m pc = some (.putfield i, c, f, z)) (hs : g_shp p = .inr c) (hp : p < n) (hR : g_isR c f = true) (hq : q < 1000) (k : Ev X m (pc + 3) L st (n, g_ur ρ p f (some q), σ) rr) : Ev X m pc L (.ref q :: .ref p :: st) (n, ρ, σ) rr := by
  refine ev_i ht ?_
  show g_obj (n, ρ, σ) p c _
  unfold g_obj
  rw [hs]
  exact ⟨rfl, hp, hR, hq, k⟩
theorem ev_ald {n len : Nat} {ρ : Nat → Nat → Option Nat} {σ : Nat → Nat → Int32} {p a b : Nat} {z j : Int32} (ht : g_at m pc = some (.iaload, a, b, z)) (hs : g_shp p = .inl (false, len)) (hp : p < n) (h0 : p ≠ 1000) (hj : vp_in j len) (k : Ev X m (pc + 1) L (.int (σ p j.toNatClampNeg) :: st) (n, ρ, σ) rr) : Ev X m pc L (.int j :: .ref p :: st) (n, ρ, σ) rr := by
  refine ev_i ht ?_
  show g_ald X false (n, ρ, σ) p j (fun v => Ev X m (pc + 1) L (.int v :: st) (n, ρ, σ) rr)
  unfold g_ald
  rw [if_neg h0, hs]
  exact ⟨rfl, hp, hj, k⟩
theorem ev_bld {n len : Nat} {ρ : Nat → Nat → Option Nat} {σ : Nat → Nat → Int32} {p a b : Nat} {z j : Int32} (ht : g_at m pc = some (.baload, a, b, z)) (hs : g_shp p = .inl (true, len)) (hp : p < n) (h0 : p ≠ 1000) (hj : vp_in j len) (k : Ev X m (pc + 1) L (.int (σ p j.toNatClampNeg) :: st) (n, ρ, σ) rr) : Ev X m pc L (.int j :: .ref p :: st) (n, ρ, σ) rr := by
  refine ev_i ht ?_
  show g_ald X true (n, ρ, σ) p j (fun v => Ev X m (pc + 1) L (.int v :: st) (n, ρ, σ) rr)
  unfold g_ald
  rw [if_neg h0, hs]
  exact ⟨rfl, hp, hj, k⟩
theorem ev_xld {a b : Nat} {z j : Int32} (ht : g_at m pc = some (.iaload, a, b, z)) (hj : vp_in j X.1) (k : Ev X m (pc + 1) L (.int (X.2 j.toNatClampNeg) :: st) g rr) : Ev X m pc L (.int j :: .ref 1000 :: st) g rr := by
  refine ev_i ht ?_
  show g_ald X false g 1000 j (fun v => Ev X m (pc + 1) L (.int v :: st) g rr)
  unfold g_ald
  rw [if_pos rfl]
  exact ⟨rfl, hj, k⟩
theorem ev_xlen {a b : Nat} {z : Int32} (ht : g_at m pc = some (.arraylength, a, b, z)) (k : Ev X m (pc + 1) L (.int (nI X.1) :: st) g rr) : Ev X m pc L (.ref 1000 :: st) g rr := ev_i ht k
theorem ev_alen {n len : Nat} {w : Bool} {ρ : Nat → Nat → Option Nat} {σ : Nat → Nat → Int32} {p a b : Nat} {z : Int32} (ht : g_at m pc = some (.arraylength, a, b, z)) (hs : g_shp p = .inl (w, len)) (hp : p < n) (h0 : p ≠ 1000) (k : Ev X m (pc + 1) L (.int (nI len) :: st) (n, ρ, σ) rr) : Ev X m pc L (.ref p :: st) (n, ρ, σ) rr := by
  refine ev_i ht ?_
  show (if p = 1000 then Ev X m (pc + 1) L (.int (Int32.ofNat X.1) :: st) (n, ρ, σ) rr else
      match g_shp p with
      | .inl q => p < n ∧ Ev X m (pc + 1) L (.int (Int32.ofNat q.2) :: st) (n, ρ, σ) rr
      | .inr _ => False)
  rw [if_neg h0, hs]
  exact ⟨hp, k⟩
theorem ev_ast {n len : Nat} {ρ : Nat → Nat → Option Nat} {σ : Nat → Nat → Int32} {p a b : Nat} {z j v : Int32} (ht : g_at m pc = some (.iastore, a, b, z)) (hs : g_shp p = .inl (false, len)) (hp : p < n) (hj : vp_in j len) (k : Ev X m (pc + 1) L st (n, ρ, g_up σ p j.toNatClampNeg v) rr) : Ev X m pc L (.int v :: .int j :: .ref p :: st) (n, ρ, σ) rr := by
  refine ev_i ht ?_
  show g_ast false (n, ρ, σ) p j v (fun g1 => Ev X m (pc + 1) L st g1 rr)
  unfold g_ast
  rw [hs]
  exact ⟨rfl, hp, hj, k⟩
theorem ev_bst {n len : Nat} {ρ : Nat → Nat → Option Nat} {σ : Nat → Nat → Int32} {p a b : Nat} {z j v : Int32} (ht : g_at m pc = some (.bastore, a, b, z)) (hs : g_shp p = .inl (true, len)) (hp : p < n) (hj : vp_in j len) (k : Ev X m (pc + 1) L st (n, ρ, g_up σ p j.toNatClampNeg (v &&& 1)) rr) : Ev X m pc L (.int v :: .int j :: .ref p :: st) (n, ρ, σ) rr := by
  refine ev_i ht ?_
  show g_ast true (n, ρ, σ) p j (v &&& 1) (fun g1 => Ev X m (pc + 1) L st g1 rr)
  unfold g_ast
  rw [hs]
  exact ⟨rfl, hp, hj, k⟩
/-- indices that are naturals -/
theorem vp_inN {j len : Nat} (h : j < len) (hl : len ≤ 65536) : vp_in (nI j) len := vp_in_nI h (by omega)
theorem nI_cl {j : Nat} (h : j < 2147483648) : (nI j).toNatClampNeg = j := nI_clamp h
theorem ev_aldN {n len : Nat} {ρ : Nat → Nat → Option Nat} {σ : Nat → Nat → Int32} {p a b j : Nat} {z : Int32} (ht : g_at m pc = some (.iaload, a, b, z)) (hs : g_shp p = .inl (false, len)) (hp : p < n) (h0 : p ≠ 1000) (hl : len ≤ 65536) (hj : j < len) (k : Ev X m (pc + 1) L (.int (σ p j) :: st) (n, ρ, σ) rr) : Ev X m pc L (.int (nI j) :: .ref p :: st) (n, ρ, σ) rr :=
  ev_ald ht hs hp h0 (vp_inN hj hl) (by rw [nI_cl (by omega)]; exact k)
theorem ev_bldN {n len : Nat} {ρ : Nat → Nat → Option Nat} {σ : Nat → Nat → Int32} {p a b j : Nat} {z : Int32} (ht : g_at m pc = some (.baload, a, b, z)) (hs : g_shp p = .inl (true, len)) (hp : p < n) (h0 : p ≠ 1000) (hl : len ≤ 65536) (hj : j < len) (k : Ev X m (pc + 1) L (.int (σ p j) :: st) (n, ρ, σ) rr) : Ev X m pc L (.int (nI j) :: .ref p :: st) (n, ρ, σ) rr :=
  ev_bld ht hs hp h0 (vp_inN hj hl) (by rw [nI_cl (by omega)]; exact k)
theorem ev_astN {n len : Nat} {ρ : Nat → Nat → Option Nat} {σ : Nat → Nat → Int32} {p a b j : Nat} {z v : Int32} (ht : g_at m pc = some (.iastore, a, b, z)) (hs : g_shp p = .inl (false, len)) (hp : p < n) (hl : len ≤ 65536) (hj : j < len) (k : Ev X m (pc + 1) L st (n, ρ, g_up σ p j v) rr) : Ev X m pc L (.int v :: .int (nI j) :: .ref p :: st) (n, ρ, σ) rr :=
  ev_ast ht hs hp (vp_inN hj hl) (by rw [nI_cl (by omega)]; exact k)
theorem ev_bstN {n len : Nat} {ρ : Nat → Nat → Option Nat} {σ : Nat → Nat → Int32} {p a b j : Nat} {z v : Int32} (ht : g_at m pc = some (.bastore, a, b, z)) (hs : g_shp p = .inl (true, len)) (hp : p < n) (hl : len ≤ 65536) (hj : j < len) (k : Ev X m (pc + 1) L st (n, ρ, g_up σ p j (v &&& 1)) rr) : Ev X m pc L (.int v :: .int (nI j) :: .ref p :: st) (n, ρ, σ) rr :=
  ev_bst ht hs hp (vp_inN hj hl) (by rw [nI_cl (by omega)]; exact k)
theorem ev_xldN {a b j : Nat} {z : Int32} (ht : g_at m pc = some (.iaload, a, b, z)) (hX : X.1 ≤ 2048) (hj : j < X.1) (k : Ev X m (pc + 1) L (.int (X.2 j) :: st) g rr) : Ev X m pc L (.int (nI j) :: .ref 1000 :: st) g rr :=
  ev_xld ht (vp_in_nI hj (by omega)) (by rw [nI_cl (by omega)]; exact k)
/-- arithmetic of naturals -/
theorem ev_addN {a b x y : Nat} {z : Int32} (ht : g_at m pc = some (.iadd, x, y, z)) (k : Ev X m (pc + 1) L (.int (nI (a + b)) :: st) g rr) : Ev X m pc L (.int (nI b) :: .int (nI a) :: st) g rr := ev_i ht (by show Ev X m (pc + 1) L (.int (nI a + nI b) :: st) g rr; rw [nI_add]; exact k)
theorem ev_mulN {a b x y : Nat} {z : Int32} (ht : g_at m pc = some (.imul, x, y, z)) (k : Ev X m (pc + 1) L (.int (nI (a * b)) :: st) g rr) : Ev X m pc L (.int (nI b) :: .int (nI a) :: st) g rr := ev_i ht (by show Ev X m (pc + 1) L (.int (nI a * nI b) :: st) g rr; rw [pk_mul]; exact k)
theorem ev_subN {a b x y : Nat} {z : Int32} (ht : g_at m pc = some (.isub, x, y, z)) (h : b ≤ a) (k : Ev X m (pc + 1) L (.int (nI (a - b)) :: st) g rr) : Ev X m pc L (.int (nI b) :: .int (nI a) :: st) g rr := ev_i ht (by show Ev X m (pc + 1) L (.int (nI a - nI b) :: st) g rr; rw [pk_sub h]; exact k)
theorem nx_and' (a b : Nat) : nI a &&& nI b = nI (a &&& b) := by
  apply Int32.toBitVec_inj.mp
  rw [Int32.toBitVec_and]
  show BitVec.ofNat 32 a &&& BitVec.ofNat 32 b = BitVec.ofNat 32 (a &&& b)
  exact (BitVec.ofNat_and).symm
theorem nx_or' (a b : Nat) : nI a ||| nI b = nI (a ||| b) := by
  apply Int32.toBitVec_inj.mp
  rw [Int32.toBitVec_or]
  show BitVec.ofNat 32 a ||| BitVec.ofNat 32 b = BitVec.ofNat 32 (a ||| b)
  exact (BitVec.ofNat_or).symm
theorem nx_xor' (a b : Nat) : nI a ^^^ nI b = nI (a ^^^ b) := by
  apply Int32.toBitVec_inj.mp
  rw [Int32.toBitVec_xor]
  show BitVec.ofNat 32 a ^^^ BitVec.ofNat 32 b = BitVec.ofNat 32 (a ^^^ b)
  exact (BitVec.ofNat_xor).symm
theorem s_l' : ∀ n, n < 32 → ((nI n &&& 31).toBitVec.smod 32).toNat = n := by decide +kernel
theorem nx_shl {a k : Nat} (hk : k < 32) (h : a * 2 ^ k < 2 ^ 32) : nI a <<< (nI k &&& 31) = nI (a * 2 ^ k) := pk_shlN _ k (s_l' k hk) h
theorem nx_shr {a k : Nat} (hk : k < 32) (h : a < 2147483648) : nI a >>> (nI k &&& 31) = nI (a / 2 ^ k) := pk_shrN h _ k (s_l' k hk)
theorem nx_one {k : Nat} (hk : k < 32) : (1 : Int32) <<< (nI k &&& 31) = nI (2 ^ k) := by
  have h : (2 : Nat) ^ k < 2 ^ 32 := Nat.pow_lt_pow_right (by decide) hk
  have := nx_shl (a := 1) hk (by omega)
  rw [Nat.one_mul] at this
  exact this
theorem nx_bit' {a k : Nat} (hk : k < 32) (h : a < 2147483648) : (nI a >>> (nI k &&& 31)) &&& 1 = nI (a / 2 ^ k % 2) := by
  rw [nx_shr hk h]
  have e : (1 : Int32) = nI 1 := rfl
  rw [e, nx_and', Nat.and_one_is_mod]
theorem ev_andN {a b x y : Nat} {z : Int32} (ht : g_at m pc = some (.iand, x, y, z)) (k : Ev X m (pc + 1) L (.int (nI (a &&& b)) :: st) g rr) : Ev X m pc L (.int (nI b) :: .int (nI a) :: st) g rr := ev_i ht (by show Ev X m (pc + 1) L (.int (nI a &&& nI b) :: st) g rr; rw [nx_and']; exact k)
theorem ev_orN {a b x y : Nat} {z : Int32} (ht : g_at m pc = some (.ior, x, y, z)) (k : Ev X m (pc + 1) L (.int (nI (a ||| b)) :: st) g rr) : Ev X m pc L (.int (nI b) :: .int (nI a) :: st) g rr := ev_i ht (by show Ev X m (pc + 1) L (.int (nI a ||| nI b) :: st) g rr; rw [nx_or']; exact k)
theorem ev_xorN {a b x y : Nat} {z : Int32} (ht : g_at m pc = some (.ixor, x, y, z)) (k : Ev X m (pc + 1) L (.int (nI (a ^^^ b)) :: st) g rr) : Ev X m pc L (.int (nI b) :: .int (nI a) :: st) g rr := ev_i ht (by show Ev X m (pc + 1) L (.int (nI a ^^^ nI b) :: st) g rr; rw [nx_xor']; exact k)
theorem ev_shlN {a b x y : Nat} {z : Int32} (ht : g_at m pc = some (.ishl, x, y, z)) (hb : b < 31) (h : a * 2 ^ b < 4294967296) (k : Ev X m (pc + 1) L (.int (nI (a * 2 ^ b)) :: st) g rr) : Ev X m pc L (.int (nI b) :: .int (nI a) :: st) g rr := ev_i ht (by show Ev X m (pc + 1) L (.int (nI a <<< (nI b &&& 31)) :: st) g rr; rw [nx_shl (by omega) h]; exact k)
theorem ev_oneN {b x y : Nat} {z : Int32} (ht : g_at m pc = some (.ishl, x, y, z)) (hb : b < 31) (k : Ev X m (pc + 1) L (.int (nI (2 ^ b)) :: st) g rr) : Ev X m pc L (.int (nI b) :: .int (nI 1) :: st) g rr := ev_i ht (by show Ev X m (pc + 1) L (.int ((1 : Int32) <<< (nI b &&& 31)) :: st) g rr; rw [nx_one (by omega)]; exact k)
theorem ev_shrN {a b x y : Nat} {z : Int32} (ht : g_at m pc = some (.ishr, x, y, z)) (hb : b < 31) (h : a < 2147483648) (k : Ev X m (pc + 1) L (.int (nI (a / 2 ^ b)) :: st) g rr) : Ev X m pc L (.int (nI b) :: .int (nI a) :: st) g rr := ev_i ht (by show Ev X m (pc + 1) L (.int (nI a >>> (nI b &&& 31)) :: st) g rr; rw [nx_shr (by omega) h]; exact k)
/-- branches over naturals -/
theorem ic_ge {a b : Nat} (ha : a < 2147483648) (hb : b < 2147483648) : g_ic .ge (nI a) (nI b) ↔ b ≤ a := nI_leI hb ha
theorem ic_gt {a b : Nat} (ha : a < 2147483648) (hb : b < 2147483648) : g_ic .gt (nI a) (nI b) ↔ b < a := nI_ltI hb ha
theorem ic_le {a b : Nat} (ha : a < 2147483648) (hb : b < 2147483648) : g_ic .le (nI a) (nI b) ↔ a ≤ b := nI_leI ha hb
theorem ic_lt {a b : Nat} (ha : a < 2147483648) (hb : b < 2147483648) : g_ic .lt (nI a) (nI b) ↔ a < b := nI_ltI ha hb
theorem ic_eq {a b : Nat} (ha : a < 2147483648) (hb : b < 2147483648) : g_ic .eq (nI a) (nI b) ↔ a = b := nI_eq ha hb
theorem ic_ne {a b : Nat} (ha : a < 2147483648) (hb : b < 2147483648) : g_ic .ne (nI a) (nI b) ↔ ¬ a = b := not_congr (nI_eq ha hb)
theorem ev_if {c : ClassFile.Cond} {o : Int} {a b : Int32} {x y : Nat} {z : Int32} (ht : g_at m pc = some (.if_icmp c o, x, y, z)) (kt : g_ic c a b → Ev X m x L st g rr) (kf : ¬ g_ic c a b → Ev X m (pc + 3) L st g rr) : Ev X m pc L (.int b :: .int a :: st) g rr := ev_i ht ⟨kt, kf⟩
theorem ev_if0 {c : ClassFile.Cond} {o : Int} {a : Int32} {x y : Nat} {z : Int32} (ht : g_at m pc = some (.ifCond c o, x, y, z)) (kt : g_ic c a 0 → Ev X m x L st g rr) (kf : ¬ g_ic c a 0 → Ev X m (pc + 3) L st g rr) : Ev X m pc L (.int a :: st) g rr := ev_i ht ⟨kt, kf⟩
theorem ev_ifP {c : ClassFile.Cond} {o : Int} {a b : Int32} {x y : Nat} {z : Int32} {P : Prop} (ht : g_at m pc = some (.if_icmp c o, x, y, z)) (hP : g_ic c a b ↔ P) (kt : P → Ev X m x L st g rr) (kf : ¬ P → Ev X m (pc + 3) L st g rr) : Ev X m pc L (.int b :: .int a :: st) g rr := ev_i ht ⟨fun h => kt (hP.mp h), fun h => kf (fun q => h (hP.mpr q))⟩
theorem ev_if0P {c : ClassFile.Cond} {o : Int} {a : Int32} {x y : Nat} {z : Int32} {P : Prop} (ht : g_at m pc = some (.ifCond c o, x, y, z)) (hP : g_ic c a 0 ↔ P) (kt : P → Ev X m x L st g rr) (kf : ¬ P → Ev X m (pc + 3) L st g rr) : Ev X m pc L (.int a :: st) g rr := ev_i ht ⟨fun h => kt (hP.mp h), fun h => kf (fun q => h (hP.mpr q))⟩
/-- an answer that is a truth -/
def bI (b : Bool) : Int32 := if b then 1 else 0
theorem bI_eq0 {b : Bool} : g_ic .eq (bI b) 0 ↔ b = false := by
  show bI b = 0 ↔ b = false
  cases b <;> decide
theorem bI_ne0 {b : Bool} : g_ic .ne (bI b) 0 ↔ b = true := by
  show ¬ bI b = 0 ↔ b = true
  cases b <;> decide
theorem bI_and (b : Bool) : bI b &&& 1 = bI b := by cases b <;> decide
theorem bI_t {P : Prop} [Decidable P] (h : P) : (1 : Int32) = bI (decide P) := by rw [decide_eq_true h]; rfl
theorem bI_f {P : Prop} [Decidable P] (h : ¬ P) : (0 : Int32) = bI (decide P) := by rw [decide_eq_false h]; rfl
/-- calls -/
theorem ev_cs {i y nb : Nat} {z : Int32} {A r : List Value} {v : Option Value} {g1 : gS} (ht : g_at m pc = some (.invokestatic i, y, nb, z)) (h0 : y ≠ 998) (hp : g_pops nb st [] = some (A, r)) (hc : (r.map fun v => v.category).sum ≤ 8) (h : Cl X y A g v g1) (k : Ev X m (pc + 3) L (g_push v r) g1 rr) : Ev X m pc L st g rr := by
  refine ev_i ht ?_
  show (if y = 998 then _ else _)
  rw [if_neg h0]
  show (match g_pops nb st [] with
    | some (A, r) => g_call (Ev X) m pc y A L r g rr
    | none => False)
  rw [hp]
  exact ⟨hc, h.1, v, g1, h.2, k⟩
theorem ev_cv {i y nb q : Nat} {z : Int32} {A r : List Value} {v : Option Value} {g1 : gS} (ht : g_at m pc = some (.invokevirtual i, y, nb, z)) (hp : g_pops (nb + 1) st [] = some (.ref q :: A, r)) (hs : g_shp q = .inr (g_meth y).1) (hq : q < g.1) (hc : (r.map fun v => v.category).sum ≤ 8) (h : Cl X y (.ref q :: A) g v g1) (k : Ev X m (pc + 3) L (g_push v r) g1 rr) : Ev X m pc L st g rr := by
  refine ev_i ht ?_
  show (match g_pops (nb + 1) st [] with
    | some (.ref p :: A, r) => g_obj g p (g_meth y).1 (g_call (Ev X) m pc y (.ref p :: A) L r g rr)
    | _ => False)
  rw [hp]
  show g_obj g q (g_meth y).1 _
  unfold g_obj
  rw [hs]
  exact ⟨rfl, hq, hc, h.1, v, g1, h.2, k⟩
theorem ev_ci {i y nb q : Nat} {z : Int32} {A r : List Value} {v : Option Value} {g1 : gS} (ht : g_at m pc = some (.invokespecial i, y, nb, z)) (h0 : y ≠ 999) (hp : g_pops (nb + 1) st [] = some (.ref q :: A, r)) (hc : (r.map fun v => v.category).sum ≤ 8) (h : Cl X y (.ref q :: A) g v g1) (k : Ev X m (pc + 3) L (g_push v r) g1 rr) : Ev X m pc L st g rr := by
  refine ev_i ht ?_
  show (if y = 999 then _ else _)
  rw [if_neg h0]
  show (match g_pops (nb + 1) st [] with
    | some (.ref p :: A, r) => g_call (Ev X) m pc y (.ref p :: A) L r g rr
    | _ => False)
  rw [hp]
  exact ⟨hc, h.1, v, g1, h.2, k⟩
theorem ev_max {i nb a b : Nat} {z : Int32} (ht : g_at m pc = some (.invokestatic i, 998, nb, z)) (ha : a < 2147483648) (hb : b < 2147483648) (hc : (st.map fun v => v.category).sum ≤ 8) (k : Ev X m (pc + 3) L (.int (nI (max a b)) :: st) g rr) : Ev X m pc L (.int (nI b) :: .int (nI a) :: st) g rr := by
  refine ev_i ht ?_
  show (st.map fun v => v.category).sum ≤ 8 ∧ Ev X m (pc + 3) L (.int (if nI a < nI b then nI b else nI a) :: st) g rr
  refine ⟨hc, ?_⟩
  have e : (if nI a < nI b then nI b else nI a) = nI (max a b) := by
    by_cases h : a < b
    · rw [if_pos ((nI_ltI ha hb).mpr h), Nat.max_eq_right (by omega)]
    · rw [if_neg (fun q => h ((nI_ltI ha hb).mp q)), Nat.max_eq_left (by omega)]
  rw [e]
  exact k
theorem ev_ri {a b : Nat} {z v : Int32} (ht : g_at m pc = some (.ireturn, a, b, z)) (hz : g_isZ m = true → v &&& 1 = v) (h : rr = (some (.int v), g)) : Ev X m pc L [.int v] g rr := ev_i ht ⟨hz, h⟩
theorem ev_rv {a b : Nat} {z : Int32} (ht : g_at m pc = some (.return_, a, b, z)) (h : rr = (none, g)) : Ev X m pc L [] g rr := ev_i ht ⟨rfl, h⟩
end RU
end
section
theorem t0_0 : g_at 0 0 = some (.aload_n 0, 0, 0, 0) := by decide +kernel
theorem t0_1 : g_at 0 1 = some (.invokespecial 3, 999, 0, 0) := by decide +kernel
theorem t0_4 : g_at 0 4 = some (.aload_n 0, 0, 0, 0) := by decide +kernel
theorem t0_5 : g_at 0 5 = some (.bipush (120), 0, 0, 120) := by decide +kernel
theorem t0_7 : g_at 0 7 = some (.newarray .int, 0, 0, 0) := by decide +kernel
theorem t0_9 : g_at 0 9 = some (.putfield 9, 2, 0, 0) := by decide +kernel
theorem t0_12 : g_at 0 12 = some (.return_, 0, 0, 0) := by decide +kernel
theorem t1_0 : g_at 1 0 = some (.aload_n 0, 0, 0, 0) := by decide +kernel
theorem t1_1 : g_at 1 1 = some (.invokespecial 3, 999, 0, 0) := by decide +kernel
theorem t1_4 : g_at 1 4 = some (.aload_n 0, 0, 0, 0) := by decide +kernel
theorem t1_5 : g_at 1 5 = some (.bipush (26), 0, 0, 26) := by decide +kernel
theorem t1_7 : g_at 1 7 = some (.newarray .int, 0, 0, 0) := by decide +kernel
theorem t1_9 : g_at 1 9 = some (.putfield 9, 0, 6, 0) := by decide +kernel
theorem t1_12 : g_at 1 12 = some (.aload_n 0, 0, 0, 0) := by decide +kernel
theorem t1_13 : g_at 1 13 = some (.bipush (26), 0, 0, 26) := by decide +kernel
theorem t1_15 : g_at 1 15 = some (.newarray .int, 0, 0, 0) := by decide +kernel
theorem t1_17 : g_at 1 17 = some (.putfield 15, 0, 7, 0) := by decide +kernel
theorem t1_20 : g_at 1 20 = some (.aload_n 0, 0, 0, 0) := by decide +kernel
theorem t1_21 : g_at 1 21 = some (.bipush (26), 0, 0, 26) := by decide +kernel
theorem t1_23 : g_at 1 23 = some (.newarray .int, 0, 0, 0) := by decide +kernel
theorem t1_25 : g_at 1 25 = some (.putfield 18, 0, 8, 0) := by decide +kernel
theorem t1_28 : g_at 1 28 = some (.return_, 0, 0, 0) := by decide +kernel
theorem t2_0 : g_at 2 0 = some (.aload_n 0, 0, 0, 0) := by decide +kernel
theorem t2_1 : g_at 2 1 = some (.invokespecial 3, 999, 0, 0) := by decide +kernel
theorem t2_4 : g_at 2 4 = some (.aload_n 0, 0, 0, 0) := by decide +kernel
theorem t2_5 : g_at 2 5 = some (.iconst 3, 0, 0, 3) := by decide +kernel
theorem t2_6 : g_at 2 6 = some (.putfield 9, 1, 0, 0) := by decide +kernel
theorem t2_9 : g_at 2 9 = some (.aload_n 0, 0, 0, 0) := by decide +kernel
theorem t2_10 : g_at 2 10 = some (.bipush (8), 0, 0, 8) := by decide +kernel
theorem t2_12 : g_at 2 12 = some (.newarray .int, 0, 0, 0) := by decide +kernel
theorem t2_14 : g_at 2 14 = some (.putfield 15, 1, 6, 0) := by decide +kernel
theorem t2_17 : g_at 2 17 = some (.aload_n 0, 0, 0, 0) := by decide +kernel
theorem t2_18 : g_at 2 18 = some (.bipush (8), 0, 0, 8) := by decide +kernel
theorem t2_20 : g_at 2 20 = some (.newarray .int, 0, 0, 0) := by decide +kernel
theorem t2_22 : g_at 2 22 = some (.putfield 19, 1, 7, 0) := by decide +kernel
theorem t2_25 : g_at 2 25 = some (.aload_n 0, 0, 0, 0) := by decide +kernel
theorem t2_26 : g_at 2 26 = some (.bipush (8), 0, 0, 8) := by decide +kernel
theorem t2_28 : g_at 2 28 = some (.newarray .int, 0, 0, 0) := by decide +kernel
theorem t2_30 : g_at 2 30 = some (.putfield 22, 1, 8, 0) := by decide +kernel
theorem t2_33 : g_at 2 33 = some (.aload_n 0, 0, 0, 0) := by decide +kernel
theorem t2_34 : g_at 2 34 = some (.bipush (8), 0, 0, 8) := by decide +kernel
theorem t2_36 : g_at 2 36 = some (.newarray .int, 0, 0, 0) := by decide +kernel
theorem t2_38 : g_at 2 38 = some (.putfield 25, 1, 9, 0) := by decide +kernel
theorem t2_41 : g_at 2 41 = some (.aload_n 0, 0, 0, 0) := by decide +kernel
theorem t2_42 : g_at 2 42 = some (.sipush (256), 0, 0, 256) := by decide +kernel
theorem t2_45 : g_at 2 45 = some (.newarray .int, 0, 0, 0) := by decide +kernel
theorem t2_47 : g_at 2 47 = some (.putfield 28, 1, 10, 0) := by decide +kernel
theorem t2_50 : g_at 2 50 = some (.aload_n 0, 0, 0, 0) := by decide +kernel
theorem t2_51 : g_at 2 51 = some (.sipush (256), 0, 0, 256) := by decide +kernel
theorem t2_54 : g_at 2 54 = some (.newarray .int, 0, 0, 0) := by decide +kernel
theorem t2_56 : g_at 2 56 = some (.putfield 31, 1, 11, 0) := by decide +kernel
theorem t2_59 : g_at 2 59 = some (.aload_n 0, 0, 0, 0) := by decide +kernel
theorem t2_60 : g_at 2 60 = some (.sipush (256), 0, 0, 256) := by decide +kernel
theorem t2_63 : g_at 2 63 = some (.newarray .int, 0, 0, 0) := by decide +kernel
theorem t2_65 : g_at 2 65 = some (.putfield 34, 1, 12, 0) := by decide +kernel
theorem t2_68 : g_at 2 68 = some (.aload_n 0, 0, 0, 0) := by decide +kernel
theorem t2_69 : g_at 2 69 = some (.bipush (6), 0, 0, 6) := by decide +kernel
theorem t2_71 : g_at 2 71 = some (.newarray .int, 0, 0, 0) := by decide +kernel
theorem t2_73 : g_at 2 73 = some (.putfield 37, 1, 13, 0) := by decide +kernel
theorem t2_76 : g_at 2 76 = some (.return_, 0, 0, 0) := by decide +kernel
theorem t3_0 : g_at 3 0 = some (.aload_n 0, 0, 0, 0) := by decide +kernel
theorem t3_1 : g_at 3 1 = some (.getfield 33, 3, 6, 0) := by decide +kernel
theorem t3_4 : g_at 3 4 = some (.iconst 0, 0, 0, 0) := by decide +kernel
theorem t3_5 : g_at 3 5 = some (.iload_n 1, 0, 0, 0) := by decide +kernel
theorem t3_6 : g_at 3 6 = some (.iastore, 0, 0, 0) := by decide +kernel
theorem t3_7 : g_at 3 7 = some (.aload_n 0, 0, 0, 0) := by decide +kernel
theorem t3_8 : g_at 3 8 = some (.getfield 33, 3, 6, 0) := by decide +kernel
theorem t3_11 : g_at 3 11 = some (.iconst 1, 0, 0, 1) := by decide +kernel
theorem t3_12 : g_at 3 12 = some (.iload_n 2, 0, 0, 0) := by decide +kernel
theorem t3_13 : g_at 3 13 = some (.iastore, 0, 0, 0) := by decide +kernel
theorem t3_14 : g_at 3 14 = some (.aload_n 0, 0, 0, 0) := by decide +kernel
theorem t3_15 : g_at 3 15 = some (.getfield 33, 3, 6, 0) := by decide +kernel
theorem t3_18 : g_at 3 18 = some (.iconst 2, 0, 0, 2) := by decide +kernel
theorem t3_19 : g_at 3 19 = some (.iload_n 3, 0, 0, 0) := by decide +kernel
theorem t3_20 : g_at 3 20 = some (.iastore, 0, 0, 0) := by decide +kernel
theorem t3_21 : g_at 3 21 = some (.return_, 0, 0, 0) := by decide +kernel
theorem t4_0 : g_at 4 0 = some (.aload_n 0, 0, 0, 0) := by decide +kernel
theorem t4_1 : g_at 4 1 = some (.aload_n 0, 0, 0, 0) := by decide +kernel
theorem t4_2 : g_at 4 2 = some (.getfield 26, 3, 2, 0) := by decide +kernel
theorem t4_5 : g_at 4 5 = some (.getfield 73, 1, 4, 0) := by decide +kernel
theorem t4_8 : g_at 4 8 = some (.putfield 95, 3, 4, 0) := by decide +kernel
theorem t4_11 : g_at 4 11 = some (.aload_n 0, 0, 0, 0) := by decide +kernel
theorem t4_12 : g_at 4 12 = some (.aload_n 0, 0, 0, 0) := by decide +kernel
theorem t4_13 : g_at 4 13 = some (.getfield 26, 3, 2, 0) := by decide +kernel
theorem t4_16 : g_at 4 16 = some (.getfield 222, 1, 5, 0) := by decide +kernel
theorem t4_19 : g_at 4 19 = some (.putfield 102, 3, 5, 0) := by decide +kernel
theorem t4_22 : g_at 4 22 = some (.aload_n 0, 0, 0, 0) := by decide +kernel
theorem t4_23 : g_at 4 23 = some (.iconst 1, 0, 0, 1) := by decide +kernel
theorem t4_24 : g_at 4 24 = some (.iconst 2, 0, 0, 2) := by decide +kernel
theorem t4_25 : g_at 4 25 = some (.iconst 3, 0, 0, 3) := by decide +kernel
theorem t4_26 : g_at 4 26 = some (.invokevirtual 155, 3, 3, 0) := by decide +kernel
theorem t4_29 : g_at 4 29 = some (.aload_n 0, 0, 0, 0) := by decide +kernel
theorem t4_30 : g_at 4 30 = some (.iconst 0, 0, 0, 0) := by decide +kernel
theorem t4_31 : g_at 4 31 = some (.putfield 159, 3, 8, 0) := by decide +kernel
theorem t4_34 : g_at 4 34 = some (.aload_n 0, 0, 0, 0) := by decide +kernel
theorem t4_35 : g_at 4 35 = some (.iconst 0, 0, 0, 0) := by decide +kernel
theorem t4_36 : g_at 4 36 = some (.putfield 146, 3, 10, 0) := by decide +kernel
theorem t4_39 : g_at 4 39 = some (.aload_n 0, 0, 0, 0) := by decide +kernel
theorem t4_40 : g_at 4 40 = some (.iconst 0, 0, 0, 0) := by decide +kernel
theorem t4_41 : g_at 4 41 = some (.putfield 193, 3, 14, 0) := by decide +kernel
theorem t4_44 : g_at 4 44 = some (.aload_n 0, 0, 0, 0) := by decide +kernel
theorem t4_45 : g_at 4 45 = some (.iconst 0, 0, 0, 0) := by decide +kernel
theorem t4_46 : g_at 4 46 = some (.putfield 219, 3, 12, 0) := by decide +kernel
theorem t4_49 : g_at 4 49 = some (.return_, 0, 0, 0) := by decide +kernel
theorem t5_0 : g_at 5 0 = some (.aload_n 0, 0, 0, 0) := by decide +kernel
theorem t5_1 : g_at 5 1 = some (.invokespecial 3, 999, 0, 0) := by decide +kernel
theorem t5_4 : g_at 5 4 = some (.aload_n 0, 0, 0, 0) := by decide +kernel
theorem t5_5 : g_at 5 5 = some (.new 9, 2, 0, 0) := by decide +kernel
theorem t5_8 : g_at 5 8 = some (.dup, 0, 0, 0) := by decide +kernel
theorem t5_9 : g_at 5 9 = some (.invokespecial 11, 0, 0, 0) := by decide +kernel
theorem t5_12 : g_at 5 12 = some (.putfield 12, 3, 0, 0) := by decide +kernel
theorem t5_15 : g_at 5 15 = some (.aload_n 0, 0, 0, 0) := by decide +kernel
theorem t5_16 : g_at 5 16 = some (.new 16, 0, 0, 0) := by decide +kernel
theorem t5_19 : g_at 5 19 = some (.dup, 0, 0, 0) := by decide +kernel
theorem t5_20 : g_at 5 20 = some (.invokespecial 18, 1, 0, 0) := by decide +kernel
theorem t5_23 : g_at 5 23 = some (.putfield 19, 3, 1, 0) := by decide +kernel
theorem t5_26 : g_at 5 26 = some (.aload_n 0, 0, 0, 0) := by decide +kernel
theorem t5_27 : g_at 5 27 = some (.new 23, 1, 0, 0) := by decide +kernel
theorem t5_30 : g_at 5 30 = some (.dup, 0, 0, 0) := by decide +kernel
theorem t5_31 : g_at 5 31 = some (.invokespecial 25, 2, 0, 0) := by decide +kernel
theorem t5_34 : g_at 5 34 = some (.putfield 26, 3, 2, 0) := by decide +kernel
theorem t5_37 : g_at 5 37 = some (.aload_n 0, 0, 0, 0) := by decide +kernel
theorem t5_38 : g_at 5 38 = some (.new 23, 1, 0, 0) := by decide +kernel
theorem t5_41 : g_at 5 41 = some (.dup, 0, 0, 0) := by decide +kernel
theorem t5_42 : g_at 5 42 = some (.invokespecial 25, 2, 0, 0) := by decide +kernel
theorem t5_45 : g_at 5 45 = some (.putfield 30, 3, 3, 0) := by decide +kernel
theorem t5_48 : g_at 5 48 = some (.aload_n 0, 0, 0, 0) := by decide +kernel
theorem t5_49 : g_at 5 49 = some (.iconst 3, 0, 0, 3) := by decide +kernel
theorem t5_50 : g_at 5 50 = some (.newarray .int, 0, 0, 0) := by decide +kernel
theorem t5_52 : g_at 5 52 = some (.putfield 33, 3, 6, 0) := by decide +kernel
theorem t5_55 : g_at 5 55 = some (.aload_n 0, 0, 0, 0) := by decide +kernel
theorem t5_56 : g_at 5 56 = some (.bipush (12), 0, 0, 12) := by decide +kernel
theorem t5_58 : g_at 5 58 = some (.newarray .int, 0, 0, 0) := by decide +kernel
theorem t5_60 : g_at 5 60 = some (.putfield 37, 3, 7, 0) := by decide +kernel
theorem t5_63 : g_at 5 63 = some (.aload_n 0, 0, 0, 0) := by decide +kernel
theorem t5_64 : g_at 5 64 = some (.bipush (10), 0, 0, 10) := by decide +kernel
theorem t5_66 : g_at 5 66 = some (.newarray .int, 0, 0, 0) := by decide +kernel
theorem t5_68 : g_at 5 68 = some (.putfield 40, 3, 9, 0) := by decide +kernel
theorem t5_71 : g_at 5 71 = some (.aload_n 0, 0, 0, 0) := by decide +kernel
theorem t5_72 : g_at 5 72 = some (.iconst 2, 0, 0, 2) := by decide +kernel
theorem t5_73 : g_at 5 73 = some (.newarray .int, 0, 0, 0) := by decide +kernel
theorem t5_75 : g_at 5 75 = some (.putfield 43, 3, 11, 0) := by decide +kernel
theorem t5_78 : g_at 5 78 = some (.aload_n 0, 0, 0, 0) := by decide +kernel
theorem t5_79 : g_at 5 79 = some (.bipush (6), 0, 0, 6) := by decide +kernel
theorem t5_81 : g_at 5 81 = some (.newarray .int, 0, 0, 0) := by decide +kernel
theorem t5_83 : g_at 5 83 = some (.putfield 46, 3, 13, 0) := by decide +kernel
theorem t5_86 : g_at 5 86 = some (.aload_n 0, 0, 0, 0) := by decide +kernel
theorem t5_87 : g_at 5 87 = some (.sipush (256), 0, 0, 256) := by decide +kernel
theorem t5_90 : g_at 5 90 = some (.newarray .int, 0, 0, 0) := by decide +kernel
theorem t5_92 : g_at 5 92 = some (.putfield 49, 3, 15, 0) := by decide +kernel
theorem t5_95 : g_at 5 95 = some (.aload_n 0, 0, 0, 0) := by decide +kernel
theorem t5_96 : g_at 5 96 = some (.invokevirtual 52, 4, 0, 0) := by decide +kernel
theorem t5_99 : g_at 5 99 = some (.return_, 0, 0, 0) := by decide +kernel
theorem t6_0 : g_at 6 0 = some (.iconst 0, 0, 0, 0) := by decide +kernel
theorem t6_1 : g_at 6 1 = some (.istore_n 1, 0, 0, 0) := by decide +kernel
theorem t6_2 : g_at 6 2 = some (.iload_n 1, 0, 0, 0) := by decide +kernel
theorem t6_3 : g_at 6 3 = some (.bipush (36), 0, 0, 36) := by decide +kernel
theorem t6_5 : g_at 6 5 = some (.if_icmp .ge (16), 21, 0, 0) := by decide +kernel
theorem t6_8 : g_at 6 8 = some (.aload_n 0, 0, 0, 0) := by decide +kernel
theorem t6_9 : g_at 6 9 = some (.getfield 16, 4, 9, 0) := by decide +kernel
theorem t6_12 : g_at 6 12 = some (.iload_n 1, 0, 0, 0) := by decide +kernel
theorem t6_13 : g_at 6 13 = some (.iconst 0, 0, 0, 0) := by decide +kernel
theorem t6_14 : g_at 6 14 = some (.iastore, 0, 0, 0) := by decide +kernel
theorem t6_15 : g_at 6 15 = some (.iinc 1 (1), 0, 0, 1) := by decide +kernel
theorem t6_18 : g_at 6 18 = some (.goto (-16), 2, 0, 0) := by decide +kernel
theorem t6_21 : g_at 6 21 = some (.aload_n 0, 0, 0, 0) := by decide +kernel
theorem t6_22 : g_at 6 22 = some (.getfield 16, 4, 9, 0) := by decide +kernel
theorem t6_25 : g_at 6 25 = some (.iconst 0, 0, 0, 0) := by decide +kernel
theorem t6_26 : g_at 6 26 = some (.iconst 3, 0, 0, 3) := by decide +kernel
theorem t6_27 : g_at 6 27 = some (.iastore, 0, 0, 0) := by decide +kernel
theorem t6_28 : g_at 6 28 = some (.aload_n 0, 0, 0, 0) := by decide +kernel
theorem t6_29 : g_at 6 29 = some (.getfield 19, 4, 10, 0) := by decide +kernel
theorem t6_32 : g_at 6 32 = some (.iconst 0, 0, 0, 0) := by decide +kernel
theorem t6_33 : g_at 6 33 = some (.iconst 0, 0, 0, 0) := by decide +kernel
theorem t6_34 : g_at 6 34 = some (.iastore, 0, 0, 0) := by decide +kernel
theorem t6_35 : g_at 6 35 = some (.aload_n 0, 0, 0, 0) := by decide +kernel
theorem t6_36 : g_at 6 36 = some (.getfield 19, 4, 10, 0) := by decide +kernel
theorem t6_39 : g_at 6 39 = some (.iconst 1, 0, 0, 1) := by decide +kernel
theorem t6_40 : g_at 6 40 = some (.iconst 0, 0, 0, 0) := by decide +kernel
theorem t6_41 : g_at 6 41 = some (.iastore, 0, 0, 0) := by decide +kernel
theorem t6_42 : g_at 6 42 = some (.aload_n 0, 0, 0, 0) := by decide +kernel
theorem t6_43 : g_at 6 43 = some (.getfield 19, 4, 10, 0) := by decide +kernel
theorem t6_46 : g_at 6 46 = some (.iconst 2, 0, 0, 2) := by decide +kernel
theorem t6_47 : g_at 6 47 = some (.iconst 1, 0, 0, 1) := by decide +kernel
theorem t6_48 : g_at 6 48 = some (.iastore, 0, 0, 0) := by decide +kernel
theorem t6_49 : g_at 6 49 = some (.aload_n 0, 0, 0, 0) := by decide +kernel
theorem t6_50 : g_at 6 50 = some (.getfield 19, 4, 10, 0) := by decide +kernel
theorem t6_53 : g_at 6 53 = some (.iconst 3, 0, 0, 3) := by decide +kernel
theorem t6_54 : g_at 6 54 = some (.iconst 2, 0, 0, 2) := by decide +kernel
theorem t6_55 : g_at 6 55 = some (.iastore, 0, 0, 0) := by decide +kernel
theorem t6_56 : g_at 6 56 = some (.aload_n 0, 0, 0, 0) := by decide +kernel
theorem t6_57 : g_at 6 57 = some (.getfield 19, 4, 10, 0) := by decide +kernel
theorem t6_60 : g_at 6 60 = some (.iconst 4, 0, 0, 4) := by decide +kernel
theorem t6_61 : g_at 6 61 = some (.iconst 3, 0, 0, 3) := by decide +kernel
theorem t6_62 : g_at 6 62 = some (.iastore, 0, 0, 0) := by decide +kernel
theorem t6_63 : g_at 6 63 = some (.return_, 0, 0, 0) := by decide +kernel
theorem t7_0 : g_at 7 0 = some (.iconst 0, 0, 0, 0) := by decide +kernel
theorem t7_1 : g_at 7 1 = some (.istore_n 1, 0, 0, 0) := by decide +kernel
theorem t7_2 : g_at 7 2 = some (.iload_n 1, 0, 0, 0) := by decide +kernel
theorem t7_3 : g_at 7 3 = some (.bipush (36), 0, 0, 36) := by decide +kernel
theorem t7_5 : g_at 7 5 = some (.if_icmp .ge (21), 26, 0, 0) := by decide +kernel
theorem t7_8 : g_at 7 8 = some (.aload_n 0, 0, 0, 0) := by decide +kernel
theorem t7_9 : g_at 7 9 = some (.getfield 13, 4, 8, 0) := by decide +kernel
theorem t7_12 : g_at 7 12 = some (.iload_n 1, 0, 0, 0) := by decide +kernel
theorem t7_13 : g_at 7 13 = some (.aload_n 0, 0, 0, 0) := by decide +kernel
theorem t7_14 : g_at 7 14 = some (.getfield 16, 4, 9, 0) := by decide +kernel
theorem t7_17 : g_at 7 17 = some (.iload_n 1, 0, 0, 0) := by decide +kernel
theorem t7_18 : g_at 7 18 = some (.iaload, 0, 0, 0) := by decide +kernel
theorem t7_19 : g_at 7 19 = some (.iastore, 0, 0, 0) := by decide +kernel
theorem t7_20 : g_at 7 20 = some (.iinc 1 (1), 0, 0, 1) := by decide +kernel
theorem t7_23 : g_at 7 23 = some (.goto (-21), 2, 0, 0) := by decide +kernel
theorem t7_26 : g_at 7 26 = some (.iconst 0, 0, 0, 0) := by decide +kernel
theorem t7_27 : g_at 7 27 = some (.istore_n 1, 0, 0, 0) := by decide +kernel
theorem t7_28 : g_at 7 28 = some (.iload_n 1, 0, 0, 0) := by decide +kernel
theorem t7_29 : g_at 7 29 = some (.iconst 5, 0, 0, 5) := by decide +kernel
theorem t7_30 : g_at 7 30 = some (.if_icmp .ge (21), 51, 0, 0) := by decide +kernel
theorem t7_33 : g_at 7 33 = some (.aload_n 0, 0, 0, 0) := by decide +kernel
theorem t7_34 : g_at 7 34 = some (.getfield 22, 4, 11, 0) := by decide +kernel
theorem t7_37 : g_at 7 37 = some (.iload_n 1, 0, 0, 0) := by decide +kernel
theorem t7_38 : g_at 7 38 = some (.aload_n 0, 0, 0, 0) := by decide +kernel
theorem t7_39 : g_at 7 39 = some (.getfield 19, 4, 10, 0) := by decide +kernel
theorem t7_42 : g_at 7 42 = some (.iload_n 1, 0, 0, 0) := by decide +kernel
theorem t7_43 : g_at 7 43 = some (.iaload, 0, 0, 0) := by decide +kernel
theorem t7_44 : g_at 7 44 = some (.iastore, 0, 0, 0) := by decide +kernel
theorem t7_45 : g_at 7 45 = some (.iinc 1 (1), 0, 0, 1) := by decide +kernel
theorem t7_48 : g_at 7 48 = some (.goto (-20), 28, 0, 0) := by decide +kernel
theorem t7_51 : g_at 7 51 = some (.aload_n 0, 0, 0, 0) := by decide +kernel
theorem t7_52 : g_at 7 52 = some (.iconst 0, 0, 0, 0) := by decide +kernel
theorem t7_53 : g_at 7 53 = some (.putfield 70, 4, 2, 0) := by decide +kernel
theorem t7_56 : g_at 7 56 = some (.aload_n 0, 0, 0, 0) := by decide +kernel
theorem t7_57 : g_at 7 57 = some (.iconst 0, 0, 0, 0) := by decide +kernel
theorem t7_58 : g_at 7 58 = some (.putfield 141, 4, 17, 0) := by decide +kernel
theorem t7_61 : g_at 7 61 = some (.aload_n 0, 0, 0, 0) := by decide +kernel
theorem t7_62 : g_at 7 62 = some (.iconst 0, 0, 0, 0) := by decide +kernel
theorem t7_63 : g_at 7 63 = some (.putfield 144, 4, 20, 0) := by decide +kernel
theorem t7_66 : g_at 7 66 = some (.aload_n 0, 0, 0, 0) := by decide +kernel
theorem t7_67 : g_at 7 67 = some (.iconst 0, 0, 0, 0) := by decide +kernel
theorem t7_68 : g_at 7 68 = some (.putfield 147, 4, 13, 0) := by decide +kernel
theorem t7_71 : g_at 7 71 = some (.aload_n 0, 0, 0, 0) := by decide +kernel
theorem t7_72 : g_at 7 72 = some (.getfield 31, 4, 15, 0) := by decide +kernel
theorem t7_75 : g_at 7 75 = some (.iconst 0, 0, 0, 0) := by decide +kernel
theorem t7_76 : g_at 7 76 = some (.iconst 0, 0, 0, 0) := by decide +kernel
theorem t7_77 : g_at 7 77 = some (.bastore, 0, 0, 0) := by decide +kernel
theorem t7_78 : g_at 7 78 = some (.aload_n 0, 0, 0, 0) := by decide +kernel
theorem t7_79 : g_at 7 79 = some (.getfield 31, 4, 15, 0) := by decide +kernel
theorem t7_82 : g_at 7 82 = some (.iconst 1, 0, 0, 1) := by decide +kernel
theorem t7_83 : g_at 7 83 = some (.iconst 0, 0, 0, 0) := by decide +kernel
theorem t7_84 : g_at 7 84 = some (.bastore, 0, 0, 0) := by decide +kernel
theorem t7_85 : g_at 7 85 = some (.return_, 0, 0, 0) := by decide +kernel
theorem t8_0 : g_at 8 0 = some (.aload_n 0, 0, 0, 0) := by decide +kernel
theorem t8_1 : g_at 8 1 = some (.invokespecial 1, 999, 0, 0) := by decide +kernel
theorem t8_4 : g_at 8 4 = some (.aload_n 0, 0, 0, 0) := by decide +kernel
theorem t8_5 : g_at 8 5 = some (.bipush (120), 0, 0, 120) := by decide +kernel
theorem t8_7 : g_at 8 7 = some (.newarray .int, 0, 0, 0) := by decide +kernel
theorem t8_9 : g_at 8 9 = some (.putfield 7, 4, 1, 0) := by decide +kernel
theorem t8_12 : g_at 8 12 = some (.aload_n 0, 0, 0, 0) := by decide +kernel
theorem t8_13 : g_at 8 13 = some (.bipush (36), 0, 0, 36) := by decide +kernel
theorem t8_15 : g_at 8 15 = some (.newarray .int, 0, 0, 0) := by decide +kernel
theorem t8_17 : g_at 8 17 = some (.putfield 13, 4, 8, 0) := by decide +kernel
theorem t8_20 : g_at 8 20 = some (.aload_n 0, 0, 0, 0) := by decide +kernel
theorem t8_21 : g_at 8 21 = some (.bipush (36), 0, 0, 36) := by decide +kernel
theorem t8_23 : g_at 8 23 = some (.newarray .int, 0, 0, 0) := by decide +kernel
theorem t8_25 : g_at 8 25 = some (.putfield 16, 4, 9, 0) := by decide +kernel
theorem t8_28 : g_at 8 28 = some (.aload_n 0, 0, 0, 0) := by decide +kernel
theorem t8_29 : g_at 8 29 = some (.iconst 5, 0, 0, 5) := by decide +kernel
theorem t8_30 : g_at 8 30 = some (.newarray .int, 0, 0, 0) := by decide +kernel
theorem t8_32 : g_at 8 32 = some (.putfield 19, 4, 10, 0) := by decide +kernel
theorem t8_35 : g_at 8 35 = some (.aload_n 0, 0, 0, 0) := by decide +kernel
theorem t8_36 : g_at 8 36 = some (.iconst 5, 0, 0, 5) := by decide +kernel
theorem t8_37 : g_at 8 37 = some (.newarray .int, 0, 0, 0) := by decide +kernel
theorem t8_39 : g_at 8 39 = some (.putfield 22, 4, 11, 0) := by decide +kernel
theorem t8_42 : g_at 8 42 = some (.aload_n 0, 0, 0, 0) := by decide +kernel
theorem t8_43 : g_at 8 43 = some (.bipush (50), 0, 0, 50) := by decide +kernel
theorem t8_45 : g_at 8 45 = some (.newarray .int, 0, 0, 0) := by decide +kernel
theorem t8_47 : g_at 8 47 = some (.putfield 25, 4, 12, 0) := by decide +kernel
theorem t8_50 : g_at 8 50 = some (.aload_n 0, 0, 0, 0) := by decide +kernel
theorem t8_51 : g_at 8 51 = some (.bipush (10), 0, 0, 10) := by decide +kernel
theorem t8_53 : g_at 8 53 = some (.newarray .int, 0, 0, 0) := by decide +kernel
theorem t8_55 : g_at 8 55 = some (.putfield 28, 4, 14, 0) := by decide +kernel
theorem t8_58 : g_at 8 58 = some (.aload_n 0, 0, 0, 0) := by decide +kernel
theorem t8_59 : g_at 8 59 = some (.iconst 2, 0, 0, 2) := by decide +kernel
theorem t8_60 : g_at 8 60 = some (.newarray .boolean, 1, 0, 0) := by decide +kernel
theorem t8_62 : g_at 8 62 = some (.putfield 31, 4, 15, 0) := by decide +kernel
theorem t8_65 : g_at 8 65 = some (.aload_n 0, 0, 0, 0) := by decide +kernel
theorem t8_66 : g_at 8 66 = some (.bipush (12), 0, 0, 12) := by decide +kernel
theorem t8_68 : g_at 8 68 = some (.newarray .int, 0, 0, 0) := by decide +kernel
theorem t8_70 : g_at 8 70 = some (.putfield 35, 4, 16, 0) := by decide +kernel
theorem t8_73 : g_at 8 73 = some (.aload_n 0, 0, 0, 0) := by decide +kernel
theorem t8_74 : g_at 8 74 = some (.bipush (6), 0, 0, 6) := by decide +kernel
theorem t8_76 : g_at 8 76 = some (.newarray .int, 0, 0, 0) := by decide +kernel
theorem t8_78 : g_at 8 78 = some (.putfield 38, 4, 18, 0) := by decide +kernel
theorem t8_81 : g_at 8 81 = some (.aload_n 0, 0, 0, 0) := by decide +kernel
theorem t8_82 : g_at 8 82 = some (.bipush (6), 0, 0, 6) := by decide +kernel
theorem t8_84 : g_at 8 84 = some (.newarray .int, 0, 0, 0) := by decide +kernel
theorem t8_86 : g_at 8 86 = some (.putfield 41, 4, 19, 0) := by decide +kernel
theorem t8_89 : g_at 8 89 = some (.aload_n 0, 0, 0, 0) := by decide +kernel
theorem t8_90 : g_at 8 90 = some (.bipush (6), 0, 0, 6) := by decide +kernel
theorem t8_92 : g_at 8 92 = some (.newarray .int, 0, 0, 0) := by decide +kernel
theorem t8_94 : g_at 8 94 = some (.putfield 44, 4, 21, 0) := by decide +kernel
theorem t8_97 : g_at 8 97 = some (.aload_n 0, 0, 0, 0) := by decide +kernel
theorem t8_98 : g_at 8 98 = some (.sipush (256), 0, 0, 256) := by decide +kernel
theorem t8_101 : g_at 8 101 = some (.newarray .int, 0, 0, 0) := by decide +kernel
theorem t8_103 : g_at 8 103 = some (.putfield 47, 4, 22, 0) := by decide +kernel
theorem t8_106 : g_at 8 106 = some (.aload_n 0, 0, 0, 0) := by decide +kernel
theorem t8_107 : g_at 8 107 = some (.sipush (256), 0, 0, 256) := by decide +kernel
theorem t8_110 : g_at 8 110 = some (.newarray .boolean, 1, 0, 0) := by decide +kernel
theorem t8_112 : g_at 8 112 = some (.putfield 50, 4, 23, 0) := by decide +kernel
theorem t8_115 : g_at 8 115 = some (.aload_n 0, 0, 0, 0) := by decide +kernel
theorem t8_116 : g_at 8 116 = some (.sipush (2048), 0, 0, 2048) := by decide +kernel
theorem t8_119 : g_at 8 119 = some (.newarray .boolean, 1, 0, 0) := by decide +kernel
theorem t8_121 : g_at 8 121 = some (.putfield 53, 4, 24, 0) := by decide +kernel
theorem t8_124 : g_at 8 124 = some (.aload_n 0, 0, 0, 0) := by decide +kernel
theorem t8_125 : g_at 8 125 = some (.invokevirtual 56, 6, 0, 0) := by decide +kernel
theorem t8_128 : g_at 8 128 = some (.aload_n 0, 0, 0, 0) := by decide +kernel
theorem t8_129 : g_at 8 129 = some (.invokevirtual 59, 7, 0, 0) := by decide +kernel
theorem t8_132 : g_at 8 132 = some (.return_, 0, 0, 0) := by decide +kernel
theorem t9_0 : g_at 9 0 = some (.iload_n 1, 0, 0, 0) := by decide +kernel
theorem t9_1 : g_at 9 1 = some (.ifCond .lt (10), 11, 0, 0) := by decide +kernel
theorem t9_4 : g_at 9 4 = some (.iload_n 1, 0, 0, 0) := by decide +kernel
theorem t9_5 : g_at 9 5 = some (.sipush (255), 0, 0, 255) := by decide +kernel
theorem t9_8 : g_at 9 8 = some (.if_icmp .le (5), 13, 0, 0) := by decide +kernel
theorem t9_11 : g_at 9 11 = some (.iconst (-1), 0, 0, (-1)) := by decide +kernel
theorem t9_12 : g_at 9 12 = some (.ireturn, 0, 0, 0) := by decide +kernel
theorem t9_13 : g_at 9 13 = some (.aload_n 0, 0, 0, 0) := by decide +kernel
theorem t9_14 : g_at 9 14 = some (.getfield 12, 3, 0, 0) := by decide +kernel
theorem t9_17 : g_at 9 17 = some (.getfield 55, 2, 1, 0) := by decide +kernel
theorem t9_20 : g_at 9 20 = some (.bipush (120), 0, 0, 120) := by decide +kernel
theorem t9_22 : g_at 9 22 = some (.if_icmp .lt (6), 28, 0, 0) := by decide +kernel
theorem t9_25 : g_at 9 25 = some (.bipush (-3), 0, 0, (-3)) := by decide +kernel
theorem t9_27 : g_at 9 27 = some (.ireturn, 0, 0, 0) := by decide +kernel
theorem t9_28 : g_at 9 28 = some (.aload_n 0, 0, 0, 0) := by decide +kernel
theorem t9_29 : g_at 9 29 = some (.getfield 12, 3, 0, 0) := by decide +kernel
theorem t9_32 : g_at 9 32 = some (.getfield 59, 2, 0, 0) := by decide +kernel
theorem t9_35 : g_at 9 35 = some (.aload_n 0, 0, 0, 0) := by decide +kernel
theorem t9_36 : g_at 9 36 = some (.getfield 12, 3, 0, 0) := by decide +kernel
theorem t9_39 : g_at 9 39 = some (.getfield 55, 2, 1, 0) := by decide +kernel
theorem t9_42 : g_at 9 42 = some (.iload_n 1, 0, 0, 0) := by decide +kernel
theorem t9_43 : g_at 9 43 = some (.iastore, 0, 0, 0) := by decide +kernel
theorem t9_44 : g_at 9 44 = some (.aload_n 0, 0, 0, 0) := by decide +kernel
theorem t9_45 : g_at 9 45 = some (.getfield 12, 3, 0, 0) := by decide +kernel
theorem t9_48 : g_at 9 48 = some (.dup, 0, 0, 0) := by decide +kernel
theorem t9_49 : g_at 9 49 = some (.getfield 55, 2, 1, 0) := by decide +kernel
theorem t9_52 : g_at 9 52 = some (.iconst 1, 0, 0, 1) := by decide +kernel
theorem t9_53 : g_at 9 53 = some (.iadd, 0, 0, 0) := by decide +kernel
theorem t9_54 : g_at 9 54 = some (.putfield 55, 2, 1, 0) := by decide +kernel
theorem t9_57 : g_at 9 57 = some (.aload_n 0, 0, 0, 0) := by decide +kernel
theorem t9_58 : g_at 9 58 = some (.getfield 12, 3, 0, 0) := by decide +kernel
theorem t9_61 : g_at 9 61 = some (.getfield 55, 2, 1, 0) := by decide +kernel
theorem t9_64 : g_at 9 64 = some (.ireturn, 0, 0, 0) := by decide +kernel
theorem t10_0 : g_at 10 0 = some (.iload_n 0, 0, 0, 0) := by decide +kernel
theorem t10_1 : g_at 10 1 = some (.iload_n 1, 0, 0, 0) := by decide +kernel
theorem t10_2 : g_at 10 2 = some (.if_icmp .lt (12), 14, 0, 0) := by decide +kernel
theorem t10_5 : g_at 10 5 = some (.iload_n 0, 0, 0, 0) := by decide +kernel
theorem t10_6 : g_at 10 6 = some (.iload_n 2, 0, 0, 0) := by decide +kernel
theorem t10_7 : g_at 10 7 = some (.if_icmp .gt (7), 14, 0, 0) := by decide +kernel
theorem t10_10 : g_at 10 10 = some (.iconst 1, 0, 0, 1) := by decide +kernel
theorem t10_11 : g_at 10 11 = some (.goto (4), 15, 0, 0) := by decide +kernel
theorem t10_14 : g_at 10 14 = some (.iconst 0, 0, 0, 0) := by decide +kernel
theorem t10_15 : g_at 10 15 = some (.ireturn, 0, 0, 0) := by decide +kernel
theorem t11_0 : g_at 11 0 = some (.aload_n 0, 0, 0, 0) := by decide +kernel
theorem t11_1 : g_at 11 1 = some (.iconst 0, 0, 0, 0) := by decide +kernel
theorem t11_2 : g_at 11 2 = some (.putfield 62, 4, 0, 0) := by decide +kernel
theorem t11_5 : g_at 11 5 = some (.iload_n 1, 0, 0, 0) := by decide +kernel
theorem t11_6 : g_at 11 6 = some (.iconst 0, 0, 0, 0) := by decide +kernel
theorem t11_7 : g_at 11 7 = some (.sipush (255), 0, 0, 255) := by decide +kernel
theorem t11_10 : g_at 11 10 = some (.invokestatic 66, 10, 3, 0) := by decide +kernel
theorem t11_13 : g_at 11 13 = some (.ifCond .ne (5), 18, 0, 0) := by decide +kernel
theorem t11_16 : g_at 11 16 = some (.iconst (-1), 0, 0, (-1)) := by decide +kernel
theorem t11_17 : g_at 11 17 = some (.ireturn, 0, 0, 0) := by decide +kernel
theorem t11_18 : g_at 11 18 = some (.aload_n 0, 0, 0, 0) := by decide +kernel
theorem t11_19 : g_at 11 19 = some (.getfield 70, 4, 2, 0) := by decide +kernel
theorem t11_22 : g_at 11 22 = some (.bipush (120), 0, 0, 120) := by decide +kernel
theorem t11_24 : g_at 11 24 = some (.if_icmp .ne (6), 30, 0, 0) := by decide +kernel
theorem t11_27 : g_at 11 27 = some (.bipush (-3), 0, 0, (-3)) := by decide +kernel
theorem t11_29 : g_at 11 29 = some (.ireturn, 0, 0, 0) := by decide +kernel
theorem t11_30 : g_at 11 30 = some (.aload_n 0, 0, 0, 0) := by decide +kernel
theorem t11_31 : g_at 11 31 = some (.getfield 7, 4, 1, 0) := by decide +kernel
theorem t11_34 : g_at 11 34 = some (.aload_n 0, 0, 0, 0) := by decide +kernel
theorem t11_35 : g_at 11 35 = some (.getfield 70, 4, 2, 0) := by decide +kernel
theorem t11_38 : g_at 11 38 = some (.iload_n 1, 0, 0, 0) := by decide +kernel
theorem t11_39 : g_at 11 39 = some (.iastore, 0, 0, 0) := by decide +kernel
theorem t11_40 : g_at 11 40 = some (.aload_n 0, 0, 0, 0) := by decide +kernel
theorem t11_41 : g_at 11 41 = some (.dup, 0, 0, 0) := by decide +kernel
theorem t11_42 : g_at 11 42 = some (.getfield 70, 4, 2, 0) := by decide +kernel
theorem t11_45 : g_at 11 45 = some (.iconst 1, 0, 0, 1) := by decide +kernel
theorem t11_46 : g_at 11 46 = some (.iadd, 0, 0, 0) := by decide +kernel
theorem t11_47 : g_at 11 47 = some (.putfield 70, 4, 2, 0) := by decide +kernel
theorem t11_50 : g_at 11 50 = some (.aload_n 0, 0, 0, 0) := by decide +kernel
theorem t11_51 : g_at 11 51 = some (.getfield 70, 4, 2, 0) := by decide +kernel
theorem t11_54 : g_at 11 54 = some (.ireturn, 0, 0, 0) := by decide +kernel
theorem t12_0 : g_at 12 0 = some (.aload_n 0, 0, 0, 0) := by decide +kernel
theorem t12_1 : g_at 12 1 = some (.getfield 12, 3, 0, 0) := by decide +kernel
theorem t12_4 : g_at 12 4 = some (.getfield 55, 2, 1, 0) := by decide +kernel
theorem t12_7 : g_at 12 7 = some (.istore_n 1, 0, 0, 0) := by decide +kernel
theorem t12_8 : g_at 12 8 = some (.aload_n 0, 0, 0, 0) := by decide +kernel
theorem t12_9 : g_at 12 9 = some (.getfield 12, 3, 0, 0) := by decide +kernel
theorem t12_12 : g_at 12 12 = some (.iconst 0, 0, 0, 0) := by decide +kernel
theorem t12_13 : g_at 12 13 = some (.putfield 55, 2, 1, 0) := by decide +kernel
theorem t12_16 : g_at 12 16 = some (.iload_n 1, 0, 0, 0) := by decide +kernel
theorem t12_17 : g_at 12 17 = some (.ireturn, 0, 0, 0) := by decide +kernel
theorem t13_0 : g_at 13 0 = some (.aload_n 0, 0, 0, 0) := by decide +kernel
theorem t13_1 : g_at 13 1 = some (.iconst 0, 0, 0, 0) := by decide +kernel
theorem t13_2 : g_at 13 2 = some (.putfield 62, 4, 0, 0) := by decide +kernel
theorem t13_5 : g_at 13 5 = some (.aload_n 0, 0, 0, 0) := by decide +kernel
theorem t13_6 : g_at 13 6 = some (.getfield 70, 4, 2, 0) := by decide +kernel
theorem t13_9 : g_at 13 9 = some (.istore_n 1, 0, 0, 0) := by decide +kernel
theorem t13_10 : g_at 13 10 = some (.aload_n 0, 0, 0, 0) := by decide +kernel
theorem t13_11 : g_at 13 11 = some (.iconst 0, 0, 0, 0) := by decide +kernel
theorem t13_12 : g_at 13 12 = some (.putfield 70, 4, 2, 0) := by decide +kernel
theorem t13_15 : g_at 13 15 = some (.iload_n 1, 0, 0, 0) := by decide +kernel
theorem t13_16 : g_at 13 16 = some (.ireturn, 0, 0, 0) := by decide +kernel
theorem t14_0 : g_at 14 0 = some (.aload_n 0, 0, 0, 0) := by decide +kernel
theorem t14_1 : g_at 14 1 = some (.iconst 3, 0, 0, 3) := by decide +kernel
theorem t14_2 : g_at 14 2 = some (.putfield 43, 0, 0, 0) := by decide +kernel
theorem t14_5 : g_at 14 5 = some (.aload_n 0, 0, 0, 0) := by decide +kernel
theorem t14_6 : g_at 14 6 = some (.iconst 0, 0, 0, 0) := by decide +kernel
theorem t14_7 : g_at 14 7 = some (.putfield 46, 0, 1, 0) := by decide +kernel
theorem t14_10 : g_at 14 10 = some (.aload_n 0, 0, 0, 0) := by decide +kernel
theorem t14_11 : g_at 14 11 = some (.iconst 0, 0, 0, 0) := by decide +kernel
theorem t14_12 : g_at 14 12 = some (.putfield 49, 0, 2, 0) := by decide +kernel
theorem t14_15 : g_at 14 15 = some (.aload_n 0, 0, 0, 0) := by decide +kernel
theorem t14_16 : g_at 14 16 = some (.iconst 0, 0, 0, 0) := by decide +kernel
theorem t14_17 : g_at 14 17 = some (.putfield 52, 0, 3, 0) := by decide +kernel
theorem t14_20 : g_at 14 20 = some (.aload_n 0, 0, 0, 0) := by decide +kernel
theorem t14_21 : g_at 14 21 = some (.iconst 0, 0, 0, 0) := by decide +kernel
theorem t14_22 : g_at 14 22 = some (.putfield 55, 0, 4, 0) := by decide +kernel
theorem t14_25 : g_at 14 25 = some (.aload_n 0, 0, 0, 0) := by decide +kernel
theorem t14_26 : g_at 14 26 = some (.iconst 0, 0, 0, 0) := by decide +kernel
theorem t14_27 : g_at 14 27 = some (.putfield 58, 0, 5, 0) := by decide +kernel
theorem t14_30 : g_at 14 30 = some (.return_, 0, 0, 0) := by decide +kernel
theorem t15_0 : g_at 15 0 = some (.aload_n 0, 0, 0, 0) := by decide +kernel
theorem t15_1 : g_at 15 1 = some (.iconst 0, 0, 0, 0) := by decide +kernel
theorem t15_2 : g_at 15 2 = some (.putfield 15, 2, 2, 0) := by decide +kernel
theorem t15_5 : g_at 15 5 = some (.return_, 0, 0, 0) := by decide +kernel
theorem t16_0 : g_at 16 0 = some (.iconst 0, 0, 0, 0) := by decide +kernel
theorem t16_1 : g_at 16 1 = some (.istore_n 1, 0, 0, 0) := by decide +kernel
theorem t16_2 : g_at 16 2 = some (.aload_n 0, 0, 0, 0) := by decide +kernel
theorem t16_3 : g_at 16 3 = some (.getfield 15, 2, 2, 0) := by decide +kernel
theorem t16_6 : g_at 16 6 = some (.aload_n 0, 0, 0, 0) := by decide +kernel
theorem t16_7 : g_at 16 7 = some (.getfield 19, 2, 1, 0) := by decide +kernel
theorem t16_10 : g_at 16 10 = some (.if_icmp .ge (68), 78, 0, 0) := by decide +kernel
theorem t16_13 : g_at 16 13 = some (.aload_n 0, 0, 0, 0) := by decide +kernel
theorem t16_14 : g_at 16 14 = some (.getfield 9, 2, 0, 0) := by decide +kernel
theorem t16_17 : g_at 16 17 = some (.aload_n 0, 0, 0, 0) := by decide +kernel
theorem t16_18 : g_at 16 18 = some (.getfield 15, 2, 2, 0) := by decide +kernel
theorem t16_21 : g_at 16 21 = some (.iaload, 0, 0, 0) := by decide +kernel
theorem t16_22 : g_at 16 22 = some (.bipush (48), 0, 0, 48) := by decide +kernel
theorem t16_24 : g_at 16 24 = some (.if_icmp .lt (54), 78, 0, 0) := by decide +kernel
theorem t16_27 : g_at 16 27 = some (.aload_n 0, 0, 0, 0) := by decide +kernel
theorem t16_28 : g_at 16 28 = some (.getfield 9, 2, 0, 0) := by decide +kernel
theorem t16_31 : g_at 16 31 = some (.aload_n 0, 0, 0, 0) := by decide +kernel
theorem t16_32 : g_at 16 32 = some (.getfield 15, 2, 2, 0) := by decide +kernel
theorem t16_35 : g_at 16 35 = some (.iaload, 0, 0, 0) := by decide +kernel
theorem t16_36 : g_at 16 36 = some (.bipush (57), 0, 0, 57) := by decide +kernel
theorem t16_38 : g_at 16 38 = some (.if_icmp .gt (40), 78, 0, 0) := by decide +kernel
theorem t16_41 : g_at 16 41 = some (.iload_n 1, 0, 0, 0) := by decide +kernel
theorem t16_42 : g_at 16 42 = some (.bipush (99), 0, 0, 99) := by decide +kernel
theorem t16_44 : g_at 16 44 = some (.if_icmp .gt (21), 65, 0, 0) := by decide +kernel
theorem t16_47 : g_at 16 47 = some (.bipush (10), 0, 0, 10) := by decide +kernel
theorem t16_49 : g_at 16 49 = some (.iload_n 1, 0, 0, 0) := by decide +kernel
theorem t16_50 : g_at 16 50 = some (.imul, 0, 0, 0) := by decide +kernel
theorem t16_51 : g_at 16 51 = some (.aload_n 0, 0, 0, 0) := by decide +kernel
theorem t16_52 : g_at 16 52 = some (.getfield 9, 2, 0, 0) := by decide +kernel
theorem t16_55 : g_at 16 55 = some (.aload_n 0, 0, 0, 0) := by decide +kernel
theorem t16_56 : g_at 16 56 = some (.getfield 15, 2, 2, 0) := by decide +kernel
theorem t16_59 : g_at 16 59 = some (.iaload, 0, 0, 0) := by decide +kernel
theorem t16_60 : g_at 16 60 = some (.iadd, 0, 0, 0) := by decide +kernel
theorem t16_61 : g_at 16 61 = some (.bipush (48), 0, 0, 48) := by decide +kernel
theorem t16_63 : g_at 16 63 = some (.isub, 0, 0, 0) := by decide +kernel
theorem t16_64 : g_at 16 64 = some (.istore_n 1, 0, 0, 0) := by decide +kernel
theorem t16_65 : g_at 16 65 = some (.aload_n 0, 0, 0, 0) := by decide +kernel
theorem t16_66 : g_at 16 66 = some (.dup, 0, 0, 0) := by decide +kernel
theorem t16_67 : g_at 16 67 = some (.getfield 15, 2, 2, 0) := by decide +kernel
theorem t16_70 : g_at 16 70 = some (.iconst 1, 0, 0, 1) := by decide +kernel
theorem t16_71 : g_at 16 71 = some (.iadd, 0, 0, 0) := by decide +kernel
theorem t16_72 : g_at 16 72 = some (.putfield 15, 2, 2, 0) := by decide +kernel
theorem t16_75 : g_at 16 75 = some (.goto (-73), 2, 0, 0) := by decide +kernel
theorem t16_78 : g_at 16 78 = some (.aload_n 0, 0, 0, 0) := by decide +kernel
theorem t16_79 : g_at 16 79 = some (.getfield 9, 2, 0, 0) := by decide +kernel
theorem t16_82 : g_at 16 82 = some (.aload_n 0, 0, 0, 0) := by decide +kernel
theorem t16_83 : g_at 16 83 = some (.getfield 22, 2, 3, 0) := by decide +kernel
theorem t16_86 : g_at 16 86 = some (.iaload, 0, 0, 0) := by decide +kernel
theorem t16_87 : g_at 16 87 = some (.bipush (48), 0, 0, 48) := by decide +kernel
theorem t16_89 : g_at 16 89 = some (.if_icmp .ne (20), 109, 0, 0) := by decide +kernel
theorem t16_92 : g_at 16 92 = some (.aload_n 0, 0, 0, 0) := by decide +kernel
theorem t16_93 : g_at 16 93 = some (.getfield 15, 2, 2, 0) := by decide +kernel
theorem t16_96 : g_at 16 96 = some (.aload_n 0, 0, 0, 0) := by decide +kernel
theorem t16_97 : g_at 16 97 = some (.getfield 22, 2, 3, 0) := by decide +kernel
theorem t16_100 : g_at 16 100 = some (.isub, 0, 0, 0) := by decide +kernel
theorem t16_101 : g_at 16 101 = some (.iconst 1, 0, 0, 1) := by decide +kernel
theorem t16_102 : g_at 16 102 = some (.if_icmp .le (7), 109, 0, 0) := by decide +kernel
theorem t16_105 : g_at 16 105 = some (.iconst 1, 0, 0, 1) := by decide +kernel
theorem t16_106 : g_at 16 106 = some (.goto (4), 110, 0, 0) := by decide +kernel
theorem t16_109 : g_at 16 109 = some (.iconst 0, 0, 0, 0) := by decide +kernel
theorem t16_110 : g_at 16 110 = some (.istore_n 2, 0, 0, 0) := by decide +kernel
theorem t16_111 : g_at 16 111 = some (.aload_n 0, 0, 0, 0) := by decide +kernel
theorem t16_112 : g_at 16 112 = some (.iload_n 1, 0, 0, 0) := by decide +kernel
theorem t16_113 : g_at 16 113 = some (.putfield 31, 2, 5, 0) := by decide +kernel
theorem t16_116 : g_at 16 116 = some (.aload_n 0, 0, 0, 0) := by decide +kernel
theorem t16_117 : g_at 16 117 = some (.iload_n 1, 0, 0, 0) := by decide +kernel
theorem t16_118 : g_at 16 118 = some (.bipush (99), 0, 0, 99) := by decide +kernel
theorem t16_120 : g_at 16 120 = some (.if_icmp .gt (7), 127, 0, 0) := by decide +kernel
theorem t16_123 : g_at 16 123 = some (.iload_n 2, 0, 0, 0) := by decide +kernel
theorem t16_124 : g_at 16 124 = some (.ifCond .eq (7), 131, 0, 0) := by decide +kernel
theorem t16_127 : g_at 16 127 = some (.iconst 4, 0, 0, 4) := by decide +kernel
theorem t16_128 : g_at 16 128 = some (.goto (4), 132, 0, 0) := by decide +kernel
theorem t16_131 : g_at 16 131 = some (.iconst 2, 0, 0, 2) := by decide +kernel
theorem t16_132 : g_at 16 132 = some (.putfield 25, 2, 4, 0) := by decide +kernel
theorem t16_135 : g_at 16 135 = some (.return_, 0, 0, 0) := by decide +kernel
theorem t17_0 : g_at 17 0 = some (.iload_n 0, 0, 0, 0) := by decide +kernel
theorem t17_1 : g_at 17 1 = some (.bipush (97), 0, 0, 97) := by decide +kernel
theorem t17_3 : g_at 17 3 = some (.if_icmp .lt (13), 16, 0, 0) := by decide +kernel
theorem t17_6 : g_at 17 6 = some (.iload_n 0, 0, 0, 0) := by decide +kernel
theorem t17_7 : g_at 17 7 = some (.bipush (122), 0, 0, 122) := by decide +kernel
theorem t17_9 : g_at 17 9 = some (.if_icmp .gt (7), 16, 0, 0) := by decide +kernel
theorem t17_12 : g_at 17 12 = some (.iconst 1, 0, 0, 1) := by decide +kernel
theorem t17_13 : g_at 17 13 = some (.goto (4), 17, 0, 0) := by decide +kernel
theorem t17_16 : g_at 17 16 = some (.iconst 0, 0, 0, 0) := by decide +kernel
theorem t17_17 : g_at 17 17 = some (.ireturn, 0, 0, 0) := by decide +kernel
theorem t18_0 : g_at 18 0 = some (.aload_n 0, 0, 0, 0) := by decide +kernel
theorem t18_1 : g_at 18 1 = some (.getfield 15, 2, 2, 0) := by decide +kernel
theorem t18_4 : g_at 18 4 = some (.aload_n 0, 0, 0, 0) := by decide +kernel
theorem t18_5 : g_at 18 5 = some (.getfield 19, 2, 1, 0) := by decide +kernel
theorem t18_8 : g_at 18 8 = some (.if_icmp .ge (30), 38, 0, 0) := by decide +kernel
theorem t18_11 : g_at 18 11 = some (.aload_n 0, 0, 0, 0) := by decide +kernel
theorem t18_12 : g_at 18 12 = some (.getfield 9, 2, 0, 0) := by decide +kernel
theorem t18_15 : g_at 18 15 = some (.aload_n 0, 0, 0, 0) := by decide +kernel
theorem t18_16 : g_at 18 16 = some (.getfield 15, 2, 2, 0) := by decide +kernel
theorem t18_19 : g_at 18 19 = some (.iaload, 0, 0, 0) := by decide +kernel
theorem t18_20 : g_at 18 20 = some (.bipush (32), 0, 0, 32) := by decide +kernel
theorem t18_22 : g_at 18 22 = some (.if_icmp .ne (16), 38, 0, 0) := by decide +kernel
theorem t18_25 : g_at 18 25 = some (.aload_n 0, 0, 0, 0) := by decide +kernel
theorem t18_26 : g_at 18 26 = some (.dup, 0, 0, 0) := by decide +kernel
theorem t18_27 : g_at 18 27 = some (.getfield 15, 2, 2, 0) := by decide +kernel
theorem t18_30 : g_at 18 30 = some (.iconst 1, 0, 0, 1) := by decide +kernel
theorem t18_31 : g_at 18 31 = some (.iadd, 0, 0, 0) := by decide +kernel
theorem t18_32 : g_at 18 32 = some (.putfield 15, 2, 2, 0) := by decide +kernel
theorem t18_35 : g_at 18 35 = some (.goto (-35), 0, 0, 0) := by decide +kernel
theorem t18_38 : g_at 18 38 = some (.aload_n 0, 0, 0, 0) := by decide +kernel
theorem t18_39 : g_at 18 39 = some (.aload_n 0, 0, 0, 0) := by decide +kernel
theorem t18_40 : g_at 18 40 = some (.getfield 15, 2, 2, 0) := by decide +kernel
theorem t18_43 : g_at 18 43 = some (.putfield 22, 2, 3, 0) := by decide +kernel
theorem t18_46 : g_at 18 46 = some (.aload_n 0, 0, 0, 0) := by decide +kernel
theorem t18_47 : g_at 18 47 = some (.getfield 15, 2, 2, 0) := by decide +kernel
theorem t18_50 : g_at 18 50 = some (.aload_n 0, 0, 0, 0) := by decide +kernel
theorem t18_51 : g_at 18 51 = some (.getfield 19, 2, 1, 0) := by decide +kernel
theorem t18_54 : g_at 18 54 = some (.if_icmp .lt (9), 63, 0, 0) := by decide +kernel
theorem t18_57 : g_at 18 57 = some (.aload_n 0, 0, 0, 0) := by decide +kernel
theorem t18_58 : g_at 18 58 = some (.iconst 0, 0, 0, 0) := by decide +kernel
theorem t18_59 : g_at 18 59 = some (.putfield 25, 2, 4, 0) := by decide +kernel
theorem t18_62 : g_at 18 62 = some (.return_, 0, 0, 0) := by decide +kernel
theorem t18_63 : g_at 18 63 = some (.aload_n 0, 0, 0, 0) := by decide +kernel
theorem t18_64 : g_at 18 64 = some (.getfield 9, 2, 0, 0) := by decide +kernel
theorem t18_67 : g_at 18 67 = some (.aload_n 0, 0, 0, 0) := by decide +kernel
theorem t18_68 : g_at 18 68 = some (.getfield 15, 2, 2, 0) := by decide +kernel
theorem t18_71 : g_at 18 71 = some (.iaload, 0, 0, 0) := by decide +kernel
theorem t18_72 : g_at 18 72 = some (.istore_n 1, 0, 0, 0) := by decide +kernel
theorem t18_73 : g_at 18 73 = some (.iload_n 1, 0, 0, 0) := by decide +kernel
theorem t18_74 : g_at 18 74 = some (.bipush (48), 0, 0, 48) := by decide +kernel
theorem t18_76 : g_at 18 76 = some (.if_icmp .lt (14), 90, 0, 0) := by decide +kernel
theorem t18_79 : g_at 18 79 = some (.iload_n 1, 0, 0, 0) := by decide +kernel
theorem t18_80 : g_at 18 80 = some (.bipush (57), 0, 0, 57) := by decide +kernel
theorem t18_82 : g_at 18 82 = some (.if_icmp .gt (8), 90, 0, 0) := by decide +kernel
theorem t18_85 : g_at 18 85 = some (.aload_n 0, 0, 0, 0) := by decide +kernel
theorem t18_86 : g_at 18 86 = some (.invokevirtual 28, 16, 0, 0) := by decide +kernel
theorem t18_89 : g_at 18 89 = some (.return_, 0, 0, 0) := by decide +kernel
theorem t18_90 : g_at 18 90 = some (.aload_n 0, 0, 0, 0) := by decide +kernel
theorem t18_91 : g_at 18 91 = some (.dup, 0, 0, 0) := by decide +kernel
theorem t18_92 : g_at 18 92 = some (.getfield 15, 2, 2, 0) := by decide +kernel
theorem t18_95 : g_at 18 95 = some (.iconst 1, 0, 0, 1) := by decide +kernel
theorem t18_96 : g_at 18 96 = some (.iadd, 0, 0, 0) := by decide +kernel
theorem t18_97 : g_at 18 97 = some (.putfield 15, 2, 2, 0) := by decide +kernel
theorem t18_100 : g_at 18 100 = some (.aload_n 0, 0, 0, 0) := by decide +kernel
theorem t18_101 : g_at 18 101 = some (.iload_n 1, 0, 0, 0) := by decide +kernel
theorem t18_102 : g_at 18 102 = some (.bipush (97), 0, 0, 97) := by decide +kernel
theorem t18_104 : g_at 18 104 = some (.isub, 0, 0, 0) := by decide +kernel
theorem t18_105 : g_at 18 105 = some (.putfield 31, 2, 5, 0) := by decide +kernel
theorem t18_108 : g_at 18 108 = some (.aload_n 0, 0, 0, 0) := by decide +kernel
theorem t18_109 : g_at 18 109 = some (.iload_n 1, 0, 0, 0) := by decide +kernel
theorem t18_110 : g_at 18 110 = some (.bipush (59), 0, 0, 59) := by decide +kernel
theorem t18_112 : g_at 18 112 = some (.if_icmp .ne (7), 119, 0, 0) := by decide +kernel
theorem t18_115 : g_at 18 115 = some (.iconst 3, 0, 0, 3) := by decide +kernel
theorem t18_116 : g_at 18 116 = some (.goto (15), 131, 0, 0) := by decide +kernel
theorem t18_119 : g_at 18 119 = some (.iload_n 1, 0, 0, 0) := by decide +kernel
theorem t18_120 : g_at 18 120 = some (.invokestatic 34, 17, 1, 0) := by decide +kernel
theorem t18_123 : g_at 18 123 = some (.ifCond .eq (7), 130, 0, 0) := by decide +kernel
theorem t18_126 : g_at 18 126 = some (.iconst 1, 0, 0, 1) := by decide +kernel
theorem t18_127 : g_at 18 127 = some (.goto (4), 131, 0, 0) := by decide +kernel
theorem t18_130 : g_at 18 130 = some (.iconst 4, 0, 0, 4) := by decide +kernel
theorem t18_131 : g_at 18 131 = some (.putfield 25, 2, 4, 0) := by decide +kernel
theorem t18_134 : g_at 18 134 = some (.return_, 0, 0, 0) := by decide +kernel
theorem t19_0 : g_at 19 0 = some (.iload_n 0, 0, 0, 0) := by decide +kernel
theorem t19_1 : g_at 19 1 = some (.iload_n 1, 0, 0, 0) := by decide +kernel
theorem t19_2 : g_at 19 2 = some (.ishr, 0, 0, 0) := by decide +kernel
theorem t19_3 : g_at 19 3 = some (.iconst 1, 0, 0, 1) := by decide +kernel
theorem t19_4 : g_at 19 4 = some (.iand, 0, 0, 0) := by decide +kernel
theorem t19_5 : g_at 19 5 = some (.ireturn, 0, 0, 0) := by decide +kernel
theorem t20_0 : g_at 20 0 = some (.aload_n 0, 0, 0, 0) := by decide +kernel
theorem t20_1 : g_at 20 1 = some (.invokevirtual 38, 18, 0, 0) := by decide +kernel
theorem t20_4 : g_at 20 4 = some (.aload_n 0, 0, 0, 0) := by decide +kernel
theorem t20_5 : g_at 20 5 = some (.getfield 25, 2, 4, 0) := by decide +kernel
theorem t20_8 : g_at 20 8 = some (.iload_n 1, 0, 0, 0) := by decide +kernel
theorem t20_9 : g_at 20 9 = some (.if_icmp .ne (35), 44, 0, 0) := by decide +kernel
theorem t20_12 : g_at 20 12 = some (.aload_n 0, 0, 0, 0) := by decide +kernel
theorem t20_13 : g_at 20 13 = some (.getfield 31, 2, 5, 0) := by decide +kernel
theorem t20_16 : g_at 20 16 = some (.ifCond .lt (28), 44, 0, 0) := by decide +kernel
theorem t20_19 : g_at 20 19 = some (.aload_n 0, 0, 0, 0) := by decide +kernel
theorem t20_20 : g_at 20 20 = some (.getfield 31, 2, 5, 0) := by decide +kernel
theorem t20_23 : g_at 20 23 = some (.bipush (32), 0, 0, 32) := by decide +kernel
theorem t20_25 : g_at 20 25 = some (.if_icmp .ge (19), 44, 0, 0) := by decide +kernel
theorem t20_28 : g_at 20 28 = some (.iload_n 2, 0, 0, 0) := by decide +kernel
theorem t20_29 : g_at 20 29 = some (.aload_n 0, 0, 0, 0) := by decide +kernel
theorem t20_30 : g_at 20 30 = some (.getfield 31, 2, 5, 0) := by decide +kernel
theorem t20_33 : g_at 20 33 = some (.invokestatic 41, 19, 2, 0) := by decide +kernel
theorem t20_36 : g_at 20 36 = some (.iconst 1, 0, 0, 1) := by decide +kernel
theorem t20_37 : g_at 20 37 = some (.if_icmp .ne (7), 44, 0, 0) := by decide +kernel
theorem t20_40 : g_at 20 40 = some (.iconst 1, 0, 0, 1) := by decide +kernel
theorem t20_41 : g_at 20 41 = some (.goto (4), 45, 0, 0) := by decide +kernel
theorem t20_44 : g_at 20 44 = some (.iconst 0, 0, 0, 0) := by decide +kernel
theorem t20_45 : g_at 20 45 = some (.istore_n 3, 0, 0, 0) := by decide +kernel
theorem t20_46 : g_at 20 46 = some (.iload_n 3, 0, 0, 0) := by decide +kernel
theorem t20_47 : g_at 20 47 = some (.ifCond .eq (10), 57, 0, 0) := by decide +kernel
theorem t20_50 : g_at 20 50 = some (.aload_n 0, 0, 0, 0) := by decide +kernel
theorem t20_51 : g_at 20 51 = some (.getfield 31, 2, 5, 0) := by decide +kernel
theorem t20_54 : g_at 20 54 = some (.goto (4), 58, 0, 0) := by decide +kernel
theorem t20_57 : g_at 20 57 = some (.iconst (-1), 0, 0, (-1)) := by decide +kernel
theorem t20_58 : g_at 20 58 = some (.ireturn, 0, 0, 0) := by decide +kernel
theorem t21_0 : g_at 21 0 = some (.aload_n 1, 0, 0, 0) := by decide +kernel
theorem t21_1 : g_at 21 1 = some (.iconst 2, 0, 0, 2) := by decide +kernel
theorem t21_2 : g_at 21 2 = some (.bipush (124), 0, 0, 124) := by decide +kernel
theorem t21_4 : g_at 21 4 = some (.invokevirtual 83, 20, 2, 0) := by decide +kernel
theorem t21_7 : g_at 21 7 = some (.istore_n 2, 0, 0, 0) := by decide +kernel
theorem t21_8 : g_at 21 8 = some (.iload_n 2, 0, 0, 0) := by decide +kernel
theorem t21_9 : g_at 21 9 = some (.ifCond .ge (5), 14, 0, 0) := by decide +kernel
theorem t21_12 : g_at 21 12 = some (.iconst 0, 0, 0, 0) := by decide +kernel
theorem t21_13 : g_at 21 13 = some (.ireturn, 0, 0, 0) := by decide +kernel
theorem t21_14 : g_at 21 14 = some (.aload_n 0, 0, 0, 0) := by decide +kernel
theorem t21_15 : g_at 21 15 = some (.iload_n 2, 0, 0, 0) := by decide +kernel
theorem t21_16 : g_at 21 16 = some (.putfield 43, 0, 0, 0) := by decide +kernel
theorem t21_19 : g_at 21 19 = some (.iconst 1, 0, 0, 1) := by decide +kernel
theorem t21_20 : g_at 21 20 = some (.ireturn, 0, 0, 0) := by decide +kernel
theorem t22_0 : g_at 22 0 = some (.iconst 1, 0, 0, 1) := by decide +kernel
theorem t22_1 : g_at 22 1 = some (.aload_n 0, 0, 0, 0) := by decide +kernel
theorem t22_2 : g_at 22 2 = some (.getfield 43, 0, 0, 0) := by decide +kernel
theorem t22_5 : g_at 22 5 = some (.ishl, 0, 0, 0) := by decide +kernel
theorem t22_6 : g_at 22 6 = some (.iconst 1, 0, 0, 1) := by decide +kernel
theorem t22_7 : g_at 22 7 = some (.isub, 0, 0, 0) := by decide +kernel
theorem t22_8 : g_at 22 8 = some (.ireturn, 0, 0, 0) := by decide +kernel
theorem t23_0 : g_at 23 0 = some (.iload_n 0, 0, 0, 0) := by decide +kernel
theorem t23_1 : g_at 23 1 = some (.ifCond .ge (7), 8, 0, 0) := by decide +kernel
theorem t23_4 : g_at 23 4 = some (.iconst 0, 0, 0, 0) := by decide +kernel
theorem t23_5 : g_at 23 5 = some (.goto (6), 11, 0, 0) := by decide +kernel
theorem t23_8 : g_at 23 8 = some (.iconst 1, 0, 0, 1) := by decide +kernel
theorem t23_9 : g_at 23 9 = some (.iload_n 0, 0, 0, 0) := by decide +kernel
theorem t23_10 : g_at 23 10 = some (.ishl, 0, 0, 0) := by decide +kernel
theorem t23_11 : g_at 23 11 = some (.ireturn, 0, 0, 0) := by decide +kernel
theorem t24_0 : g_at 24 0 = some (.aload_n 1, 0, 0, 0) := by decide +kernel
theorem t24_1 : g_at 24 1 = some (.iconst 2, 0, 0, 2) := by decide +kernel
theorem t24_2 : g_at 24 2 = some (.aload_n 0, 0, 0, 0) := by decide +kernel
theorem t24_3 : g_at 24 3 = some (.invokevirtual 87, 22, 0, 0) := by decide +kernel
theorem t24_6 : g_at 24 6 = some (.aload_n 0, 0, 0, 0) := by decide +kernel
theorem t24_7 : g_at 24 7 = some (.getfield 46, 0, 1, 0) := by decide +kernel
theorem t24_10 : g_at 24 10 = some (.iconst (-1), 0, 0, (-1)) := by decide +kernel
theorem t24_11 : g_at 24 11 = some (.ixor, 0, 0, 0) := by decide +kernel
theorem t24_12 : g_at 24 12 = some (.iand, 0, 0, 0) := by decide +kernel
theorem t24_13 : g_at 24 13 = some (.invokevirtual 83, 20, 2, 0) := by decide +kernel
theorem t24_16 : g_at 24 16 = some (.istore_n 2, 0, 0, 0) := by decide +kernel
theorem t24_17 : g_at 24 17 = some (.aload_n 0, 0, 0, 0) := by decide +kernel
theorem t24_18 : g_at 24 18 = some (.dup, 0, 0, 0) := by decide +kernel
theorem t24_19 : g_at 24 19 = some (.getfield 46, 0, 1, 0) := by decide +kernel
theorem t24_22 : g_at 24 22 = some (.iload_n 2, 0, 0, 0) := by decide +kernel
theorem t24_23 : g_at 24 23 = some (.invokestatic 91, 23, 1, 0) := by decide +kernel
theorem t24_26 : g_at 24 26 = some (.ior, 0, 0, 0) := by decide +kernel
theorem t24_27 : g_at 24 27 = some (.putfield 46, 0, 1, 0) := by decide +kernel
theorem t24_30 : g_at 24 30 = some (.iload_n 2, 0, 0, 0) := by decide +kernel
theorem t24_31 : g_at 24 31 = some (.ifCond .lt (7), 38, 0, 0) := by decide +kernel
theorem t24_34 : g_at 24 34 = some (.iconst 1, 0, 0, 1) := by decide +kernel
theorem t24_35 : g_at 24 35 = some (.goto (4), 39, 0, 0) := by decide +kernel
theorem t24_38 : g_at 24 38 = some (.iconst 0, 0, 0, 0) := by decide +kernel
theorem t24_39 : g_at 24 39 = some (.ireturn, 0, 0, 0) := by decide +kernel
theorem t25_0 : g_at 25 0 = some (.aload_n 1, 0, 0, 0) := by decide +kernel
theorem t25_1 : g_at 25 1 = some (.iconst 2, 0, 0, 2) := by decide +kernel
theorem t25_2 : g_at 25 2 = some (.aload_n 0, 0, 0, 0) := by decide +kernel
theorem t25_3 : g_at 25 3 = some (.invokevirtual 87, 22, 0, 0) := by decide +kernel
theorem t25_6 : g_at 25 6 = some (.aload_n 0, 0, 0, 0) := by decide +kernel
theorem t25_7 : g_at 25 7 = some (.getfield 49, 0, 2, 0) := by decide +kernel
theorem t25_10 : g_at 25 10 = some (.iconst (-1), 0, 0, (-1)) := by decide +kernel
theorem t25_11 : g_at 25 11 = some (.ixor, 0, 0, 0) := by decide +kernel
theorem t25_12 : g_at 25 12 = some (.iand, 0, 0, 0) := by decide +kernel
theorem t25_13 : g_at 25 13 = some (.invokevirtual 83, 20, 2, 0) := by decide +kernel
theorem t25_16 : g_at 25 16 = some (.istore_n 2, 0, 0, 0) := by decide +kernel
theorem t25_17 : g_at 25 17 = some (.aload_n 0, 0, 0, 0) := by decide +kernel
theorem t25_18 : g_at 25 18 = some (.dup, 0, 0, 0) := by decide +kernel
theorem t25_19 : g_at 25 19 = some (.getfield 49, 0, 2, 0) := by decide +kernel
theorem t25_22 : g_at 25 22 = some (.iload_n 2, 0, 0, 0) := by decide +kernel
theorem t25_23 : g_at 25 23 = some (.invokestatic 91, 23, 1, 0) := by decide +kernel
theorem t25_26 : g_at 25 26 = some (.ior, 0, 0, 0) := by decide +kernel
theorem t25_27 : g_at 25 27 = some (.putfield 49, 0, 2, 0) := by decide +kernel
theorem t25_30 : g_at 25 30 = some (.iload_n 2, 0, 0, 0) := by decide +kernel
theorem t25_31 : g_at 25 31 = some (.ifCond .lt (7), 38, 0, 0) := by decide +kernel
theorem t25_34 : g_at 25 34 = some (.iconst 1, 0, 0, 1) := by decide +kernel
theorem t25_35 : g_at 25 35 = some (.goto (4), 39, 0, 0) := by decide +kernel
theorem t25_38 : g_at 25 38 = some (.iconst 0, 0, 0, 0) := by decide +kernel
theorem t25_39 : g_at 25 39 = some (.ireturn, 0, 0, 0) := by decide +kernel
theorem t26_0 : g_at 26 0 = some (.iload_n 0, 0, 0, 0) := by decide +kernel
theorem t26_1 : g_at 26 1 = some (.iload_n 0, 0, 0, 0) := by decide +kernel
theorem t26_2 : g_at 26 2 = some (.iconst 1, 0, 0, 1) := by decide +kernel
theorem t26_3 : g_at 26 3 = some (.iushr, 0, 0, 0) := by decide +kernel
theorem t26_4 : g_at 26 4 = some (.ldc_w 265, 0, 0, 1431655765) := by decide +kernel
theorem t26_7 : g_at 26 7 = some (.iand, 0, 0, 0) := by decide +kernel
theorem t26_8 : g_at 26 8 = some (.isub, 0, 0, 0) := by decide +kernel
theorem t26_9 : g_at 26 9 = some (.istore_n 0, 0, 0, 0) := by decide +kernel
theorem t26_10 : g_at 26 10 = some (.iload_n 0, 0, 0, 0) := by decide +kernel
theorem t26_11 : g_at 26 11 = some (.ldc_w 266, 0, 0, 858993459) := by decide +kernel
theorem t26_14 : g_at 26 14 = some (.iand, 0, 0, 0) := by decide +kernel
theorem t26_15 : g_at 26 15 = some (.iload_n 0, 0, 0, 0) := by decide +kernel
theorem t26_16 : g_at 26 16 = some (.iconst 2, 0, 0, 2) := by decide +kernel
theorem t26_17 : g_at 26 17 = some (.iushr, 0, 0, 0) := by decide +kernel
theorem t26_18 : g_at 26 18 = some (.ldc_w 266, 0, 0, 858993459) := by decide +kernel
theorem t26_21 : g_at 26 21 = some (.iand, 0, 0, 0) := by decide +kernel
theorem t26_22 : g_at 26 22 = some (.iadd, 0, 0, 0) := by decide +kernel
theorem t26_23 : g_at 26 23 = some (.istore_n 0, 0, 0, 0) := by decide +kernel
theorem t26_24 : g_at 26 24 = some (.iload_n 0, 0, 0, 0) := by decide +kernel
theorem t26_25 : g_at 26 25 = some (.iload_n 0, 0, 0, 0) := by decide +kernel
theorem t26_26 : g_at 26 26 = some (.iconst 4, 0, 0, 4) := by decide +kernel
theorem t26_27 : g_at 26 27 = some (.iushr, 0, 0, 0) := by decide +kernel
theorem t26_28 : g_at 26 28 = some (.iadd, 0, 0, 0) := by decide +kernel
theorem t26_29 : g_at 26 29 = some (.ldc_w 267, 0, 0, 252645135) := by decide +kernel
theorem t26_32 : g_at 26 32 = some (.iand, 0, 0, 0) := by decide +kernel
theorem t26_33 : g_at 26 33 = some (.istore_n 0, 0, 0, 0) := by decide +kernel
theorem t26_34 : g_at 26 34 = some (.iload_n 0, 0, 0, 0) := by decide +kernel
theorem t26_35 : g_at 26 35 = some (.iload_n 0, 0, 0, 0) := by decide +kernel
theorem t26_36 : g_at 26 36 = some (.bipush (8), 0, 0, 8) := by decide +kernel
theorem t26_38 : g_at 26 38 = some (.iushr, 0, 0, 0) := by decide +kernel
theorem t26_39 : g_at 26 39 = some (.iadd, 0, 0, 0) := by decide +kernel
theorem t26_40 : g_at 26 40 = some (.istore_n 0, 0, 0, 0) := by decide +kernel
theorem t26_41 : g_at 26 41 = some (.iload_n 0, 0, 0, 0) := by decide +kernel
theorem t26_42 : g_at 26 42 = some (.iload_n 0, 0, 0, 0) := by decide +kernel
theorem t26_43 : g_at 26 43 = some (.bipush (16), 0, 0, 16) := by decide +kernel
theorem t26_45 : g_at 26 45 = some (.iushr, 0, 0, 0) := by decide +kernel
theorem t26_46 : g_at 26 46 = some (.iadd, 0, 0, 0) := by decide +kernel
theorem t26_47 : g_at 26 47 = some (.istore_n 0, 0, 0, 0) := by decide +kernel
theorem t26_48 : g_at 26 48 = some (.iload_n 0, 0, 0, 0) := by decide +kernel
theorem t26_49 : g_at 26 49 = some (.bipush (63), 0, 0, 63) := by decide +kernel
theorem t26_51 : g_at 26 51 = some (.iand, 0, 0, 0) := by decide +kernel
theorem t26_52 : g_at 26 52 = some (.ireturn, 0, 0, 0) := by decide +kernel
theorem t27_0 : g_at 27 0 = some (.aload_n 0, 0, 0, 0) := by decide +kernel
theorem t27_1 : g_at 27 1 = some (.getfield 52, 0, 3, 0) := by decide +kernel
theorem t27_4 : g_at 27 4 = some (.invokestatic 95, 26, 1, 0) := by decide +kernel
theorem t27_7 : g_at 27 7 = some (.bipush (8), 0, 0, 8) := by decide +kernel
theorem t27_9 : g_at 27 9 = some (.if_icmp .lt (5), 14, 0, 0) := by decide +kernel
theorem t27_12 : g_at 27 12 = some (.iconst 0, 0, 0, 0) := by decide +kernel
theorem t27_13 : g_at 27 13 = some (.ireturn, 0, 0, 0) := by decide +kernel
theorem t27_14 : g_at 27 14 = some (.aload_n 1, 0, 0, 0) := by decide +kernel
theorem t27_15 : g_at 27 15 = some (.iconst 1, 0, 0, 1) := by decide +kernel
theorem t27_16 : g_at 27 16 = some (.ldc 100, 0, 0, 67108863) := by decide +kernel
theorem t27_18 : g_at 27 18 = some (.aload_n 0, 0, 0, 0) := by decide +kernel
theorem t27_19 : g_at 27 19 = some (.getfield 52, 0, 3, 0) := by decide +kernel
theorem t27_22 : g_at 27 22 = some (.iconst (-1), 0, 0, (-1)) := by decide +kernel
theorem t27_23 : g_at 27 23 = some (.ixor, 0, 0, 0) := by decide +kernel
theorem t27_24 : g_at 27 24 = some (.iand, 0, 0, 0) := by decide +kernel
theorem t27_25 : g_at 27 25 = some (.invokevirtual 83, 20, 2, 0) := by decide +kernel
theorem t27_28 : g_at 27 28 = some (.istore_n 3, 0, 0, 0) := by decide +kernel
theorem t27_29 : g_at 27 29 = some (.iload_n 3, 0, 0, 0) := by decide +kernel
theorem t27_30 : g_at 27 30 = some (.ifCond .ge (5), 35, 0, 0) := by decide +kernel
theorem t27_33 : g_at 27 33 = some (.iconst 0, 0, 0, 0) := by decide +kernel
theorem t27_34 : g_at 27 34 = some (.ireturn, 0, 0, 0) := by decide +kernel
theorem t27_35 : g_at 27 35 = some (.aload_n 1, 0, 0, 0) := by decide +kernel
theorem t27_36 : g_at 27 36 = some (.iconst 2, 0, 0, 2) := by decide +kernel
theorem t27_37 : g_at 27 37 = some (.aload_n 0, 0, 0, 0) := by decide +kernel
theorem t27_38 : g_at 27 38 = some (.invokevirtual 87, 22, 0, 0) := by decide +kernel
theorem t27_41 : g_at 27 41 = some (.invokevirtual 83, 20, 2, 0) := by decide +kernel
theorem t27_44 : g_at 27 44 = some (.istore 4, 0, 0, 0) := by decide +kernel
theorem t27_46 : g_at 27 46 = some (.iload 4, 0, 0, 0) := by decide +kernel
theorem t27_48 : g_at 27 48 = some (.ifCond .ge (5), 53, 0, 0) := by decide +kernel
theorem t27_51 : g_at 27 51 = some (.iconst 0, 0, 0, 0) := by decide +kernel
theorem t27_52 : g_at 27 52 = some (.ireturn, 0, 0, 0) := by decide +kernel
theorem t27_53 : g_at 27 53 = some (.iload_n 2, 0, 0, 0) := by decide +kernel
theorem t27_54 : g_at 27 54 = some (.iconst 2, 0, 0, 2) := by decide +kernel
theorem t27_55 : g_at 27 55 = some (.if_icmp .ne (8), 63, 0, 0) := by decide +kernel
theorem t27_58 : g_at 27 58 = some (.bipush (-9), 0, 0, (-9)) := by decide +kernel
theorem t27_60 : g_at 27 60 = some (.goto (20), 80, 0, 0) := by decide +kernel
theorem t27_63 : g_at 27 63 = some (.aload_n 1, 0, 0, 0) := by decide +kernel
theorem t27_64 : g_at 27 64 = some (.iconst 2, 0, 0, 2) := by decide +kernel
theorem t27_65 : g_at 27 65 = some (.aload_n 0, 0, 0, 0) := by decide +kernel
theorem t27_66 : g_at 27 66 = some (.invokevirtual 87, 22, 0, 0) := by decide +kernel
theorem t27_69 : g_at 27 69 = some (.iload 4, 0, 0, 0) := by decide +kernel
theorem t27_71 : g_at 27 71 = some (.invokestatic 91, 23, 1, 0) := by decide +kernel
theorem t27_74 : g_at 27 74 = some (.iconst (-1), 0, 0, (-1)) := by decide +kernel
theorem t27_75 : g_at 27 75 = some (.ixor, 0, 0, 0) := by decide +kernel
theorem t27_76 : g_at 27 76 = some (.iand, 0, 0, 0) := by decide +kernel
theorem t27_77 : g_at 27 77 = some (.invokevirtual 83, 20, 2, 0) := by decide +kernel
theorem t27_80 : g_at 27 80 = some (.istore 5, 0, 0, 0) := by decide +kernel
theorem t27_82 : g_at 27 82 = some (.iload 5, 0, 0, 0) := by decide +kernel
theorem t27_84 : g_at 27 84 = some (.iconst (-1), 0, 0, (-1)) := by decide +kernel
theorem t27_85 : g_at 27 85 = some (.if_icmp .ne (5), 90, 0, 0) := by decide +kernel
theorem t27_88 : g_at 27 88 = some (.iconst 0, 0, 0, 0) := by decide +kernel
theorem t27_89 : g_at 27 89 = some (.ireturn, 0, 0, 0) := by decide +kernel
theorem t27_90 : g_at 27 90 = some (.aload_n 0, 0, 0, 0) := by decide +kernel
theorem t27_91 : g_at 27 91 = some (.dup, 0, 0, 0) := by decide +kernel
theorem t27_92 : g_at 27 92 = some (.getfield 52, 0, 3, 0) := by decide +kernel
theorem t27_95 : g_at 27 95 = some (.iconst 1, 0, 0, 1) := by decide +kernel
theorem t27_96 : g_at 27 96 = some (.iload_n 3, 0, 0, 0) := by decide +kernel
theorem t27_97 : g_at 27 97 = some (.ishl, 0, 0, 0) := by decide +kernel
theorem t27_98 : g_at 27 98 = some (.ior, 0, 0, 0) := by decide +kernel
theorem t27_99 : g_at 27 99 = some (.putfield 52, 0, 3, 0) := by decide +kernel
theorem t27_102 : g_at 27 102 = some (.aload_n 0, 0, 0, 0) := by decide +kernel
theorem t27_103 : g_at 27 103 = some (.getfield 9, 0, 6, 0) := by decide +kernel
theorem t27_106 : g_at 27 106 = some (.iload_n 3, 0, 0, 0) := by decide +kernel
theorem t27_107 : g_at 27 107 = some (.iload_n 2, 0, 0, 0) := by decide +kernel
theorem t27_108 : g_at 27 108 = some (.iastore, 0, 0, 0) := by decide +kernel
theorem t27_109 : g_at 27 109 = some (.aload_n 0, 0, 0, 0) := by decide +kernel
theorem t27_110 : g_at 27 110 = some (.getfield 15, 0, 7, 0) := by decide +kernel
theorem t27_113 : g_at 27 113 = some (.iload_n 3, 0, 0, 0) := by decide +kernel
theorem t27_114 : g_at 27 114 = some (.iload 4, 0, 0, 0) := by decide +kernel
theorem t27_116 : g_at 27 116 = some (.iastore, 0, 0, 0) := by decide +kernel
theorem t27_117 : g_at 27 117 = some (.aload_n 0, 0, 0, 0) := by decide +kernel
theorem t27_118 : g_at 27 118 = some (.getfield 18, 0, 8, 0) := by decide +kernel
theorem t27_121 : g_at 27 121 = some (.iload_n 3, 0, 0, 0) := by decide +kernel
theorem t27_122 : g_at 27 122 = some (.iload 5, 0, 0, 0) := by decide +kernel
theorem t27_124 : g_at 27 124 = some (.iastore, 0, 0, 0) := by decide +kernel
theorem t27_125 : g_at 27 125 = some (.iconst 1, 0, 0, 1) := by decide +kernel
theorem t27_126 : g_at 27 126 = some (.ireturn, 0, 0, 0) := by decide +kernel
theorem t28_0 : g_at 28 0 = some (.aload_n 1, 0, 0, 0) := by decide +kernel
theorem t28_1 : g_at 28 1 = some (.iconst 1, 0, 0, 1) := by decide +kernel
theorem t28_2 : g_at 28 2 = some (.aload_n 0, 0, 0, 0) := by decide +kernel
theorem t28_3 : g_at 28 3 = some (.getfield 52, 0, 3, 0) := by decide +kernel
theorem t28_6 : g_at 28 6 = some (.aload_n 0, 0, 0, 0) := by decide +kernel
theorem t28_7 : g_at 28 7 = some (.getfield 55, 0, 4, 0) := by decide +kernel
theorem t28_10 : g_at 28 10 = some (.iconst (-1), 0, 0, (-1)) := by decide +kernel
theorem t28_11 : g_at 28 11 = some (.ixor, 0, 0, 0) := by decide +kernel
theorem t28_12 : g_at 28 12 = some (.iand, 0, 0, 0) := by decide +kernel
theorem t28_13 : g_at 28 13 = some (.invokevirtual 83, 20, 2, 0) := by decide +kernel
theorem t28_16 : g_at 28 16 = some (.istore_n 2, 0, 0, 0) := by decide +kernel
theorem t28_17 : g_at 28 17 = some (.aload_n 0, 0, 0, 0) := by decide +kernel
theorem t28_18 : g_at 28 18 = some (.dup, 0, 0, 0) := by decide +kernel
theorem t28_19 : g_at 28 19 = some (.getfield 55, 0, 4, 0) := by decide +kernel
theorem t28_22 : g_at 28 22 = some (.iload_n 2, 0, 0, 0) := by decide +kernel
theorem t28_23 : g_at 28 23 = some (.invokestatic 91, 23, 1, 0) := by decide +kernel
theorem t28_26 : g_at 28 26 = some (.ior, 0, 0, 0) := by decide +kernel
theorem t28_27 : g_at 28 27 = some (.putfield 55, 0, 4, 0) := by decide +kernel
theorem t28_30 : g_at 28 30 = some (.iload_n 2, 0, 0, 0) := by decide +kernel
theorem t28_31 : g_at 28 31 = some (.ifCond .lt (7), 38, 0, 0) := by decide +kernel
theorem t28_34 : g_at 28 34 = some (.iconst 1, 0, 0, 1) := by decide +kernel
theorem t28_35 : g_at 28 35 = some (.goto (4), 39, 0, 0) := by decide +kernel
theorem t28_38 : g_at 28 38 = some (.iconst 0, 0, 0, 0) := by decide +kernel
theorem t28_39 : g_at 28 39 = some (.ireturn, 0, 0, 0) := by decide +kernel
theorem t29_0 : g_at 29 0 = some (.aload_n 1, 0, 0, 0) := by decide +kernel
theorem t29_1 : g_at 29 1 = some (.iconst 1, 0, 0, 1) := by decide +kernel
theorem t29_2 : g_at 29 2 = some (.aload_n 0, 0, 0, 0) := by decide +kernel
theorem t29_3 : g_at 29 3 = some (.getfield 52, 0, 3, 0) := by decide +kernel
theorem t29_6 : g_at 29 6 = some (.aload_n 0, 0, 0, 0) := by decide +kernel
theorem t29_7 : g_at 29 7 = some (.getfield 58, 0, 5, 0) := by decide +kernel
theorem t29_10 : g_at 29 10 = some (.iconst (-1), 0, 0, (-1)) := by decide +kernel
theorem t29_11 : g_at 29 11 = some (.ixor, 0, 0, 0) := by decide +kernel
theorem t29_12 : g_at 29 12 = some (.iand, 0, 0, 0) := by decide +kernel
theorem t29_13 : g_at 29 13 = some (.invokevirtual 83, 20, 2, 0) := by decide +kernel
theorem t29_16 : g_at 29 16 = some (.istore_n 2, 0, 0, 0) := by decide +kernel
theorem t29_17 : g_at 29 17 = some (.aload_n 0, 0, 0, 0) := by decide +kernel
theorem t29_18 : g_at 29 18 = some (.dup, 0, 0, 0) := by decide +kernel
theorem t29_19 : g_at 29 19 = some (.getfield 58, 0, 5, 0) := by decide +kernel
theorem t29_22 : g_at 29 22 = some (.iload_n 2, 0, 0, 0) := by decide +kernel
theorem t29_23 : g_at 29 23 = some (.invokestatic 91, 23, 1, 0) := by decide +kernel
theorem t29_26 : g_at 29 26 = some (.ior, 0, 0, 0) := by decide +kernel
theorem t29_27 : g_at 29 27 = some (.putfield 58, 0, 5, 0) := by decide +kernel
theorem t29_30 : g_at 29 30 = some (.iload_n 2, 0, 0, 0) := by decide +kernel
theorem t29_31 : g_at 29 31 = some (.ifCond .lt (7), 38, 0, 0) := by decide +kernel
theorem t29_34 : g_at 29 34 = some (.iconst 1, 0, 0, 1) := by decide +kernel
theorem t29_35 : g_at 29 35 = some (.goto (4), 39, 0, 0) := by decide +kernel
theorem t29_38 : g_at 29 38 = some (.iconst 0, 0, 0, 0) := by decide +kernel
theorem t29_39 : g_at 29 39 = some (.ireturn, 0, 0, 0) := by decide +kernel
theorem t30_0 : g_at 30 0 = some (.aload_n 1, 0, 0, 0) := by decide +kernel
theorem t30_1 : g_at 30 1 = some (.getfield 32, 2, 4, 0) := by decide +kernel
theorem t30_4 : g_at 30 4 = some (.iconst 1, 0, 0, 1) := by decide +kernel
theorem t30_5 : g_at 30 5 = some (.if_icmp .eq (5), 10, 0, 0) := by decide +kernel
theorem t30_8 : g_at 30 8 = some (.iconst 0, 0, 0, 0) := by decide +kernel
theorem t30_9 : g_at 30 9 = some (.ireturn, 0, 0, 0) := by decide +kernel
theorem t30_10 : g_at 30 10 = some (.aload_n 1, 0, 0, 0) := by decide +kernel
theorem t30_11 : g_at 30 11 = some (.getfield 61, 2, 5, 0) := by decide +kernel
theorem t30_14 : g_at 30 14 = some (.bipush (97), 0, 0, 97) := by decide +kernel
theorem t30_16 : g_at 30 16 = some (.iadd, 0, 0, 0) := by decide +kernel
theorem t30_17 : g_at 30 17 = some (.tableswitch (150) (98) (115) #[117, 138, 111, 131, 150, 150, 150, 124, 150, 144, 150, 150, 87, 150, 150, 150, 150, 105], 0, 0, 0) := by decide +kernel
theorem t30_104 : g_at 30 104 = some (.iload_n 2, 0, 0, 0) := by decide +kernel
theorem t30_105 : g_at 30 105 = some (.ifCond .ne (15), 120, 0, 0) := by decide +kernel
theorem t30_108 : g_at 30 108 = some (.aload_n 0, 0, 0, 0) := by decide +kernel
theorem t30_109 : g_at 30 109 = some (.aload_n 1, 0, 0, 0) := by decide +kernel
theorem t30_110 : g_at 30 110 = some (.invokevirtual 64, 21, 1, 0) := by decide +kernel
theorem t30_113 : g_at 30 113 = some (.ifCond .eq (7), 120, 0, 0) := by decide +kernel
theorem t30_116 : g_at 30 116 = some (.iconst 1, 0, 0, 1) := by decide +kernel
theorem t30_117 : g_at 30 117 = some (.goto (4), 121, 0, 0) := by decide +kernel
theorem t30_120 : g_at 30 120 = some (.iconst 0, 0, 0, 0) := by decide +kernel
theorem t30_121 : g_at 30 121 = some (.ireturn, 0, 0, 0) := by decide +kernel
theorem t30_122 : g_at 30 122 = some (.aload_n 0, 0, 0, 0) := by decide +kernel
theorem t30_123 : g_at 30 123 = some (.aload_n 1, 0, 0, 0) := by decide +kernel
theorem t30_124 : g_at 30 124 = some (.invokevirtual 68, 24, 1, 0) := by decide +kernel
theorem t30_127 : g_at 30 127 = some (.ireturn, 0, 0, 0) := by decide +kernel
theorem t30_128 : g_at 30 128 = some (.aload_n 0, 0, 0, 0) := by decide +kernel
theorem t30_129 : g_at 30 129 = some (.aload_n 1, 0, 0, 0) := by decide +kernel
theorem t30_130 : g_at 30 130 = some (.invokevirtual 71, 25, 1, 0) := by decide +kernel
theorem t30_133 : g_at 30 133 = some (.ireturn, 0, 0, 0) := by decide +kernel
theorem t30_134 : g_at 30 134 = some (.aload_n 0, 0, 0, 0) := by decide +kernel
theorem t30_135 : g_at 30 135 = some (.aload_n 1, 0, 0, 0) := by decide +kernel
theorem t30_136 : g_at 30 136 = some (.iconst 0, 0, 0, 0) := by decide +kernel
theorem t30_137 : g_at 30 137 = some (.invokevirtual 74, 27, 2, 0) := by decide +kernel
theorem t30_140 : g_at 30 140 = some (.ireturn, 0, 0, 0) := by decide +kernel
theorem t30_141 : g_at 30 141 = some (.aload_n 0, 0, 0, 0) := by decide +kernel
theorem t30_142 : g_at 30 142 = some (.aload_n 1, 0, 0, 0) := by decide +kernel
theorem t30_143 : g_at 30 143 = some (.iconst 1, 0, 0, 1) := by decide +kernel
theorem t30_144 : g_at 30 144 = some (.invokevirtual 74, 27, 2, 0) := by decide +kernel
theorem t30_147 : g_at 30 147 = some (.ireturn, 0, 0, 0) := by decide +kernel
theorem t30_148 : g_at 30 148 = some (.aload_n 0, 0, 0, 0) := by decide +kernel
theorem t30_149 : g_at 30 149 = some (.aload_n 1, 0, 0, 0) := by decide +kernel
theorem t30_150 : g_at 30 150 = some (.iconst 2, 0, 0, 2) := by decide +kernel
theorem t30_151 : g_at 30 151 = some (.invokevirtual 74, 27, 2, 0) := by decide +kernel
theorem t30_154 : g_at 30 154 = some (.ireturn, 0, 0, 0) := by decide +kernel
theorem t30_155 : g_at 30 155 = some (.aload_n 0, 0, 0, 0) := by decide +kernel
theorem t30_156 : g_at 30 156 = some (.aload_n 1, 0, 0, 0) := by decide +kernel
theorem t30_157 : g_at 30 157 = some (.invokevirtual 77, 28, 1, 0) := by decide +kernel
theorem t30_160 : g_at 30 160 = some (.ireturn, 0, 0, 0) := by decide +kernel
theorem t30_161 : g_at 30 161 = some (.aload_n 0, 0, 0, 0) := by decide +kernel
theorem t30_162 : g_at 30 162 = some (.aload_n 1, 0, 0, 0) := by decide +kernel
theorem t30_163 : g_at 30 163 = some (.invokevirtual 80, 29, 1, 0) := by decide +kernel
theorem t30_166 : g_at 30 166 = some (.ireturn, 0, 0, 0) := by decide +kernel
theorem t30_167 : g_at 30 167 = some (.iconst 0, 0, 0, 0) := by decide +kernel
theorem t30_168 : g_at 30 168 = some (.ireturn, 0, 0, 0) := by decide +kernel
theorem t31_0 : g_at 31 0 = some (.aload_n 0, 0, 0, 0) := by decide +kernel
theorem t31_1 : g_at 31 1 = some (.invokevirtual 38, 18, 0, 0) := by decide +kernel
theorem t31_4 : g_at 31 4 = some (.aload_n 0, 0, 0, 0) := by decide +kernel
theorem t31_5 : g_at 31 5 = some (.getfield 25, 2, 4, 0) := by decide +kernel
theorem t31_8 : g_at 31 8 = some (.iconst 3, 0, 0, 3) := by decide +kernel
theorem t31_9 : g_at 31 9 = some (.if_icmp .ne (7), 16, 0, 0) := by decide +kernel
theorem t31_12 : g_at 31 12 = some (.iconst 1, 0, 0, 1) := by decide +kernel
theorem t31_13 : g_at 31 13 = some (.goto (4), 17, 0, 0) := by decide +kernel
theorem t31_16 : g_at 31 16 = some (.iconst 0, 0, 0, 0) := by decide +kernel
theorem t31_17 : g_at 31 17 = some (.ireturn, 0, 0, 0) := by decide +kernel
theorem t32_0 : g_at 32 0 = some (.aload_n 0, 0, 0, 0) := by decide +kernel
theorem t32_1 : g_at 32 1 = some (.invokevirtual 21, 14, 0, 0) := by decide +kernel
theorem t32_4 : g_at 32 4 = some (.aload_n 1, 0, 0, 0) := by decide +kernel
theorem t32_5 : g_at 32 5 = some (.invokevirtual 24, 15, 0, 0) := by decide +kernel
theorem t32_8 : g_at 32 8 = some (.iconst 0, 0, 0, 0) := by decide +kernel
theorem t32_9 : g_at 32 9 = some (.istore_n 2, 0, 0, 0) := by decide +kernel
theorem t32_10 : g_at 32 10 = some (.iload_n 2, 0, 0, 0) := by decide +kernel
theorem t32_11 : g_at 32 11 = some (.bipush (120), 0, 0, 120) := by decide +kernel
theorem t32_13 : g_at 32 13 = some (.if_icmp .gt (40), 53, 0, 0) := by decide +kernel
theorem t32_16 : g_at 32 16 = some (.aload_n 1, 0, 0, 0) := by decide +kernel
theorem t32_17 : g_at 32 17 = some (.invokevirtual 29, 18, 0, 0) := by decide +kernel
theorem t32_20 : g_at 32 20 = some (.aload_n 1, 0, 0, 0) := by decide +kernel
theorem t32_21 : g_at 32 21 = some (.getfield 32, 2, 4, 0) := by decide +kernel
theorem t32_24 : g_at 32 24 = some (.ifCond .ne (5), 29, 0, 0) := by decide +kernel
theorem t32_27 : g_at 32 27 = some (.iload_n 2, 0, 0, 0) := by decide +kernel
theorem t32_28 : g_at 32 28 = some (.ireturn, 0, 0, 0) := by decide +kernel
theorem t32_29 : g_at 32 29 = some (.aload_n 0, 0, 0, 0) := by decide +kernel
theorem t32_30 : g_at 32 30 = some (.aload_n 1, 0, 0, 0) := by decide +kernel
theorem t32_31 : g_at 32 31 = some (.iload_n 2, 0, 0, 0) := by decide +kernel
theorem t32_32 : g_at 32 32 = some (.invokevirtual 35, 30, 2, 0) := by decide +kernel
theorem t32_35 : g_at 32 35 = some (.ifCond .eq (10), 45, 0, 0) := by decide +kernel
theorem t32_38 : g_at 32 38 = some (.aload_n 1, 0, 0, 0) := by decide +kernel
theorem t32_39 : g_at 32 39 = some (.invokevirtual 39, 31, 0, 0) := by decide +kernel
theorem t32_42 : g_at 32 42 = some (.ifCond .ne (5), 47, 0, 0) := by decide +kernel
theorem t32_45 : g_at 32 45 = some (.iconst (-1), 0, 0, (-1)) := by decide +kernel
theorem t32_46 : g_at 32 46 = some (.ireturn, 0, 0, 0) := by decide +kernel
theorem t32_47 : g_at 32 47 = some (.iinc 2 (1), 0, 0, 1) := by decide +kernel
theorem t32_50 : g_at 32 50 = some (.goto (-40), 10, 0, 0) := by decide +kernel
theorem t32_53 : g_at 32 53 = some (.iconst (-1), 0, 0, (-1)) := by decide +kernel
theorem t32_54 : g_at 32 54 = some (.ireturn, 0, 0, 0) := by decide +kernel
theorem t33_0 : g_at 33 0 = some (.aload_n 0, 0, 0, 0) := by decide +kernel
theorem t33_1 : g_at 33 1 = some (.getfield 15, 1, 6, 0) := by decide +kernel
theorem t33_4 : g_at 33 4 = some (.aload_n 0, 0, 0, 0) := by decide +kernel
theorem t33_5 : g_at 33 5 = some (.getfield 51, 1, 3, 0) := by decide +kernel
theorem t33_8 : g_at 33 8 = some (.aload_n 1, 0, 0, 0) := by decide +kernel
theorem t33_9 : g_at 33 9 = some (.getfield 67, 0, 6, 0) := by decide +kernel
theorem t33_12 : g_at 33 12 = some (.iload_n 2, 0, 0, 0) := by decide +kernel
theorem t33_13 : g_at 33 13 = some (.iaload, 0, 0, 0) := by decide +kernel
theorem t33_14 : g_at 33 14 = some (.iastore, 0, 0, 0) := by decide +kernel
theorem t33_15 : g_at 33 15 = some (.aload_n 0, 0, 0, 0) := by decide +kernel
theorem t33_16 : g_at 33 16 = some (.getfield 19, 1, 7, 0) := by decide +kernel
theorem t33_19 : g_at 33 19 = some (.aload_n 0, 0, 0, 0) := by decide +kernel
theorem t33_20 : g_at 33 20 = some (.getfield 51, 1, 3, 0) := by decide +kernel
theorem t33_23 : g_at 33 23 = some (.iload_n 2, 0, 0, 0) := by decide +kernel
theorem t33_24 : g_at 33 24 = some (.bipush (97), 0, 0, 97) := by decide +kernel
theorem t33_26 : g_at 33 26 = some (.iadd, 0, 0, 0) := by decide +kernel
theorem t33_27 : g_at 33 27 = some (.iastore, 0, 0, 0) := by decide +kernel
theorem t33_28 : g_at 33 28 = some (.aload_n 0, 0, 0, 0) := by decide +kernel
theorem t33_29 : g_at 33 29 = some (.getfield 22, 1, 8, 0) := by decide +kernel
theorem t33_32 : g_at 33 32 = some (.aload_n 0, 0, 0, 0) := by decide +kernel
theorem t33_33 : g_at 33 33 = some (.getfield 51, 1, 3, 0) := by decide +kernel
theorem t33_36 : g_at 33 36 = some (.aload_n 1, 0, 0, 0) := by decide +kernel
theorem t33_37 : g_at 33 37 = some (.getfield 75, 0, 7, 0) := by decide +kernel
theorem t33_40 : g_at 33 40 = some (.iload_n 2, 0, 0, 0) := by decide +kernel
theorem t33_41 : g_at 33 41 = some (.iaload, 0, 0, 0) := by decide +kernel
theorem t33_42 : g_at 33 42 = some (.iastore, 0, 0, 0) := by decide +kernel
theorem t33_43 : g_at 33 43 = some (.aload_n 0, 0, 0, 0) := by decide +kernel
theorem t33_44 : g_at 33 44 = some (.getfield 25, 1, 9, 0) := by decide +kernel
theorem t33_47 : g_at 33 47 = some (.aload_n 0, 0, 0, 0) := by decide +kernel
theorem t33_48 : g_at 33 48 = some (.getfield 51, 1, 3, 0) := by decide +kernel
theorem t33_51 : g_at 33 51 = some (.aload_n 1, 0, 0, 0) := by decide +kernel
theorem t33_52 : g_at 33 52 = some (.getfield 76, 0, 8, 0) := by decide +kernel
theorem t33_55 : g_at 33 55 = some (.iload_n 2, 0, 0, 0) := by decide +kernel
theorem t33_56 : g_at 33 56 = some (.iaload, 0, 0, 0) := by decide +kernel
theorem t33_57 : g_at 33 57 = some (.iastore, 0, 0, 0) := by decide +kernel
theorem t33_58 : g_at 33 58 = some (.aload_n 0, 0, 0, 0) := by decide +kernel
theorem t33_59 : g_at 33 59 = some (.dup, 0, 0, 0) := by decide +kernel
theorem t33_60 : g_at 33 60 = some (.getfield 54, 1, 4, 0) := by decide +kernel
theorem t33_63 : g_at 33 63 = some (.aload_n 1, 0, 0, 0) := by decide +kernel
theorem t33_64 : g_at 33 64 = some (.getfield 77, 0, 4, 0) := by decide +kernel
theorem t33_67 : g_at 33 67 = some (.iload_n 2, 0, 0, 0) := by decide +kernel
theorem t33_68 : g_at 33 68 = some (.invokestatic 63, 19, 2, 0) := by decide +kernel
theorem t33_71 : g_at 33 71 = some (.aload_n 0, 0, 0, 0) := by decide +kernel
theorem t33_72 : g_at 33 72 = some (.getfield 51, 1, 3, 0) := by decide +kernel
theorem t33_75 : g_at 33 75 = some (.ishl, 0, 0, 0) := by decide +kernel
theorem t33_76 : g_at 33 76 = some (.ior, 0, 0, 0) := by decide +kernel
theorem t33_77 : g_at 33 77 = some (.putfield 54, 1, 4, 0) := by decide +kernel
theorem t33_80 : g_at 33 80 = some (.aload_n 0, 0, 0, 0) := by decide +kernel
theorem t33_81 : g_at 33 81 = some (.dup, 0, 0, 0) := by decide +kernel
theorem t33_82 : g_at 33 82 = some (.getfield 57, 1, 5, 0) := by decide +kernel
theorem t33_85 : g_at 33 85 = some (.aload_n 1, 0, 0, 0) := by decide +kernel
theorem t33_86 : g_at 33 86 = some (.getfield 80, 0, 5, 0) := by decide +kernel
theorem t33_89 : g_at 33 89 = some (.iload_n 2, 0, 0, 0) := by decide +kernel
theorem t33_90 : g_at 33 90 = some (.invokestatic 63, 19, 2, 0) := by decide +kernel
theorem t33_93 : g_at 33 93 = some (.aload_n 0, 0, 0, 0) := by decide +kernel
theorem t33_94 : g_at 33 94 = some (.getfield 51, 1, 3, 0) := by decide +kernel
theorem t33_97 : g_at 33 97 = some (.ishl, 0, 0, 0) := by decide +kernel
theorem t33_98 : g_at 33 98 = some (.ior, 0, 0, 0) := by decide +kernel
theorem t33_99 : g_at 33 99 = some (.putfield 57, 1, 5, 0) := by decide +kernel
theorem t33_102 : g_at 33 102 = some (.aload_n 0, 0, 0, 0) := by decide +kernel
theorem t33_103 : g_at 33 103 = some (.dup, 0, 0, 0) := by decide +kernel
theorem t33_104 : g_at 33 104 = some (.getfield 51, 1, 3, 0) := by decide +kernel
theorem t33_107 : g_at 33 107 = some (.iconst 1, 0, 0, 1) := by decide +kernel
theorem t33_108 : g_at 33 108 = some (.iadd, 0, 0, 0) := by decide +kernel
theorem t33_109 : g_at 33 109 = some (.putfield 51, 1, 3, 0) := by decide +kernel
theorem t33_112 : g_at 33 112 = some (.return_, 0, 0, 0) := by decide +kernel
theorem t34_0 : g_at 34 0 = some (.iconst 0, 0, 0, 0) := by decide +kernel
theorem t34_1 : g_at 34 1 = some (.istore_n 2, 0, 0, 0) := by decide +kernel
theorem t34_2 : g_at 34 2 = some (.aload_n 0, 0, 0, 0) := by decide +kernel
theorem t34_3 : g_at 34 3 = some (.arraylength, 0, 0, 0) := by decide +kernel
theorem t34_4 : g_at 34 4 = some (.istore_n 3, 0, 0, 0) := by decide +kernel
theorem t34_5 : g_at 34 5 = some (.iload_n 2, 0, 0, 0) := by decide +kernel
theorem t34_6 : g_at 34 6 = some (.iload_n 3, 0, 0, 0) := by decide +kernel
theorem t34_7 : g_at 34 7 = some (.if_icmp .ge (13), 20, 0, 0) := by decide +kernel
theorem t34_10 : g_at 34 10 = some (.aload_n 0, 0, 0, 0) := by decide +kernel
theorem t34_11 : g_at 34 11 = some (.iload_n 2, 0, 0, 0) := by decide +kernel
theorem t34_12 : g_at 34 12 = some (.iload_n 1, 0, 0, 0) := by decide +kernel
theorem t34_13 : g_at 34 13 = some (.iastore, 0, 0, 0) := by decide +kernel
theorem t34_14 : g_at 34 14 = some (.iinc 2 (1), 0, 0, 1) := by decide +kernel
theorem t34_17 : g_at 34 17 = some (.goto (-12), 5, 0, 0) := by decide +kernel
theorem t34_20 : g_at 34 20 = some (.return_, 0, 0, 0) := by decide +kernel
theorem t35_0 : g_at 35 0 = some (.iconst 1, 0, 0, 1) := by decide +kernel
theorem t35_1 : g_at 35 1 = some (.aload_n 0, 0, 0, 0) := by decide +kernel
theorem t35_2 : g_at 35 2 = some (.getfield 51, 1, 3, 0) := by decide +kernel
theorem t35_5 : g_at 35 5 = some (.ishl, 0, 0, 0) := by decide +kernel
theorem t35_6 : g_at 35 6 = some (.iconst 1, 0, 0, 1) := by decide +kernel
theorem t35_7 : g_at 35 7 = some (.isub, 0, 0, 0) := by decide +kernel
theorem t35_8 : g_at 35 8 = some (.ireturn, 0, 0, 0) := by decide +kernel
theorem t36_0 : g_at 36 0 = some (.iconst 0, 0, 0, 0) := by decide +kernel
theorem t36_1 : g_at 36 1 = some (.istore_n 2, 0, 0, 0) := by decide +kernel
theorem t36_2 : g_at 36 2 = some (.iload_n 2, 0, 0, 0) := by decide +kernel
theorem t36_3 : g_at 36 3 = some (.aload_n 0, 0, 0, 0) := by decide +kernel
theorem t36_4 : g_at 36 4 = some (.getfield 9, 1, 0, 0) := by decide +kernel
theorem t36_7 : g_at 36 7 = some (.if_icmp .ge (25), 32, 0, 0) := by decide +kernel
theorem t36_10 : g_at 36 10 = some (.iload_n 1, 0, 0, 0) := by decide +kernel
theorem t36_11 : g_at 36 11 = some (.iload_n 2, 0, 0, 0) := by decide +kernel
theorem t36_12 : g_at 36 12 = some (.invokestatic 63, 19, 2, 0) := by decide +kernel
theorem t36_15 : g_at 36 15 = some (.iconst 1, 0, 0, 1) := by decide +kernel
theorem t36_16 : g_at 36 16 = some (.if_icmp .ne (10), 26, 0, 0) := by decide +kernel
theorem t36_19 : g_at 36 19 = some (.aload_n 0, 0, 0, 0) := by decide +kernel
theorem t36_20 : g_at 36 20 = some (.getfield 37, 1, 13, 0) := by decide +kernel
theorem t36_23 : g_at 36 23 = some (.iload_n 2, 0, 0, 0) := by decide +kernel
theorem t36_24 : g_at 36 24 = some (.iload_n 1, 0, 0, 0) := by decide +kernel
theorem t36_25 : g_at 36 25 = some (.iastore, 0, 0, 0) := by decide +kernel
theorem t36_26 : g_at 36 26 = some (.iinc 2 (1), 0, 0, 1) := by decide +kernel
theorem t36_29 : g_at 36 29 = some (.goto (-27), 2, 0, 0) := by decide +kernel
theorem t36_32 : g_at 36 32 = some (.return_, 0, 0, 0) := by decide +kernel
theorem t37_0 : g_at 37 0 = some (.iconst 0, 0, 0, 0) := by decide +kernel
theorem t37_1 : g_at 37 1 = some (.istore_n 2, 0, 0, 0) := by decide +kernel
theorem t37_2 : g_at 37 2 = some (.iload_n 2, 0, 0, 0) := by decide +kernel
theorem t37_3 : g_at 37 3 = some (.aload_n 0, 0, 0, 0) := by decide +kernel
theorem t37_4 : g_at 37 4 = some (.getfield 9, 1, 0, 0) := by decide +kernel
theorem t37_7 : g_at 37 7 = some (.if_icmp .ge (18), 25, 0, 0) := by decide +kernel
theorem t37_10 : g_at 37 10 = some (.aload_n 0, 0, 0, 0) := by decide +kernel
theorem t37_11 : g_at 37 11 = some (.getfield 37, 1, 13, 0) := by decide +kernel
theorem t37_14 : g_at 37 14 = some (.iload_n 2, 0, 0, 0) := by decide +kernel
theorem t37_15 : g_at 37 15 = some (.iconst 1, 0, 0, 1) := by decide +kernel
theorem t37_16 : g_at 37 16 = some (.iload_n 2, 0, 0, 0) := by decide +kernel
theorem t37_17 : g_at 37 17 = some (.ishl, 0, 0, 0) := by decide +kernel
theorem t37_18 : g_at 37 18 = some (.iastore, 0, 0, 0) := by decide +kernel
theorem t37_19 : g_at 37 19 = some (.iinc 2 (1), 0, 0, 1) := by decide +kernel
theorem t37_22 : g_at 37 22 = some (.goto (-20), 2, 0, 0) := by decide +kernel
theorem t37_25 : g_at 37 25 = some (.iconst 0, 0, 0, 0) := by decide +kernel
theorem t37_26 : g_at 37 26 = some (.istore_n 2, 0, 0, 0) := by decide +kernel
theorem t37_27 : g_at 37 27 = some (.iload_n 2, 0, 0, 0) := by decide +kernel
theorem t37_28 : g_at 37 28 = some (.aload_n 0, 0, 0, 0) := by decide +kernel
theorem t37_29 : g_at 37 29 = some (.getfield 51, 1, 3, 0) := by decide +kernel
theorem t37_32 : g_at 37 32 = some (.if_icmp .ge (55), 87, 0, 0) := by decide +kernel
theorem t37_35 : g_at 37 35 = some (.aload_n 0, 0, 0, 0) := by decide +kernel
theorem t37_36 : g_at 37 36 = some (.getfield 15, 1, 6, 0) := by decide +kernel
theorem t37_39 : g_at 37 39 = some (.iload_n 2, 0, 0, 0) := by decide +kernel
theorem t37_40 : g_at 37 40 = some (.iaload, 0, 0, 0) := by decide +kernel
theorem t37_41 : g_at 37 41 = some (.iconst 2, 0, 0, 2) := by decide +kernel
theorem t37_42 : g_at 37 42 = some (.if_icmp .eq (39), 81, 0, 0) := by decide +kernel
theorem t37_45 : g_at 37 45 = some (.iload_n 1, 0, 0, 0) := by decide +kernel
theorem t37_46 : g_at 37 46 = some (.iload_n 2, 0, 0, 0) := by decide +kernel
theorem t37_47 : g_at 37 47 = some (.invokestatic 63, 19, 2, 0) := by decide +kernel
theorem t37_50 : g_at 37 50 = some (.iconst 1, 0, 0, 1) := by decide +kernel
theorem t37_51 : g_at 37 51 = some (.if_icmp .ne (30), 81, 0, 0) := by decide +kernel
theorem t37_54 : g_at 37 54 = some (.aload_n 0, 0, 0, 0) := by decide +kernel
theorem t37_55 : g_at 37 55 = some (.aload_n 0, 0, 0, 0) := by decide +kernel
theorem t37_56 : g_at 37 56 = some (.getfield 37, 1, 13, 0) := by decide +kernel
theorem t37_59 : g_at 37 59 = some (.aload_n 0, 0, 0, 0) := by decide +kernel
theorem t37_60 : g_at 37 60 = some (.getfield 22, 1, 8, 0) := by decide +kernel
theorem t37_63 : g_at 37 63 = some (.iload_n 2, 0, 0, 0) := by decide +kernel
theorem t37_64 : g_at 37 64 = some (.iaload, 0, 0, 0) := by decide +kernel
theorem t37_65 : g_at 37 65 = some (.iaload, 0, 0, 0) := by decide +kernel
theorem t37_66 : g_at 37 66 = some (.aload_n 0, 0, 0, 0) := by decide +kernel
theorem t37_67 : g_at 37 67 = some (.getfield 37, 1, 13, 0) := by decide +kernel
theorem t37_70 : g_at 37 70 = some (.aload_n 0, 0, 0, 0) := by decide +kernel
theorem t37_71 : g_at 37 71 = some (.getfield 25, 1, 9, 0) := by decide +kernel
theorem t37_74 : g_at 37 74 = some (.iload_n 2, 0, 0, 0) := by decide +kernel
theorem t37_75 : g_at 37 75 = some (.iaload, 0, 0, 0) := by decide +kernel
theorem t37_76 : g_at 37 76 = some (.iaload, 0, 0, 0) := by decide +kernel
theorem t37_77 : g_at 37 77 = some (.ior, 0, 0, 0) := by decide +kernel
theorem t37_78 : g_at 37 78 = some (.invokevirtual 108, 36, 1, 0) := by decide +kernel
theorem t37_81 : g_at 37 81 = some (.iinc 2 (1), 0, 0, 1) := by decide +kernel
theorem t37_84 : g_at 37 84 = some (.goto (-57), 27, 0, 0) := by decide +kernel
theorem t37_87 : g_at 37 87 = some (.return_, 0, 0, 0) := by decide +kernel
theorem t38_0 : g_at 38 0 = some (.iconst 0, 0, 0, 0) := by decide +kernel
theorem t38_1 : g_at 38 1 = some (.istore_n 2, 0, 0, 0) := by decide +kernel
theorem t38_2 : g_at 38 2 = some (.iconst 0, 0, 0, 0) := by decide +kernel
theorem t38_3 : g_at 38 3 = some (.istore_n 3, 0, 0, 0) := by decide +kernel
theorem t38_4 : g_at 38 4 = some (.iload_n 3, 0, 0, 0) := by decide +kernel
theorem t38_5 : g_at 38 5 = some (.aload_n 0, 0, 0, 0) := by decide +kernel
theorem t38_6 : g_at 38 6 = some (.getfield 9, 1, 0, 0) := by decide +kernel
theorem t38_9 : g_at 38 9 = some (.if_icmp .ge (27), 36, 0, 0) := by decide +kernel
theorem t38_12 : g_at 38 12 = some (.iload_n 1, 0, 0, 0) := by decide +kernel
theorem t38_13 : g_at 38 13 = some (.iload_n 3, 0, 0, 0) := by decide +kernel
theorem t38_14 : g_at 38 14 = some (.invokestatic 63, 19, 2, 0) := by decide +kernel
theorem t38_17 : g_at 38 17 = some (.iconst 1, 0, 0, 1) := by decide +kernel
theorem t38_18 : g_at 38 18 = some (.if_icmp .ne (12), 30, 0, 0) := by decide +kernel
theorem t38_21 : g_at 38 21 = some (.iload_n 2, 0, 0, 0) := by decide +kernel
theorem t38_22 : g_at 38 22 = some (.aload_n 0, 0, 0, 0) := by decide +kernel
theorem t38_23 : g_at 38 23 = some (.getfield 37, 1, 13, 0) := by decide +kernel
theorem t38_26 : g_at 38 26 = some (.iload_n 3, 0, 0, 0) := by decide +kernel
theorem t38_27 : g_at 38 27 = some (.iaload, 0, 0, 0) := by decide +kernel
theorem t38_28 : g_at 38 28 = some (.ior, 0, 0, 0) := by decide +kernel
theorem t38_29 : g_at 38 29 = some (.istore_n 2, 0, 0, 0) := by decide +kernel
theorem t38_30 : g_at 38 30 = some (.iinc 3 (1), 0, 0, 1) := by decide +kernel
theorem t38_33 : g_at 38 33 = some (.goto (-29), 4, 0, 0) := by decide +kernel
theorem t38_36 : g_at 38 36 = some (.iload_n 2, 0, 0, 0) := by decide +kernel
theorem t38_37 : g_at 38 37 = some (.ireturn, 0, 0, 0) := by decide +kernel
theorem t39_0 : g_at 39 0 = some (.iconst 0, 0, 0, 0) := by decide +kernel
theorem t39_1 : g_at 39 1 = some (.istore_n 2, 0, 0, 0) := by decide +kernel
theorem t39_2 : g_at 39 2 = some (.iconst 0, 0, 0, 0) := by decide +kernel
theorem t39_3 : g_at 39 3 = some (.istore_n 3, 0, 0, 0) := by decide +kernel
theorem t39_4 : g_at 39 4 = some (.iload_n 3, 0, 0, 0) := by decide +kernel
theorem t39_5 : g_at 39 5 = some (.aload_n 0, 0, 0, 0) := by decide +kernel
theorem t39_6 : g_at 39 6 = some (.getfield 51, 1, 3, 0) := by decide +kernel
theorem t39_9 : g_at 39 9 = some (.if_icmp .ge (39), 48, 0, 0) := by decide +kernel
theorem t39_12 : g_at 39 12 = some (.aload_n 0, 0, 0, 0) := by decide +kernel
theorem t39_13 : g_at 39 13 = some (.getfield 15, 1, 6, 0) := by decide +kernel
theorem t39_16 : g_at 39 16 = some (.iload_n 3, 0, 0, 0) := by decide +kernel
theorem t39_17 : g_at 39 17 = some (.iaload, 0, 0, 0) := by decide +kernel
theorem t39_18 : g_at 39 18 = some (.iconst 2, 0, 0, 2) := by decide +kernel
theorem t39_19 : g_at 39 19 = some (.if_icmp .ne (23), 42, 0, 0) := by decide +kernel
theorem t39_22 : g_at 39 22 = some (.iload_n 1, 0, 0, 0) := by decide +kernel
theorem t39_23 : g_at 39 23 = some (.iload_n 3, 0, 0, 0) := by decide +kernel
theorem t39_24 : g_at 39 24 = some (.invokestatic 63, 19, 2, 0) := by decide +kernel
theorem t39_27 : g_at 39 27 = some (.iconst 1, 0, 0, 1) := by decide +kernel
theorem t39_28 : g_at 39 28 = some (.if_icmp .ne (14), 42, 0, 0) := by decide +kernel
theorem t39_31 : g_at 39 31 = some (.iload_n 2, 0, 0, 0) := by decide +kernel
theorem t39_32 : g_at 39 32 = some (.iconst 1, 0, 0, 1) := by decide +kernel
theorem t39_33 : g_at 39 33 = some (.aload_n 0, 0, 0, 0) := by decide +kernel
theorem t39_34 : g_at 39 34 = some (.getfield 22, 1, 8, 0) := by decide +kernel
theorem t39_37 : g_at 39 37 = some (.iload_n 3, 0, 0, 0) := by decide +kernel
theorem t39_38 : g_at 39 38 = some (.iaload, 0, 0, 0) := by decide +kernel
theorem t39_39 : g_at 39 39 = some (.ishl, 0, 0, 0) := by decide +kernel
theorem t39_40 : g_at 39 40 = some (.ior, 0, 0, 0) := by decide +kernel
theorem t39_41 : g_at 39 41 = some (.istore_n 2, 0, 0, 0) := by decide +kernel
theorem t39_42 : g_at 39 42 = some (.iinc 3 (1), 0, 0, 1) := by decide +kernel
theorem t39_45 : g_at 39 45 = some (.goto (-41), 4, 0, 0) := by decide +kernel
theorem t39_48 : g_at 39 48 = some (.iload_n 2, 0, 0, 0) := by decide +kernel
theorem t39_49 : g_at 39 49 = some (.ireturn, 0, 0, 0) := by decide +kernel
theorem t40_0 : g_at 40 0 = some (.aload_n 0, 0, 0, 0) := by decide +kernel
theorem t40_1 : g_at 40 1 = some (.getfield 22, 1, 8, 0) := by decide +kernel
theorem t40_4 : g_at 40 4 = some (.iload_n 1, 0, 0, 0) := by decide +kernel
theorem t40_5 : g_at 40 5 = some (.iaload, 0, 0, 0) := by decide +kernel
theorem t40_6 : g_at 40 6 = some (.istore 4, 0, 0, 0) := by decide +kernel
theorem t40_8 : g_at 40 8 = some (.aload_n 0, 0, 0, 0) := by decide +kernel
theorem t40_9 : g_at 40 9 = some (.getfield 25, 1, 9, 0) := by decide +kernel
theorem t40_12 : g_at 40 12 = some (.iload_n 1, 0, 0, 0) := by decide +kernel
theorem t40_13 : g_at 40 13 = some (.iaload, 0, 0, 0) := by decide +kernel
theorem t40_14 : g_at 40 14 = some (.istore 5, 0, 0, 0) := by decide +kernel
theorem t40_16 : g_at 40 16 = some (.aload_n 0, 0, 0, 0) := by decide +kernel
theorem t40_17 : g_at 40 17 = some (.getfield 37, 1, 13, 0) := by decide +kernel
theorem t40_20 : g_at 40 20 = some (.iload 4, 0, 0, 0) := by decide +kernel
theorem t40_22 : g_at 40 22 = some (.iaload, 0, 0, 0) := by decide +kernel
theorem t40_23 : g_at 40 23 = some (.iload 5, 0, 0, 0) := by decide +kernel
theorem t40_25 : g_at 40 25 = some (.invokestatic 63, 19, 2, 0) := by decide +kernel
theorem t40_28 : g_at 40 28 = some (.iconst 1, 0, 0, 1) := by decide +kernel
theorem t40_29 : g_at 40 29 = some (.if_icmp .ne (5), 34, 0, 0) := by decide +kernel
theorem t40_32 : g_at 40 32 = some (.iconst 0, 0, 0, 0) := by decide +kernel
theorem t40_33 : g_at 40 33 = some (.ireturn, 0, 0, 0) := by decide +kernel
theorem t40_34 : g_at 40 34 = some (.iload_n 2, 0, 0, 0) := by decide +kernel
theorem t40_35 : g_at 40 35 = some (.iload 4, 0, 0, 0) := by decide +kernel
theorem t40_37 : g_at 40 37 = some (.invokestatic 63, 19, 2, 0) := by decide +kernel
theorem t40_40 : g_at 40 40 = some (.iconst 1, 0, 0, 1) := by decide +kernel
theorem t40_41 : g_at 40 41 = some (.if_icmp .ne (15), 56, 0, 0) := by decide +kernel
theorem t40_44 : g_at 40 44 = some (.iload_n 2, 0, 0, 0) := by decide +kernel
theorem t40_45 : g_at 40 45 = some (.iload_n 3, 0, 0, 0) := by decide +kernel
theorem t40_46 : g_at 40 46 = some (.ior, 0, 0, 0) := by decide +kernel
theorem t40_47 : g_at 40 47 = some (.iload 5, 0, 0, 0) := by decide +kernel
theorem t40_49 : g_at 40 49 = some (.invokestatic 63, 19, 2, 0) := by decide +kernel
theorem t40_52 : g_at 40 52 = some (.iconst 1, 0, 0, 1) := by decide +kernel
theorem t40_53 : g_at 40 53 = some (.if_icmp .eq (23), 76, 0, 0) := by decide +kernel
theorem t40_56 : g_at 40 56 = some (.iload_n 2, 0, 0, 0) := by decide +kernel
theorem t40_57 : g_at 40 57 = some (.iload 5, 0, 0, 0) := by decide +kernel
theorem t40_59 : g_at 40 59 = some (.invokestatic 63, 19, 2, 0) := by decide +kernel
theorem t40_62 : g_at 40 62 = some (.iconst 1, 0, 0, 1) := by decide +kernel
theorem t40_63 : g_at 40 63 = some (.if_icmp .ne (17), 80, 0, 0) := by decide +kernel
theorem t40_66 : g_at 40 66 = some (.iload_n 3, 0, 0, 0) := by decide +kernel
theorem t40_67 : g_at 40 67 = some (.iload 4, 0, 0, 0) := by decide +kernel
theorem t40_69 : g_at 40 69 = some (.invokestatic 63, 19, 2, 0) := by decide +kernel
theorem t40_72 : g_at 40 72 = some (.iconst 1, 0, 0, 1) := by decide +kernel
theorem t40_73 : g_at 40 73 = some (.if_icmp .ne (7), 80, 0, 0) := by decide +kernel
theorem t40_76 : g_at 40 76 = some (.iconst 1, 0, 0, 1) := by decide +kernel
theorem t40_77 : g_at 40 77 = some (.goto (4), 81, 0, 0) := by decide +kernel
theorem t40_80 : g_at 40 80 = some (.iconst 0, 0, 0, 0) := by decide +kernel
theorem t40_81 : g_at 40 81 = some (.ireturn, 0, 0, 0) := by decide +kernel
theorem t41_0 : g_at 41 0 = some (.iconst 0, 0, 0, 0) := by decide +kernel
theorem t41_1 : g_at 41 1 = some (.istore_n 3, 0, 0, 0) := by decide +kernel
theorem t41_2 : g_at 41 2 = some (.iload_n 3, 0, 0, 0) := by decide +kernel
theorem t41_3 : g_at 41 3 = some (.aload_n 0, 0, 0, 0) := by decide +kernel
theorem t41_4 : g_at 41 4 = some (.getfield 51, 1, 3, 0) := by decide +kernel
theorem t41_7 : g_at 41 7 = some (.if_icmp .ge (70), 77, 0, 0) := by decide +kernel
theorem t41_10 : g_at 41 10 = some (.aload_n 0, 0, 0, 0) := by decide +kernel
theorem t41_11 : g_at 41 11 = some (.getfield 15, 1, 6, 0) := by decide +kernel
theorem t41_14 : g_at 41 14 = some (.iload_n 3, 0, 0, 0) := by decide +kernel
theorem t41_15 : g_at 41 15 = some (.iaload, 0, 0, 0) := by decide +kernel
theorem t41_16 : g_at 41 16 = some (.iconst 1, 0, 0, 1) := by decide +kernel
theorem t41_17 : g_at 41 17 = some (.if_icmp .ne (54), 71, 0, 0) := by decide +kernel
theorem t41_20 : g_at 41 20 = some (.iload_n 1, 0, 0, 0) := by decide +kernel
theorem t41_21 : g_at 41 21 = some (.iload_n 3, 0, 0, 0) := by decide +kernel
theorem t41_22 : g_at 41 22 = some (.invokestatic 63, 19, 2, 0) := by decide +kernel
theorem t41_25 : g_at 41 25 = some (.ifCond .ne (46), 71, 0, 0) := by decide +kernel
theorem t41_28 : g_at 41 28 = some (.aload_n 0, 0, 0, 0) := by decide +kernel
theorem t41_29 : g_at 41 29 = some (.iload_n 3, 0, 0, 0) := by decide +kernel
theorem t41_30 : g_at 41 30 = some (.aload_n 0, 0, 0, 0) := by decide +kernel
theorem t41_31 : g_at 41 31 = some (.getfield 28, 1, 10, 0) := by decide +kernel
theorem t41_34 : g_at 41 34 = some (.iload_n 1, 0, 0, 0) := by decide +kernel
theorem t41_35 : g_at 41 35 = some (.iaload, 0, 0, 0) := by decide +kernel
theorem t41_36 : g_at 41 36 = some (.iload_n 2, 0, 0, 0) := by decide +kernel
theorem t41_37 : g_at 41 37 = some (.invokevirtual 111, 40, 3, 0) := by decide +kernel
theorem t41_40 : g_at 41 40 = some (.ifCond .eq (31), 71, 0, 0) := by decide +kernel
theorem t41_43 : g_at 41 43 = some (.aload_n 0, 0, 0, 0) := by decide +kernel
theorem t41_44 : g_at 41 44 = some (.getfield 34, 1, 12, 0) := by decide +kernel
theorem t41_47 : g_at 41 47 = some (.iload_n 1, 0, 0, 0) := by decide +kernel
theorem t41_48 : g_at 41 48 = some (.dup2, 0, 0, 0) := by decide +kernel
theorem t41_49 : g_at 41 49 = some (.iaload, 0, 0, 0) := by decide +kernel
theorem t41_50 : g_at 41 50 = some (.iconst 1, 0, 0, 1) := by decide +kernel
theorem t41_51 : g_at 41 51 = some (.iload_n 3, 0, 0, 0) := by decide +kernel
theorem t41_52 : g_at 41 52 = some (.ishl, 0, 0, 0) := by decide +kernel
theorem t41_53 : g_at 41 53 = some (.ior, 0, 0, 0) := by decide +kernel
theorem t41_54 : g_at 41 54 = some (.iastore, 0, 0, 0) := by decide +kernel
theorem t41_55 : g_at 41 55 = some (.aload_n 0, 0, 0, 0) := by decide +kernel
theorem t41_56 : g_at 41 56 = some (.getfield 34, 1, 12, 0) := by decide +kernel
theorem t41_59 : g_at 41 59 = some (.iload_n 1, 0, 0, 0) := by decide +kernel
theorem t41_60 : g_at 41 60 = some (.iconst 1, 0, 0, 1) := by decide +kernel
theorem t41_61 : g_at 41 61 = some (.iload_n 3, 0, 0, 0) := by decide +kernel
theorem t41_62 : g_at 41 62 = some (.ishl, 0, 0, 0) := by decide +kernel
theorem t41_63 : g_at 41 63 = some (.ior, 0, 0, 0) := by decide +kernel
theorem t41_64 : g_at 41 64 = some (.dup2, 0, 0, 0) := by decide +kernel
theorem t41_65 : g_at 41 65 = some (.iaload, 0, 0, 0) := by decide +kernel
theorem t41_66 : g_at 41 66 = some (.iconst 1, 0, 0, 1) := by decide +kernel
theorem t41_67 : g_at 41 67 = some (.iload_n 3, 0, 0, 0) := by decide +kernel
theorem t41_68 : g_at 41 68 = some (.ishl, 0, 0, 0) := by decide +kernel
theorem t41_69 : g_at 41 69 = some (.ior, 0, 0, 0) := by decide +kernel
theorem t41_70 : g_at 41 70 = some (.iastore, 0, 0, 0) := by decide +kernel
theorem t41_71 : g_at 41 71 = some (.iinc 3 (1), 0, 0, 1) := by decide +kernel
theorem t41_74 : g_at 41 74 = some (.goto (-72), 2, 0, 0) := by decide +kernel
theorem t41_77 : g_at 41 77 = some (.return_, 0, 0, 0) := by decide +kernel
theorem t42_0 : g_at 42 0 = some (.aload_n 0, 0, 0, 0) := by decide +kernel
theorem t42_1 : g_at 42 1 = some (.getfield 34, 1, 12, 0) := by decide +kernel
theorem t42_4 : g_at 42 4 = some (.iconst 0, 0, 0, 0) := by decide +kernel
theorem t42_5 : g_at 42 5 = some (.invokestatic 83, 34, 2, 0) := by decide +kernel
theorem t42_8 : g_at 42 8 = some (.iconst 0, 0, 0, 0) := by decide +kernel
theorem t42_9 : g_at 42 9 = some (.istore_n 1, 0, 0, 0) := by decide +kernel
theorem t42_10 : g_at 42 10 = some (.iload_n 1, 0, 0, 0) := by decide +kernel
theorem t42_11 : g_at 42 11 = some (.aload_n 0, 0, 0, 0) := by decide +kernel
theorem t42_12 : g_at 42 12 = some (.invokevirtual 89, 35, 0, 0) := by decide +kernel
theorem t42_15 : g_at 42 15 = some (.if_icmp .gt (56), 71, 0, 0) := by decide +kernel
theorem t42_18 : g_at 42 18 = some (.aload_n 0, 0, 0, 0) := by decide +kernel
theorem t42_19 : g_at 42 19 = some (.iload_n 1, 0, 0, 0) := by decide +kernel
theorem t42_20 : g_at 42 20 = some (.invokevirtual 93, 37, 1, 0) := by decide +kernel
theorem t42_23 : g_at 42 23 = some (.aload_n 0, 0, 0, 0) := by decide +kernel
theorem t42_24 : g_at 42 24 = some (.getfield 28, 1, 10, 0) := by decide +kernel
theorem t42_27 : g_at 42 27 = some (.iload_n 1, 0, 0, 0) := by decide +kernel
theorem t42_28 : g_at 42 28 = some (.aload_n 0, 0, 0, 0) := by decide +kernel
theorem t42_29 : g_at 42 29 = some (.aload_n 0, 0, 0, 0) := by decide +kernel
theorem t42_30 : g_at 42 30 = some (.getfield 46, 1, 1, 0) := by decide +kernel
theorem t42_33 : g_at 42 33 = some (.invokevirtual 97, 38, 1, 0) := by decide +kernel
theorem t42_36 : g_at 42 36 = some (.iastore, 0, 0, 0) := by decide +kernel
theorem t42_37 : g_at 42 37 = some (.aload_n 0, 0, 0, 0) := by decide +kernel
theorem t42_38 : g_at 42 38 = some (.getfield 31, 1, 11, 0) := by decide +kernel
theorem t42_41 : g_at 42 41 = some (.iload_n 1, 0, 0, 0) := by decide +kernel
theorem t42_42 : g_at 42 42 = some (.aload_n 0, 0, 0, 0) := by decide +kernel
theorem t42_43 : g_at 42 43 = some (.aload_n 0, 0, 0, 0) := by decide +kernel
theorem t42_44 : g_at 42 44 = some (.iload_n 1, 0, 0, 0) := by decide +kernel
theorem t42_45 : g_at 42 45 = some (.invokevirtual 101, 39, 1, 0) := by decide +kernel
theorem t42_48 : g_at 42 48 = some (.invokevirtual 97, 38, 1, 0) := by decide +kernel
theorem t42_51 : g_at 42 51 = some (.iastore, 0, 0, 0) := by decide +kernel
theorem t42_52 : g_at 42 52 = some (.aload_n 0, 0, 0, 0) := by decide +kernel
theorem t42_53 : g_at 42 53 = some (.iload_n 1, 0, 0, 0) := by decide +kernel
theorem t42_54 : g_at 42 54 = some (.aload_n 0, 0, 0, 0) := by decide +kernel
theorem t42_55 : g_at 42 55 = some (.aload_n 0, 0, 0, 0) := by decide +kernel
theorem t42_56 : g_at 42 56 = some (.getfield 50, 1, 2, 0) := by decide +kernel
theorem t42_59 : g_at 42 59 = some (.invokevirtual 97, 38, 1, 0) := by decide +kernel
theorem t42_62 : g_at 42 62 = some (.invokevirtual 104, 41, 2, 0) := by decide +kernel
theorem t42_65 : g_at 42 65 = some (.iinc 1 (1), 0, 0, 1) := by decide +kernel
theorem t42_68 : g_at 42 68 = some (.goto (-58), 10, 0, 0) := by decide +kernel
theorem t42_71 : g_at 42 71 = some (.return_, 0, 0, 0) := by decide +kernel
theorem t43_0 : g_at 43 0 = some (.aload_n 0, 0, 0, 0) := by decide +kernel
theorem t43_1 : g_at 43 1 = some (.aload_n 1, 0, 0, 0) := by decide +kernel
theorem t43_2 : g_at 43 2 = some (.getfield 40, 0, 0, 0) := by decide +kernel
theorem t43_5 : g_at 43 5 = some (.putfield 9, 1, 0, 0) := by decide +kernel
theorem t43_8 : g_at 43 8 = some (.aload_n 0, 0, 0, 0) := by decide +kernel
theorem t43_9 : g_at 43 9 = some (.aload_n 1, 0, 0, 0) := by decide +kernel
theorem t43_10 : g_at 43 10 = some (.getfield 43, 0, 1, 0) := by decide +kernel
theorem t43_13 : g_at 43 13 = some (.putfield 46, 1, 1, 0) := by decide +kernel
theorem t43_16 : g_at 43 16 = some (.aload_n 0, 0, 0, 0) := by decide +kernel
theorem t43_17 : g_at 43 17 = some (.aload_n 1, 0, 0, 0) := by decide +kernel
theorem t43_18 : g_at 43 18 = some (.getfield 47, 0, 2, 0) := by decide +kernel
theorem t43_21 : g_at 43 21 = some (.putfield 50, 1, 2, 0) := by decide +kernel
theorem t43_24 : g_at 43 24 = some (.aload_n 0, 0, 0, 0) := by decide +kernel
theorem t43_25 : g_at 43 25 = some (.iconst 0, 0, 0, 0) := by decide +kernel
theorem t43_26 : g_at 43 26 = some (.putfield 51, 1, 3, 0) := by decide +kernel
theorem t43_29 : g_at 43 29 = some (.aload_n 0, 0, 0, 0) := by decide +kernel
theorem t43_30 : g_at 43 30 = some (.iconst 0, 0, 0, 0) := by decide +kernel
theorem t43_31 : g_at 43 31 = some (.putfield 54, 1, 4, 0) := by decide +kernel
theorem t43_34 : g_at 43 34 = some (.aload_n 0, 0, 0, 0) := by decide +kernel
theorem t43_35 : g_at 43 35 = some (.iconst 0, 0, 0, 0) := by decide +kernel
theorem t43_36 : g_at 43 36 = some (.putfield 57, 1, 5, 0) := by decide +kernel
theorem t43_39 : g_at 43 39 = some (.iconst 0, 0, 0, 0) := by decide +kernel
theorem t43_40 : g_at 43 40 = some (.istore_n 2, 0, 0, 0) := by decide +kernel
theorem t43_41 : g_at 43 41 = some (.iload_n 2, 0, 0, 0) := by decide +kernel
theorem t43_42 : g_at 43 42 = some (.iconst 3, 0, 0, 3) := by decide +kernel
theorem t43_43 : g_at 43 43 = some (.if_icmp .ge (60), 103, 0, 0) := by decide +kernel
theorem t43_46 : g_at 43 46 = some (.iconst 0, 0, 0, 0) := by decide +kernel
theorem t43_47 : g_at 43 47 = some (.istore_n 3, 0, 0, 0) := by decide +kernel
theorem t43_48 : g_at 43 48 = some (.iload_n 3, 0, 0, 0) := by decide +kernel
theorem t43_49 : g_at 43 49 = some (.bipush (26), 0, 0, 26) := by decide +kernel
theorem t43_51 : g_at 43 51 = some (.if_icmp .ge (46), 97, 0, 0) := by decide +kernel
theorem t43_54 : g_at 43 54 = some (.aload_n 1, 0, 0, 0) := by decide +kernel
theorem t43_55 : g_at 43 55 = some (.getfield 60, 0, 3, 0) := by decide +kernel
theorem t43_58 : g_at 43 58 = some (.iload_n 3, 0, 0, 0) := by decide +kernel
theorem t43_59 : g_at 43 59 = some (.invokestatic 63, 19, 2, 0) := by decide +kernel
theorem t43_62 : g_at 43 62 = some (.iconst 1, 0, 0, 1) := by decide +kernel
theorem t43_63 : g_at 43 63 = some (.if_icmp .ne (28), 91, 0, 0) := by decide +kernel
theorem t43_66 : g_at 43 66 = some (.aload_n 1, 0, 0, 0) := by decide +kernel
theorem t43_67 : g_at 43 67 = some (.getfield 67, 0, 6, 0) := by decide +kernel
theorem t43_70 : g_at 43 70 = some (.iload_n 3, 0, 0, 0) := by decide +kernel
theorem t43_71 : g_at 43 71 = some (.iaload, 0, 0, 0) := by decide +kernel
theorem t43_72 : g_at 43 72 = some (.iload_n 2, 0, 0, 0) := by decide +kernel
theorem t43_73 : g_at 43 73 = some (.if_icmp .ne (18), 91, 0, 0) := by decide +kernel
theorem t43_76 : g_at 43 76 = some (.aload_n 0, 0, 0, 0) := by decide +kernel
theorem t43_77 : g_at 43 77 = some (.getfield 51, 1, 3, 0) := by decide +kernel
theorem t43_80 : g_at 43 80 = some (.bipush (8), 0, 0, 8) := by decide +kernel
theorem t43_82 : g_at 43 82 = some (.if_icmp .ge (9), 91, 0, 0) := by decide +kernel
theorem t43_85 : g_at 43 85 = some (.aload_n 0, 0, 0, 0) := by decide +kernel
theorem t43_86 : g_at 43 86 = some (.aload_n 1, 0, 0, 0) := by decide +kernel
theorem t43_87 : g_at 43 87 = some (.iload_n 3, 0, 0, 0) := by decide +kernel
theorem t43_88 : g_at 43 88 = some (.invokevirtual 68, 33, 2, 0) := by decide +kernel
theorem t43_91 : g_at 43 91 = some (.iinc 3 (1), 0, 0, 1) := by decide +kernel
theorem t43_94 : g_at 43 94 = some (.goto (-46), 48, 0, 0) := by decide +kernel
theorem t43_97 : g_at 43 97 = some (.iinc 2 (1), 0, 0, 1) := by decide +kernel
theorem t43_100 : g_at 43 100 = some (.goto (-59), 41, 0, 0) := by decide +kernel
theorem t43_103 : g_at 43 103 = some (.aload_n 0, 0, 0, 0) := by decide +kernel
theorem t43_104 : g_at 43 104 = some (.invokevirtual 72, 42, 0, 0) := by decide +kernel
theorem t43_107 : g_at 43 107 = some (.return_, 0, 0, 0) := by decide +kernel
theorem t44_0 : g_at 44 0 = some (.aload_n 0, 0, 0, 0) := by decide +kernel
theorem t44_1 : g_at 44 1 = some (.getfield 28, 1, 10, 0) := by decide +kernel
theorem t44_4 : g_at 44 4 = some (.iload_n 1, 0, 0, 0) := by decide +kernel
theorem t44_5 : g_at 44 5 = some (.iaload, 0, 0, 0) := by decide +kernel
theorem t44_6 : g_at 44 6 = some (.aload_n 0, 0, 0, 0) := by decide +kernel
theorem t44_7 : g_at 44 7 = some (.getfield 31, 1, 11, 0) := by decide +kernel
theorem t44_10 : g_at 44 10 = some (.iload_n 1, 0, 0, 0) := by decide +kernel
theorem t44_11 : g_at 44 11 = some (.iaload, 0, 0, 0) := by decide +kernel
theorem t44_12 : g_at 44 12 = some (.iand, 0, 0, 0) := by decide +kernel
theorem t44_13 : g_at 44 13 = some (.ifCond .ne (7), 20, 0, 0) := by decide +kernel
theorem t44_16 : g_at 44 16 = some (.iconst 1, 0, 0, 1) := by decide +kernel
theorem t44_17 : g_at 44 17 = some (.goto (4), 21, 0, 0) := by decide +kernel
theorem t44_20 : g_at 44 20 = some (.iconst 0, 0, 0, 0) := by decide +kernel
theorem t44_21 : g_at 44 21 = some (.ireturn, 0, 0, 0) := by decide +kernel
theorem t45_0 : g_at 45 0 = some (.aload_n 0, 0, 0, 0) := by decide +kernel
theorem t45_1 : g_at 45 1 = some (.getfield 19, 3, 1, 0) := by decide +kernel
theorem t45_4 : g_at 45 4 = some (.aload_n 0, 0, 0, 0) := by decide +kernel
theorem t45_5 : g_at 45 5 = some (.getfield 12, 3, 0, 0) := by decide +kernel
theorem t45_8 : g_at 45 8 = some (.invokevirtual 62, 32, 1, 0) := by decide +kernel
theorem t45_11 : g_at 45 11 = some (.istore_n 1, 0, 0, 0) := by decide +kernel
theorem t45_12 : g_at 45 12 = some (.iload_n 1, 0, 0, 0) := by decide +kernel
theorem t45_13 : g_at 45 13 = some (.ifCond .ge (14), 27, 0, 0) := by decide +kernel
theorem t45_16 : g_at 45 16 = some (.bipush (-10), 0, 0, (-10)) := by decide +kernel
theorem t45_18 : g_at 45 18 = some (.aload_n 0, 0, 0, 0) := by decide +kernel
theorem t45_19 : g_at 45 19 = some (.getfield 12, 3, 0, 0) := by decide +kernel
theorem t45_22 : g_at 45 22 = some (.getfield 66, 2, 3, 0) := by decide +kernel
theorem t45_25 : g_at 45 25 = some (.isub, 0, 0, 0) := by decide +kernel
theorem t45_26 : g_at 45 26 = some (.ireturn, 0, 0, 0) := by decide +kernel
theorem t45_27 : g_at 45 27 = some (.aload_n 0, 0, 0, 0) := by decide +kernel
theorem t45_28 : g_at 45 28 = some (.getfield 30, 3, 3, 0) := by decide +kernel
theorem t45_31 : g_at 45 31 = some (.aload_n 0, 0, 0, 0) := by decide +kernel
theorem t45_32 : g_at 45 32 = some (.getfield 19, 3, 1, 0) := by decide +kernel
theorem t45_35 : g_at 45 35 = some (.invokevirtual 69, 43, 1, 0) := by decide +kernel
theorem t45_38 : g_at 45 38 = some (.aload_n 0, 0, 0, 0) := by decide +kernel
theorem t45_39 : g_at 45 39 = some (.getfield 30, 3, 3, 0) := by decide +kernel
theorem t45_42 : g_at 45 42 = some (.aload_n 0, 0, 0, 0) := by decide +kernel
theorem t45_43 : g_at 45 43 = some (.getfield 30, 3, 3, 0) := by decide +kernel
theorem t45_46 : g_at 45 46 = some (.getfield 73, 1, 4, 0) := by decide +kernel
theorem t45_49 : g_at 45 49 = some (.invokevirtual 76, 44, 1, 0) := by decide +kernel
theorem t45_52 : g_at 45 52 = some (.ifCond .ne (14), 66, 0, 0) := by decide +kernel
theorem t45_55 : g_at 45 55 = some (.bipush (-10), 0, 0, (-10)) := by decide +kernel
theorem t45_57 : g_at 45 57 = some (.aload_n 0, 0, 0, 0) := by decide +kernel
theorem t45_58 : g_at 45 58 = some (.getfield 12, 3, 0, 0) := by decide +kernel
theorem t45_61 : g_at 45 61 = some (.getfield 55, 2, 1, 0) := by decide +kernel
theorem t45_64 : g_at 45 64 = some (.isub, 0, 0, 0) := by decide +kernel
theorem t45_65 : g_at 45 65 = some (.ireturn, 0, 0, 0) := by decide +kernel
theorem t45_66 : g_at 45 66 = some (.aload_n 0, 0, 0, 0) := by decide +kernel
theorem t45_67 : g_at 45 67 = some (.getfield 26, 3, 2, 0) := by decide +kernel
theorem t45_70 : g_at 45 70 = some (.astore_n 2, 0, 0, 0) := by decide +kernel
theorem t45_71 : g_at 45 71 = some (.aload_n 0, 0, 0, 0) := by decide +kernel
theorem t45_72 : g_at 45 72 = some (.aload_n 0, 0, 0, 0) := by decide +kernel
theorem t45_73 : g_at 45 73 = some (.getfield 30, 3, 3, 0) := by decide +kernel
theorem t45_76 : g_at 45 76 = some (.putfield 26, 3, 2, 0) := by decide +kernel
theorem t45_79 : g_at 45 79 = some (.aload_n 0, 0, 0, 0) := by decide +kernel
theorem t45_80 : g_at 45 80 = some (.aload_n 2, 0, 0, 0) := by decide +kernel
theorem t45_81 : g_at 45 81 = some (.putfield 30, 3, 3, 0) := by decide +kernel
theorem t45_84 : g_at 45 84 = some (.aload_n 0, 0, 0, 0) := by decide +kernel
theorem t45_85 : g_at 45 85 = some (.getfield 12, 3, 0, 0) := by decide +kernel
theorem t45_88 : g_at 45 88 = some (.iconst 0, 0, 0, 0) := by decide +kernel
theorem t45_89 : g_at 45 89 = some (.putfield 55, 2, 1, 0) := by decide +kernel
theorem t45_92 : g_at 45 92 = some (.aload_n 0, 0, 0, 0) := by decide +kernel
theorem t45_93 : g_at 45 93 = some (.invokevirtual 52, 4, 0, 0) := by decide +kernel
theorem t45_96 : g_at 45 96 = some (.iload_n 1, 0, 0, 0) := by decide +kernel
theorem t45_97 : g_at 45 97 = some (.ireturn, 0, 0, 0) := by decide +kernel
theorem t46_0 : g_at 46 0 = some (.iload_n 1, 0, 0, 0) := by decide +kernel
theorem t46_1 : g_at 46 1 = some (.aload_n 0, 0, 0, 0) := by decide +kernel
theorem t46_2 : g_at 46 2 = some (.getfield 70, 4, 2, 0) := by decide +kernel
theorem t46_5 : g_at 46 5 = some (.if_icmp .ge (12), 17, 0, 0) := by decide +kernel
theorem t46_8 : g_at 46 8 = some (.aload_n 0, 0, 0, 0) := by decide +kernel
theorem t46_9 : g_at 46 9 = some (.getfield 7, 4, 1, 0) := by decide +kernel
theorem t46_12 : g_at 46 12 = some (.iload_n 1, 0, 0, 0) := by decide +kernel
theorem t46_13 : g_at 46 13 = some (.iaload, 0, 0, 0) := by decide +kernel
theorem t46_14 : g_at 46 14 = some (.goto (4), 18, 0, 0) := by decide +kernel
theorem t46_17 : g_at 46 17 = some (.iconst (-1), 0, 0, (-1)) := by decide +kernel
theorem t46_18 : g_at 46 18 = some (.ireturn, 0, 0, 0) := by decide +kernel
theorem t47_0 : g_at 47 0 = some (.aload_n 0, 0, 0, 0) := by decide +kernel
theorem t47_1 : g_at 47 1 = some (.aload_n 0, 0, 0, 0) := by decide +kernel
theorem t47_2 : g_at 47 2 = some (.getfield 73, 4, 3, 0) := by decide +kernel
theorem t47_5 : g_at 47 5 = some (.invokevirtual 76, 46, 1, 0) := by decide +kernel
theorem t47_8 : g_at 47 8 = some (.bipush (32), 0, 0, 32) := by decide +kernel
theorem t47_10 : g_at 47 10 = some (.if_icmp .ne (16), 26, 0, 0) := by decide +kernel
theorem t47_13 : g_at 47 13 = some (.aload_n 0, 0, 0, 0) := by decide +kernel
theorem t47_14 : g_at 47 14 = some (.dup, 0, 0, 0) := by decide +kernel
theorem t47_15 : g_at 47 15 = some (.getfield 73, 4, 3, 0) := by decide +kernel
theorem t47_18 : g_at 47 18 = some (.iconst 1, 0, 0, 1) := by decide +kernel
theorem t47_19 : g_at 47 19 = some (.iadd, 0, 0, 0) := by decide +kernel
theorem t47_20 : g_at 47 20 = some (.putfield 73, 4, 3, 0) := by decide +kernel
theorem t47_23 : g_at 47 23 = some (.goto (-23), 0, 0, 0) := by decide +kernel
theorem t47_26 : g_at 47 26 = some (.aload_n 0, 0, 0, 0) := by decide +kernel
theorem t47_27 : g_at 47 27 = some (.aload_n 0, 0, 0, 0) := by decide +kernel
theorem t47_28 : g_at 47 28 = some (.getfield 73, 4, 3, 0) := by decide +kernel
theorem t47_31 : g_at 47 31 = some (.putfield 80, 4, 5, 0) := by decide +kernel
theorem t47_34 : g_at 47 34 = some (.aload_n 0, 0, 0, 0) := by decide +kernel
theorem t47_35 : g_at 47 35 = some (.aload_n 0, 0, 0, 0) := by decide +kernel
theorem t47_36 : g_at 47 36 = some (.getfield 73, 4, 3, 0) := by decide +kernel
theorem t47_39 : g_at 47 39 = some (.invokevirtual 76, 46, 1, 0) := by decide +kernel
theorem t47_42 : g_at 47 42 = some (.istore_n 1, 0, 0, 0) := by decide +kernel
theorem t47_43 : g_at 47 43 = some (.iload_n 1, 0, 0, 0) := by decide +kernel
theorem t47_44 : g_at 47 44 = some (.ifCond .ge (11), 55, 0, 0) := by decide +kernel
theorem t47_47 : g_at 47 47 = some (.aload_n 0, 0, 0, 0) := by decide +kernel
theorem t47_48 : g_at 47 48 = some (.iconst 0, 0, 0, 0) := by decide +kernel
theorem t47_49 : g_at 47 49 = some (.putfield 83, 4, 4, 0) := by decide +kernel
theorem t47_52 : g_at 47 52 = some (.goto (174), 226, 0, 0) := by decide +kernel
theorem t47_55 : g_at 47 55 = some (.iload_n 1, 0, 0, 0) := by decide +kernel
theorem t47_56 : g_at 47 56 = some (.bipush (48), 0, 0, 48) := by decide +kernel
theorem t47_58 : g_at 47 58 = some (.bipush (57), 0, 0, 57) := by decide +kernel
theorem t47_60 : g_at 47 60 = some (.invokestatic 66, 10, 3, 0) := by decide +kernel
theorem t47_63 : g_at 47 63 = some (.ifCond .eq (118), 181, 0, 0) := by decide +kernel
theorem t47_66 : g_at 47 66 = some (.aload_n 0, 0, 0, 0) := by decide +kernel
theorem t47_67 : g_at 47 67 = some (.iconst 0, 0, 0, 0) := by decide +kernel
theorem t47_68 : g_at 47 68 = some (.putfield 86, 4, 6, 0) := by decide +kernel
theorem t47_71 : g_at 47 71 = some (.aload_n 0, 0, 0, 0) := by decide +kernel
theorem t47_72 : g_at 47 72 = some (.aload_n 0, 0, 0, 0) := by decide +kernel
theorem t47_73 : g_at 47 73 = some (.getfield 73, 4, 3, 0) := by decide +kernel
theorem t47_76 : g_at 47 76 = some (.invokevirtual 76, 46, 1, 0) := by decide +kernel
theorem t47_79 : g_at 47 79 = some (.bipush (48), 0, 0, 48) := by decide +kernel
theorem t47_81 : g_at 47 81 = some (.bipush (57), 0, 0, 57) := by decide +kernel
theorem t47_83 : g_at 47 83 = some (.invokestatic 66, 10, 3, 0) := by decide +kernel
theorem t47_86 : g_at 47 86 = some (.ifCond .eq (55), 141, 0, 0) := by decide +kernel
theorem t47_89 : g_at 47 89 = some (.aload_n 0, 0, 0, 0) := by decide +kernel
theorem t47_90 : g_at 47 90 = some (.aload_n 0, 0, 0, 0) := by decide +kernel
theorem t47_91 : g_at 47 91 = some (.getfield 86, 4, 6, 0) := by decide +kernel
theorem t47_94 : g_at 47 94 = some (.bipush (99), 0, 0, 99) := by decide +kernel
theorem t47_96 : g_at 47 96 = some (.if_icmp .le (10), 106, 0, 0) := by decide +kernel
theorem t47_99 : g_at 47 99 = some (.aload_n 0, 0, 0, 0) := by decide +kernel
theorem t47_100 : g_at 47 100 = some (.getfield 86, 4, 6, 0) := by decide +kernel
theorem t47_103 : g_at 47 103 = some (.goto (22), 125, 0, 0) := by decide +kernel
theorem t47_106 : g_at 47 106 = some (.bipush (10), 0, 0, 10) := by decide +kernel
theorem t47_108 : g_at 47 108 = some (.aload_n 0, 0, 0, 0) := by decide +kernel
theorem t47_109 : g_at 47 109 = some (.getfield 86, 4, 6, 0) := by decide +kernel
theorem t47_112 : g_at 47 112 = some (.imul, 0, 0, 0) := by decide +kernel
theorem t47_113 : g_at 47 113 = some (.aload_n 0, 0, 0, 0) := by decide +kernel
theorem t47_114 : g_at 47 114 = some (.aload_n 0, 0, 0, 0) := by decide +kernel
theorem t47_115 : g_at 47 115 = some (.getfield 73, 4, 3, 0) := by decide +kernel
theorem t47_118 : g_at 47 118 = some (.invokevirtual 76, 46, 1, 0) := by decide +kernel
theorem t47_121 : g_at 47 121 = some (.iadd, 0, 0, 0) := by decide +kernel
theorem t47_122 : g_at 47 122 = some (.bipush (48), 0, 0, 48) := by decide +kernel
theorem t47_124 : g_at 47 124 = some (.isub, 0, 0, 0) := by decide +kernel
theorem t47_125 : g_at 47 125 = some (.putfield 86, 4, 6, 0) := by decide +kernel
theorem t47_128 : g_at 47 128 = some (.aload_n 0, 0, 0, 0) := by decide +kernel
theorem t47_129 : g_at 47 129 = some (.dup, 0, 0, 0) := by decide +kernel
theorem t47_130 : g_at 47 130 = some (.getfield 73, 4, 3, 0) := by decide +kernel
theorem t47_133 : g_at 47 133 = some (.iconst 1, 0, 0, 1) := by decide +kernel
theorem t47_134 : g_at 47 134 = some (.iadd, 0, 0, 0) := by decide +kernel
theorem t47_135 : g_at 47 135 = some (.putfield 73, 4, 3, 0) := by decide +kernel
theorem t47_138 : g_at 47 138 = some (.goto (-67), 71, 0, 0) := by decide +kernel
theorem t47_141 : g_at 47 141 = some (.aload_n 0, 0, 0, 0) := by decide +kernel
theorem t47_142 : g_at 47 142 = some (.aload_n 0, 0, 0, 0) := by decide +kernel
theorem t47_143 : g_at 47 143 = some (.getfield 86, 4, 6, 0) := by decide +kernel
theorem t47_146 : g_at 47 146 = some (.bipush (99), 0, 0, 99) := by decide +kernel
theorem t47_148 : g_at 47 148 = some (.if_icmp .gt (22), 170, 0, 0) := by decide +kernel
theorem t47_151 : g_at 47 151 = some (.iload_n 1, 0, 0, 0) := by decide +kernel
theorem t47_152 : g_at 47 152 = some (.bipush (48), 0, 0, 48) := by decide +kernel
theorem t47_154 : g_at 47 154 = some (.if_icmp .ne (20), 174, 0, 0) := by decide +kernel
theorem t47_157 : g_at 47 157 = some (.aload_n 0, 0, 0, 0) := by decide +kernel
theorem t47_158 : g_at 47 158 = some (.getfield 73, 4, 3, 0) := by decide +kernel
theorem t47_161 : g_at 47 161 = some (.aload_n 0, 0, 0, 0) := by decide +kernel
theorem t47_162 : g_at 47 162 = some (.getfield 80, 4, 5, 0) := by decide +kernel
theorem t47_165 : g_at 47 165 = some (.isub, 0, 0, 0) := by decide +kernel
theorem t47_166 : g_at 47 166 = some (.iconst 1, 0, 0, 1) := by decide +kernel
theorem t47_167 : g_at 47 167 = some (.if_icmp .le (7), 174, 0, 0) := by decide +kernel
theorem t47_170 : g_at 47 170 = some (.iconst 4, 0, 0, 4) := by decide +kernel
theorem t47_171 : g_at 47 171 = some (.goto (4), 175, 0, 0) := by decide +kernel
theorem t47_174 : g_at 47 174 = some (.iconst 2, 0, 0, 2) := by decide +kernel
theorem t47_175 : g_at 47 175 = some (.putfield 83, 4, 4, 0) := by decide +kernel
theorem t47_178 : g_at 47 178 = some (.goto (48), 226, 0, 0) := by decide +kernel
theorem t47_181 : g_at 47 181 = some (.aload_n 0, 0, 0, 0) := by decide +kernel
theorem t47_182 : g_at 47 182 = some (.dup, 0, 0, 0) := by decide +kernel
theorem t47_183 : g_at 47 183 = some (.getfield 73, 4, 3, 0) := by decide +kernel
theorem t47_186 : g_at 47 186 = some (.iconst 1, 0, 0, 1) := by decide +kernel
theorem t47_187 : g_at 47 187 = some (.iadd, 0, 0, 0) := by decide +kernel
theorem t47_188 : g_at 47 188 = some (.putfield 73, 4, 3, 0) := by decide +kernel
theorem t47_191 : g_at 47 191 = some (.aload_n 0, 0, 0, 0) := by decide +kernel
theorem t47_192 : g_at 47 192 = some (.iload_n 1, 0, 0, 0) := by decide +kernel
theorem t47_193 : g_at 47 193 = some (.putfield 86, 4, 6, 0) := by decide +kernel
theorem t47_196 : g_at 47 196 = some (.aload_n 0, 0, 0, 0) := by decide +kernel
theorem t47_197 : g_at 47 197 = some (.iload_n 1, 0, 0, 0) := by decide +kernel
theorem t47_198 : g_at 47 198 = some (.bipush (59), 0, 0, 59) := by decide +kernel
theorem t47_200 : g_at 47 200 = some (.if_icmp .ne (7), 207, 0, 0) := by decide +kernel
theorem t47_203 : g_at 47 203 = some (.iconst 3, 0, 0, 3) := by decide +kernel
theorem t47_204 : g_at 47 204 = some (.goto (19), 223, 0, 0) := by decide +kernel
theorem t47_207 : g_at 47 207 = some (.iload_n 1, 0, 0, 0) := by decide +kernel
theorem t47_208 : g_at 47 208 = some (.bipush (97), 0, 0, 97) := by decide +kernel
theorem t47_210 : g_at 47 210 = some (.bipush (122), 0, 0, 122) := by decide +kernel
theorem t47_212 : g_at 47 212 = some (.invokestatic 66, 10, 3, 0) := by decide +kernel
theorem t47_215 : g_at 47 215 = some (.ifCond .eq (7), 222, 0, 0) := by decide +kernel
theorem t47_218 : g_at 47 218 = some (.iconst 1, 0, 0, 1) := by decide +kernel
theorem t47_219 : g_at 47 219 = some (.goto (4), 223, 0, 0) := by decide +kernel
theorem t47_222 : g_at 47 222 = some (.iconst 4, 0, 0, 4) := by decide +kernel
theorem t47_223 : g_at 47 223 = some (.putfield 83, 4, 4, 0) := by decide +kernel
theorem t47_226 : g_at 47 226 = some (.return_, 0, 0, 0) := by decide +kernel
theorem t48_0 : g_at 48 0 = some (.aload_n 0, 0, 0, 0) := by decide +kernel
theorem t48_1 : g_at 48 1 = some (.getfield 89, 4, 7, 0) := by decide +kernel
theorem t48_4 : g_at 48 4 = some (.ifCond .ge (7), 11, 0, 0) := by decide +kernel
theorem t48_7 : g_at 48 7 = some (.iconst 1, 0, 0, 1) := by decide +kernel
theorem t48_8 : g_at 48 8 = some (.goto (4), 12, 0, 0) := by decide +kernel
theorem t48_11 : g_at 48 11 = some (.iconst 0, 0, 0, 0) := by decide +kernel
theorem t48_12 : g_at 48 12 = some (.ireturn, 0, 0, 0) := by decide +kernel
theorem t49_0 : g_at 49 0 = some (.aload_n 0, 0, 0, 0) := by decide +kernel
theorem t49_1 : g_at 49 1 = some (.getfield 86, 4, 6, 0) := by decide +kernel
theorem t49_4 : g_at 49 4 = some (.bipush (98), 0, 0, 98) := by decide +kernel
theorem t49_6 : g_at 49 6 = some (.if_icmp .eq (21), 27, 0, 0) := by decide +kernel
theorem t49_9 : g_at 49 9 = some (.aload_n 0, 0, 0, 0) := by decide +kernel
theorem t49_10 : g_at 49 10 = some (.getfield 86, 4, 6, 0) := by decide +kernel
theorem t49_13 : g_at 49 13 = some (.bipush (105), 0, 0, 105) := by decide +kernel
theorem t49_15 : g_at 49 15 = some (.if_icmp .eq (12), 27, 0, 0) := by decide +kernel
theorem t49_18 : g_at 49 18 = some (.aload_n 0, 0, 0, 0) := by decide +kernel
theorem t49_19 : g_at 49 19 = some (.getfield 86, 4, 6, 0) := by decide +kernel
theorem t49_22 : g_at 49 22 = some (.bipush (101), 0, 0, 101) := by decide +kernel
theorem t49_24 : g_at 49 24 = some (.if_icmp .ne (7), 31, 0, 0) := by decide +kernel
theorem t49_27 : g_at 49 27 = some (.iconst 1, 0, 0, 1) := by decide +kernel
theorem t49_28 : g_at 49 28 = some (.goto (4), 32, 0, 0) := by decide +kernel
theorem t49_31 : g_at 49 31 = some (.iconst 0, 0, 0, 0) := by decide +kernel
theorem t49_32 : g_at 49 32 = some (.istore_n 2, 0, 0, 0) := by decide +kernel
theorem t49_33 : g_at 49 33 = some (.iload_n 2, 0, 0, 0) := by decide +kernel
theorem t49_34 : g_at 49 34 = some (.ifCond .eq (22), 56, 0, 0) := by decide +kernel
theorem t49_37 : g_at 49 37 = some (.aload_n 0, 0, 0, 0) := by decide +kernel
theorem t49_38 : g_at 49 38 = some (.getfield 16, 4, 9, 0) := by decide +kernel
theorem t49_41 : g_at 49 41 = some (.iconst 3, 0, 0, 3) := by decide +kernel
theorem t49_42 : g_at 49 42 = some (.iaload, 0, 0, 0) := by decide +kernel
theorem t49_43 : g_at 49 43 = some (.bipush (8), 0, 0, 8) := by decide +kernel
theorem t49_45 : g_at 49 45 = some (.if_icmp .ge (7), 52, 0, 0) := by decide +kernel
theorem t49_48 : g_at 49 48 = some (.iconst 1, 0, 0, 1) := by decide +kernel
theorem t49_49 : g_at 49 49 = some (.goto (69), 118, 0, 0) := by decide +kernel
theorem t49_52 : g_at 49 52 = some (.iconst 0, 0, 0, 0) := by decide +kernel
theorem t49_53 : g_at 49 53 = some (.goto (65), 118, 0, 0) := by decide +kernel
theorem t49_56 : g_at 49 56 = some (.aload_n 0, 0, 0, 0) := by decide +kernel
theorem t49_57 : g_at 49 57 = some (.getfield 86, 4, 6, 0) := by decide +kernel
theorem t49_60 : g_at 49 60 = some (.bipush (110), 0, 0, 110) := by decide +kernel
theorem t49_62 : g_at 49 62 = some (.if_icmp .ne (15), 77, 0, 0) := by decide +kernel
theorem t49_65 : g_at 49 65 = some (.iload_n 1, 0, 0, 0) := by decide +kernel
theorem t49_66 : g_at 49 66 = some (.ifCond .ne (7), 73, 0, 0) := by decide +kernel
theorem t49_69 : g_at 49 69 = some (.iconst 1, 0, 0, 1) := by decide +kernel
theorem t49_70 : g_at 49 70 = some (.goto (48), 118, 0, 0) := by decide +kernel
theorem t49_73 : g_at 49 73 = some (.iconst 0, 0, 0, 0) := by decide +kernel
theorem t49_74 : g_at 49 74 = some (.goto (44), 118, 0, 0) := by decide +kernel
theorem t49_77 : g_at 49 77 = some (.aload_n 0, 0, 0, 0) := by decide +kernel
theorem t49_78 : g_at 49 78 = some (.getfield 86, 4, 6, 0) := by decide +kernel
theorem t49_81 : g_at 49 81 = some (.bipush (115), 0, 0, 115) := by decide +kernel
theorem t49_83 : g_at 49 83 = some (.if_icmp .eq (30), 113, 0, 0) := by decide +kernel
theorem t49_86 : g_at 49 86 = some (.aload_n 0, 0, 0, 0) := by decide +kernel
theorem t49_87 : g_at 49 87 = some (.getfield 86, 4, 6, 0) := by decide +kernel
theorem t49_90 : g_at 49 90 = some (.bipush (100), 0, 0, 100) := by decide +kernel
theorem t49_92 : g_at 49 92 = some (.if_icmp .eq (21), 113, 0, 0) := by decide +kernel
theorem t49_95 : g_at 49 95 = some (.aload_n 0, 0, 0, 0) := by decide +kernel
theorem t49_96 : g_at 49 96 = some (.getfield 86, 4, 6, 0) := by decide +kernel
theorem t49_99 : g_at 49 99 = some (.bipush (99), 0, 0, 99) := by decide +kernel
theorem t49_101 : g_at 49 101 = some (.if_icmp .eq (12), 113, 0, 0) := by decide +kernel
theorem t49_104 : g_at 49 104 = some (.aload_n 0, 0, 0, 0) := by decide +kernel
theorem t49_105 : g_at 49 105 = some (.getfield 86, 4, 6, 0) := by decide +kernel
theorem t49_108 : g_at 49 108 = some (.bipush (107), 0, 0, 107) := by decide +kernel
theorem t49_110 : g_at 49 110 = some (.if_icmp .ne (7), 117, 0, 0) := by decide +kernel
theorem t49_113 : g_at 49 113 = some (.iconst 1, 0, 0, 1) := by decide +kernel
theorem t49_114 : g_at 49 114 = some (.goto (4), 118, 0, 0) := by decide +kernel
theorem t49_117 : g_at 49 117 = some (.iconst 0, 0, 0, 0) := by decide +kernel
theorem t49_118 : g_at 49 118 = some (.ireturn, 0, 0, 0) := by decide +kernel
theorem t50_0 : g_at 50 0 = some (.aload_n 0, 0, 0, 0) := by decide +kernel
theorem t50_1 : g_at 50 1 = some (.invokevirtual 92, 48, 0, 0) := by decide +kernel
theorem t50_4 : g_at 50 4 = some (.ifCond .ne (5), 9, 0, 0) := by decide +kernel
theorem t50_7 : g_at 50 7 = some (.iconst 0, 0, 0, 0) := by decide +kernel
theorem t50_8 : g_at 50 8 = some (.ireturn, 0, 0, 0) := by decide +kernel
theorem t50_9 : g_at 50 9 = some (.iload_n 1, 0, 0, 0) := by decide +kernel
theorem t50_10 : g_at 50 10 = some (.ifCond .ne (13), 23, 0, 0) := by decide +kernel
theorem t50_13 : g_at 50 13 = some (.aload_n 0, 0, 0, 0) := by decide +kernel
theorem t50_14 : g_at 50 14 = some (.aload_n 0, 0, 0, 0) := by decide +kernel
theorem t50_15 : g_at 50 15 = some (.getfield 80, 4, 5, 0) := by decide +kernel
theorem t50_18 : g_at 50 18 = some (.putfield 89, 4, 7, 0) := by decide +kernel
theorem t50_21 : g_at 50 21 = some (.iconst 0, 0, 0, 0) := by decide +kernel
theorem t50_22 : g_at 50 22 = some (.ireturn, 0, 0, 0) := by decide +kernel
theorem t50_23 : g_at 50 23 = some (.aload_n 0, 0, 0, 0) := by decide +kernel
theorem t50_24 : g_at 50 24 = some (.getfield 86, 4, 6, 0) := by decide +kernel
theorem t50_27 : g_at 50 27 = some (.istore_n 2, 0, 0, 0) := by decide +kernel
theorem t50_28 : g_at 50 28 = some (.aload_n 0, 0, 0, 0) := by decide +kernel
theorem t50_29 : g_at 50 29 = some (.invokevirtual 96, 47, 0, 0) := by decide +kernel
theorem t50_32 : g_at 50 32 = some (.iload_n 2, 0, 0, 0) := by decide +kernel
theorem t50_33 : g_at 50 33 = some (.ireturn, 0, 0, 0) := by decide +kernel
theorem t51_0 : g_at 51 0 = some (.aload_n 0, 0, 0, 0) := by decide +kernel
theorem t51_1 : g_at 51 1 = some (.getfield 83, 4, 4, 0) := by decide +kernel
theorem t51_4 : g_at 51 4 = some (.iconst 2, 0, 0, 2) := by decide +kernel
theorem t51_5 : g_at 51 5 = some (.if_icmp .ne (19), 24, 0, 0) := by decide +kernel
theorem t51_8 : g_at 51 8 = some (.aload_n 0, 0, 0, 0) := by decide +kernel
theorem t51_9 : g_at 51 9 = some (.getfield 86, 4, 6, 0) := by decide +kernel
theorem t51_12 : g_at 51 12 = some (.iload_n 1, 0, 0, 0) := by decide +kernel
theorem t51_13 : g_at 51 13 = some (.iload_n 2, 0, 0, 0) := by decide +kernel
theorem t51_14 : g_at 51 14 = some (.invokestatic 66, 10, 3, 0) := by decide +kernel
theorem t51_17 : g_at 51 17 = some (.ifCond .eq (7), 24, 0, 0) := by decide +kernel
theorem t51_20 : g_at 51 20 = some (.iconst 1, 0, 0, 1) := by decide +kernel
theorem t51_21 : g_at 51 21 = some (.goto (4), 25, 0, 0) := by decide +kernel
theorem t51_24 : g_at 51 24 = some (.iconst 0, 0, 0, 0) := by decide +kernel
theorem t51_25 : g_at 51 25 = some (.ireturn, 0, 0, 0) := by decide +kernel
theorem t52_0 : g_at 52 0 = some (.bipush (-9), 0, 0, (-9)) := by decide +kernel
theorem t52_2 : g_at 52 2 = some (.istore_n 2, 0, 0, 0) := by decide +kernel
theorem t52_3 : g_at 52 3 = some (.iconst 0, 0, 0, 0) := by decide +kernel
theorem t52_4 : g_at 52 4 = some (.istore_n 3, 0, 0, 0) := by decide +kernel
theorem t52_5 : g_at 52 5 = some (.iload_n 3, 0, 0, 0) := by decide +kernel
theorem t52_6 : g_at 52 6 = some (.aload_n 0, 0, 0, 0) := by decide +kernel
theorem t52_7 : g_at 52 7 = some (.iconst 3, 0, 0, 3) := by decide +kernel
theorem t52_8 : g_at 52 8 = some (.iaload, 0, 0, 0) := by decide +kernel
theorem t52_9 : g_at 52 9 = some (.if_icmp .ge (25), 34, 0, 0) := by decide +kernel
theorem t52_12 : g_at 52 12 = some (.aload_n 0, 0, 0, 0) := by decide +kernel
theorem t52_13 : g_at 52 13 = some (.bipush (12), 0, 0, 12) := by decide +kernel
theorem t52_15 : g_at 52 15 = some (.iload_n 3, 0, 0, 0) := by decide +kernel
theorem t52_16 : g_at 52 16 = some (.iadd, 0, 0, 0) := by decide +kernel
theorem t52_17 : g_at 52 17 = some (.iaload, 0, 0, 0) := by decide +kernel
theorem t52_18 : g_at 52 18 = some (.iload_n 1, 0, 0, 0) := by decide +kernel
theorem t52_19 : g_at 52 19 = some (.if_icmp .ne (7), 26, 0, 0) := by decide +kernel
theorem t52_22 : g_at 52 22 = some (.iload_n 3, 0, 0, 0) := by decide +kernel
theorem t52_23 : g_at 52 23 = some (.goto (4), 27, 0, 0) := by decide +kernel
theorem t52_26 : g_at 52 26 = some (.iload_n 2, 0, 0, 0) := by decide +kernel
theorem t52_27 : g_at 52 27 = some (.istore_n 2, 0, 0, 0) := by decide +kernel
theorem t52_28 : g_at 52 28 = some (.iinc 3 (1), 0, 0, 1) := by decide +kernel
theorem t52_31 : g_at 52 31 = some (.goto (-26), 5, 0, 0) := by decide +kernel
theorem t52_34 : g_at 52 34 = some (.iload_n 2, 0, 0, 0) := by decide +kernel
theorem t52_35 : g_at 52 35 = some (.ireturn, 0, 0, 0) := by decide +kernel
theorem t53_0 : g_at 53 0 = some (.iload_n 0, 0, 0, 0) := by decide +kernel
theorem t53_1 : g_at 53 1 = some (.iload_n 1, 0, 0, 0) := by decide +kernel
theorem t53_2 : g_at 53 2 = some (.ishr, 0, 0, 0) := by decide +kernel
theorem t53_3 : g_at 53 3 = some (.iconst 1, 0, 0, 1) := by decide +kernel
theorem t53_4 : g_at 53 4 = some (.iand, 0, 0, 0) := by decide +kernel
theorem t53_5 : g_at 53 5 = some (.iconst 1, 0, 0, 1) := by decide +kernel
theorem t53_6 : g_at 53 6 = some (.if_icmp .ne (7), 13, 0, 0) := by decide +kernel
theorem t53_9 : g_at 53 9 = some (.iconst 1, 0, 0, 1) := by decide +kernel
theorem t53_10 : g_at 53 10 = some (.goto (4), 14, 0, 0) := by decide +kernel
theorem t53_13 : g_at 53 13 = some (.iconst 0, 0, 0, 0) := by decide +kernel
theorem t53_14 : g_at 53 14 = some (.ireturn, 0, 0, 0) := by decide +kernel
theorem t54_0 : g_at 54 0 = some (.iload_n 2, 0, 0, 0) := by decide +kernel
theorem t54_1 : g_at 54 1 = some (.ifCond .eq (30), 31, 0, 0) := by decide +kernel
theorem t54_4 : g_at 54 4 = some (.aload_n 0, 0, 0, 0) := by decide +kernel
theorem t54_5 : g_at 54 5 = some (.getfield 83, 4, 4, 0) := by decide +kernel
theorem t54_8 : g_at 54 8 = some (.iconst 1, 0, 0, 1) := by decide +kernel
theorem t54_9 : g_at 54 9 = some (.if_icmp .ne (17), 26, 0, 0) := by decide +kernel
theorem t54_12 : g_at 54 12 = some (.aload_n 0, 0, 0, 0) := by decide +kernel
theorem t54_13 : g_at 54 13 = some (.getfield 16, 4, 9, 0) := by decide +kernel
theorem t54_16 : g_at 54 16 = some (.aload_n 0, 0, 0, 0) := by decide +kernel
theorem t54_17 : g_at 54 17 = some (.getfield 86, 4, 6, 0) := by decide +kernel
theorem t54_20 : g_at 54 20 = some (.invokestatic 99, 52, 2, 0) := by decide +kernel
theorem t54_23 : g_at 54 23 = some (.goto (33), 56, 0, 0) := by decide +kernel
theorem t54_26 : g_at 54 26 = some (.bipush (-9), 0, 0, (-9)) := by decide +kernel
theorem t54_28 : g_at 54 28 = some (.goto (28), 56, 0, 0) := by decide +kernel
theorem t54_31 : g_at 54 31 = some (.aload_n 0, 0, 0, 0) := by decide +kernel
theorem t54_32 : g_at 54 32 = some (.iconst 0, 0, 0, 0) := by decide +kernel
theorem t54_33 : g_at 54 33 = some (.aload_n 0, 0, 0, 0) := by decide +kernel
theorem t54_34 : g_at 54 34 = some (.getfield 16, 4, 9, 0) := by decide +kernel
theorem t54_37 : g_at 54 37 = some (.iconst 0, 0, 0, 0) := by decide +kernel
theorem t54_38 : g_at 54 38 = some (.iaload, 0, 0, 0) := by decide +kernel
theorem t54_39 : g_at 54 39 = some (.iconst 1, 0, 0, 1) := by decide +kernel
theorem t54_40 : g_at 54 40 = some (.isub, 0, 0, 0) := by decide +kernel
theorem t54_41 : g_at 54 41 = some (.invokevirtual 107, 51, 2, 0) := by decide +kernel
theorem t54_44 : g_at 54 44 = some (.ifCond .eq (10), 54, 0, 0) := by decide +kernel
theorem t54_47 : g_at 54 47 = some (.aload_n 0, 0, 0, 0) := by decide +kernel
theorem t54_48 : g_at 54 48 = some (.getfield 86, 4, 6, 0) := by decide +kernel
theorem t54_51 : g_at 54 51 = some (.goto (5), 56, 0, 0) := by decide +kernel
theorem t54_54 : g_at 54 54 = some (.bipush (-9), 0, 0, (-9)) := by decide +kernel
theorem t54_56 : g_at 54 56 = some (.istore_n 3, 0, 0, 0) := by decide +kernel
theorem t54_57 : g_at 54 57 = some (.iload_n 3, 0, 0, 0) := by decide +kernel
theorem t54_58 : g_at 54 58 = some (.bipush (-9), 0, 0, (-9)) := by decide +kernel
theorem t54_60 : g_at 54 60 = some (.if_icmp .eq (15), 75, 0, 0) := by decide +kernel
theorem t54_63 : g_at 54 63 = some (.iload_n 1, 0, 0, 0) := by decide +kernel
theorem t54_64 : g_at 54 64 = some (.iload_n 3, 0, 0, 0) := by decide +kernel
theorem t54_65 : g_at 54 65 = some (.invokestatic 111, 53, 2, 0) := by decide +kernel
theorem t54_68 : g_at 54 68 = some (.ifCond .ne (7), 75, 0, 0) := by decide +kernel
theorem t54_71 : g_at 54 71 = some (.iconst 1, 0, 0, 1) := by decide +kernel
theorem t54_72 : g_at 54 72 = some (.goto (4), 76, 0, 0) := by decide +kernel
theorem t54_75 : g_at 54 75 = some (.iconst 0, 0, 0, 0) := by decide +kernel
theorem t54_76 : g_at 54 76 = some (.istore 4, 0, 0, 0) := by decide +kernel
theorem t54_78 : g_at 54 78 = some (.aload_n 0, 0, 0, 0) := by decide +kernel
theorem t54_79 : g_at 54 79 = some (.iload 4, 0, 0, 0) := by decide +kernel
theorem t54_81 : g_at 54 81 = some (.invokevirtual 103, 50, 1, 0) := by decide +kernel
theorem t54_84 : g_at 54 84 = some (.pop, 0, 0, 0) := by decide +kernel
theorem t54_85 : g_at 54 85 = some (.iload 4, 0, 0, 0) := by decide +kernel
theorem t54_87 : g_at 54 87 = some (.ifCond .eq (11), 98, 0, 0) := by decide +kernel
theorem t54_90 : g_at 54 90 = some (.iload_n 1, 0, 0, 0) := by decide +kernel
theorem t54_91 : g_at 54 91 = some (.iconst 1, 0, 0, 1) := by decide +kernel
theorem t54_92 : g_at 54 92 = some (.iload_n 3, 0, 0, 0) := by decide +kernel
theorem t54_93 : g_at 54 93 = some (.ishl, 0, 0, 0) := by decide +kernel
theorem t54_94 : g_at 54 94 = some (.ior, 0, 0, 0) := by decide +kernel
theorem t54_95 : g_at 54 95 = some (.goto (4), 99, 0, 0) := by decide +kernel
theorem t54_98 : g_at 54 98 = some (.iload_n 1, 0, 0, 0) := by decide +kernel
theorem t54_99 : g_at 54 99 = some (.ireturn, 0, 0, 0) := by decide +kernel
theorem t55_0 : g_at 55 0 = some (.aload_n 0, 0, 0, 0) := by decide +kernel
theorem t55_1 : g_at 55 1 = some (.getfield 16, 4, 9, 0) := by decide +kernel
theorem t55_4 : g_at 55 4 = some (.iconst 3, 0, 0, 3) := by decide +kernel
theorem t55_5 : g_at 55 5 = some (.iaload, 0, 0, 0) := by decide +kernel
theorem t55_6 : g_at 55 6 = some (.istore_n 2, 0, 0, 0) := by decide +kernel
theorem t55_7 : g_at 55 7 = some (.aload_n 0, 0, 0, 0) := by decide +kernel
theorem t55_8 : g_at 55 8 = some (.getfield 16, 4, 9, 0) := by decide +kernel
theorem t55_11 : g_at 55 11 = some (.iconst 4, 0, 0, 4) := by decide +kernel
theorem t55_12 : g_at 55 12 = some (.iload_n 2, 0, 0, 0) := by decide +kernel
theorem t55_13 : g_at 55 13 = some (.iadd, 0, 0, 0) := by decide +kernel
theorem t55_14 : g_at 55 14 = some (.iload_n 1, 0, 0, 0) := by decide +kernel
theorem t55_15 : g_at 55 15 = some (.bipush (98), 0, 0, 98) := by decide +kernel
theorem t55_17 : g_at 55 17 = some (.if_icmp .ne (7), 24, 0, 0) := by decide +kernel
theorem t55_20 : g_at 55 20 = some (.iconst 0, 0, 0, 0) := by decide +kernel
theorem t55_21 : g_at 55 21 = some (.goto (14), 35, 0, 0) := by decide +kernel
theorem t55_24 : g_at 55 24 = some (.iload_n 1, 0, 0, 0) := by decide +kernel
theorem t55_25 : g_at 55 25 = some (.bipush (105), 0, 0, 105) := by decide +kernel
theorem t55_27 : g_at 55 27 = some (.if_icmp .ne (7), 34, 0, 0) := by decide +kernel
theorem t55_30 : g_at 55 30 = some (.iconst 1, 0, 0, 1) := by decide +kernel
theorem t55_31 : g_at 55 31 = some (.goto (4), 35, 0, 0) := by decide +kernel
theorem t55_34 : g_at 55 34 = some (.iconst 2, 0, 0, 2) := by decide +kernel
theorem t55_35 : g_at 55 35 = some (.iastore, 0, 0, 0) := by decide +kernel
theorem t55_36 : g_at 55 36 = some (.aload_n 0, 0, 0, 0) := by decide +kernel
theorem t55_37 : g_at 55 37 = some (.getfield 16, 4, 9, 0) := by decide +kernel
theorem t55_40 : g_at 55 40 = some (.bipush (12), 0, 0, 12) := by decide +kernel
theorem t55_42 : g_at 55 42 = some (.iload_n 2, 0, 0, 0) := by decide +kernel
theorem t55_43 : g_at 55 43 = some (.iadd, 0, 0, 0) := by decide +kernel
theorem t55_44 : g_at 55 44 = some (.aload_n 0, 0, 0, 0) := by decide +kernel
theorem t55_45 : g_at 55 45 = some (.aload_n 0, 0, 0, 0) := by decide +kernel
theorem t55_46 : g_at 55 46 = some (.getfield 83, 4, 4, 0) := by decide +kernel
theorem t55_49 : g_at 55 49 = some (.iconst 1, 0, 0, 1) := by decide +kernel
theorem t55_50 : g_at 55 50 = some (.if_icmp .ne (23), 73, 0, 0) := by decide +kernel
theorem t55_53 : g_at 55 53 = some (.aload_n 0, 0, 0, 0) := by decide +kernel
theorem t55_54 : g_at 55 54 = some (.getfield 16, 4, 9, 0) := by decide +kernel
theorem t55_57 : g_at 55 57 = some (.aload_n 0, 0, 0, 0) := by decide +kernel
theorem t55_58 : g_at 55 58 = some (.getfield 86, 4, 6, 0) := by decide +kernel
theorem t55_61 : g_at 55 61 = some (.invokestatic 99, 52, 2, 0) := by decide +kernel
theorem t55_64 : g_at 55 64 = some (.bipush (-9), 0, 0, (-9)) := by decide +kernel
theorem t55_66 : g_at 55 66 = some (.if_icmp .ne (7), 73, 0, 0) := by decide +kernel
theorem t55_69 : g_at 55 69 = some (.iconst 1, 0, 0, 1) := by decide +kernel
theorem t55_70 : g_at 55 70 = some (.goto (4), 74, 0, 0) := by decide +kernel
theorem t55_73 : g_at 55 73 = some (.iconst 0, 0, 0, 0) := by decide +kernel
theorem t55_74 : g_at 55 74 = some (.invokevirtual 103, 50, 1, 0) := by decide +kernel
theorem t55_77 : g_at 55 77 = some (.iastore, 0, 0, 0) := by decide +kernel
theorem t55_78 : g_at 55 78 = some (.aload_n 0, 0, 0, 0) := by decide +kernel
theorem t55_79 : g_at 55 79 = some (.getfield 16, 4, 9, 0) := by decide +kernel
theorem t55_82 : g_at 55 82 = some (.bipush (20), 0, 0, 20) := by decide +kernel
theorem t55_84 : g_at 55 84 = some (.iload_n 2, 0, 0, 0) := by decide +kernel
theorem t55_85 : g_at 55 85 = some (.iadd, 0, 0, 0) := by decide +kernel
theorem t55_86 : g_at 55 86 = some (.aload_n 0, 0, 0, 0) := by decide +kernel
theorem t55_87 : g_at 55 87 = some (.aload_n 0, 0, 0, 0) := by decide +kernel
theorem t55_88 : g_at 55 88 = some (.iconst 0, 0, 0, 0) := by decide +kernel
theorem t55_89 : g_at 55 89 = some (.aload_n 0, 0, 0, 0) := by decide +kernel
theorem t55_90 : g_at 55 90 = some (.getfield 16, 4, 9, 0) := by decide +kernel
theorem t55_93 : g_at 55 93 = some (.iconst 0, 0, 0, 0) := by decide +kernel
theorem t55_94 : g_at 55 94 = some (.iaload, 0, 0, 0) := by decide +kernel
theorem t55_95 : g_at 55 95 = some (.iconst 1, 0, 0, 1) := by decide +kernel
theorem t55_96 : g_at 55 96 = some (.isub, 0, 0, 0) := by decide +kernel
theorem t55_97 : g_at 55 97 = some (.invokevirtual 107, 51, 2, 0) := by decide +kernel
theorem t55_100 : g_at 55 100 = some (.invokevirtual 103, 50, 1, 0) := by decide +kernel
theorem t55_103 : g_at 55 103 = some (.iastore, 0, 0, 0) := by decide +kernel
theorem t55_104 : g_at 55 104 = some (.aload_n 0, 0, 0, 0) := by decide +kernel
theorem t55_105 : g_at 55 105 = some (.getfield 16, 4, 9, 0) := by decide +kernel
theorem t55_108 : g_at 55 108 = some (.bipush (28), 0, 0, 28) := by decide +kernel
theorem t55_110 : g_at 55 110 = some (.iload_n 2, 0, 0, 0) := by decide +kernel
theorem t55_111 : g_at 55 111 = some (.iadd, 0, 0, 0) := by decide +kernel
theorem t55_112 : g_at 55 112 = some (.iload_n 1, 0, 0, 0) := by decide +kernel
theorem t55_113 : g_at 55 113 = some (.bipush (101), 0, 0, 101) := by decide +kernel
theorem t55_115 : g_at 55 115 = some (.if_icmp .ne (8), 123, 0, 0) := by decide +kernel
theorem t55_118 : g_at 55 118 = some (.bipush (-9), 0, 0, (-9)) := by decide +kernel
theorem t55_120 : g_at 55 120 = some (.goto (44), 164, 0, 0) := by decide +kernel
theorem t55_123 : g_at 55 123 = some (.aload_n 0, 0, 0, 0) := by decide +kernel
theorem t55_124 : g_at 55 124 = some (.aload_n 0, 0, 0, 0) := by decide +kernel
theorem t55_125 : g_at 55 125 = some (.iconst 0, 0, 0, 0) := by decide +kernel
theorem t55_126 : g_at 55 126 = some (.aload_n 0, 0, 0, 0) := by decide +kernel
theorem t55_127 : g_at 55 127 = some (.getfield 16, 4, 9, 0) := by decide +kernel
theorem t55_130 : g_at 55 130 = some (.iconst 0, 0, 0, 0) := by decide +kernel
theorem t55_131 : g_at 55 131 = some (.iaload, 0, 0, 0) := by decide +kernel
theorem t55_132 : g_at 55 132 = some (.iconst 1, 0, 0, 1) := by decide +kernel
theorem t55_133 : g_at 55 133 = some (.isub, 0, 0, 0) := by decide +kernel
theorem t55_134 : g_at 55 134 = some (.invokevirtual 107, 51, 2, 0) := by decide +kernel
theorem t55_137 : g_at 55 137 = some (.ifCond .eq (23), 160, 0, 0) := by decide +kernel
theorem t55_140 : g_at 55 140 = some (.aload_n 0, 0, 0, 0) := by decide +kernel
theorem t55_141 : g_at 55 141 = some (.getfield 86, 4, 6, 0) := by decide +kernel
theorem t55_144 : g_at 55 144 = some (.aload_n 0, 0, 0, 0) := by decide +kernel
theorem t55_145 : g_at 55 145 = some (.getfield 16, 4, 9, 0) := by decide +kernel
theorem t55_148 : g_at 55 148 = some (.bipush (20), 0, 0, 20) := by decide +kernel
theorem t55_150 : g_at 55 150 = some (.iload_n 2, 0, 0, 0) := by decide +kernel
theorem t55_151 : g_at 55 151 = some (.iadd, 0, 0, 0) := by decide +kernel
theorem t55_152 : g_at 55 152 = some (.iaload, 0, 0, 0) := by decide +kernel
theorem t55_153 : g_at 55 153 = some (.if_icmp .eq (7), 160, 0, 0) := by decide +kernel
theorem t55_156 : g_at 55 156 = some (.iconst 1, 0, 0, 1) := by decide +kernel
theorem t55_157 : g_at 55 157 = some (.goto (4), 161, 0, 0) := by decide +kernel
theorem t55_160 : g_at 55 160 = some (.iconst 0, 0, 0, 0) := by decide +kernel
theorem t55_161 : g_at 55 161 = some (.invokevirtual 103, 50, 1, 0) := by decide +kernel
theorem t55_164 : g_at 55 164 = some (.iastore, 0, 0, 0) := by decide +kernel
theorem t55_165 : g_at 55 165 = some (.aload_n 0, 0, 0, 0) := by decide +kernel
theorem t55_166 : g_at 55 166 = some (.getfield 16, 4, 9, 0) := by decide +kernel
theorem t55_169 : g_at 55 169 = some (.iconst 3, 0, 0, 3) := by decide +kernel
theorem t55_170 : g_at 55 170 = some (.dup2, 0, 0, 0) := by decide +kernel
theorem t55_171 : g_at 55 171 = some (.iaload, 0, 0, 0) := by decide +kernel
theorem t55_172 : g_at 55 172 = some (.iconst 1, 0, 0, 1) := by decide +kernel
theorem t55_173 : g_at 55 173 = some (.iadd, 0, 0, 0) := by decide +kernel
theorem t55_174 : g_at 55 174 = some (.iastore, 0, 0, 0) := by decide +kernel
theorem t55_175 : g_at 55 175 = some (.return_, 0, 0, 0) := by decide +kernel
theorem t56_0 : g_at 56 0 = some (.iload_n 1, 0, 0, 0) := by decide +kernel
theorem t56_1 : g_at 56 1 = some (.bipush (110), 0, 0, 110) := by decide +kernel
theorem t56_3 : g_at 56 3 = some (.if_icmp .ne (23), 26, 0, 0) := by decide +kernel
theorem t56_6 : g_at 56 6 = some (.aload_n 0, 0, 0, 0) := by decide +kernel
theorem t56_7 : g_at 56 7 = some (.getfield 16, 4, 9, 0) := by decide +kernel
theorem t56_10 : g_at 56 10 = some (.iconst 0, 0, 0, 0) := by decide +kernel
theorem t56_11 : g_at 56 11 = some (.aload_n 0, 0, 0, 0) := by decide +kernel
theorem t56_12 : g_at 56 12 = some (.aload_n 0, 0, 0, 0) := by decide +kernel
theorem t56_13 : g_at 56 13 = some (.iconst 2, 0, 0, 2) := by decide +kernel
theorem t56_14 : g_at 56 14 = some (.bipush (6), 0, 0, 6) := by decide +kernel
theorem t56_16 : g_at 56 16 = some (.invokevirtual 107, 51, 2, 0) := by decide +kernel
theorem t56_19 : g_at 56 19 = some (.invokevirtual 103, 50, 1, 0) := by decide +kernel
theorem t56_22 : g_at 56 22 = some (.iastore, 0, 0, 0) := by decide +kernel
theorem t56_23 : g_at 56 23 = some (.goto (112), 135, 0, 0) := by decide +kernel
theorem t56_26 : g_at 56 26 = some (.iload_n 1, 0, 0, 0) := by decide +kernel
theorem t56_27 : g_at 56 27 = some (.bipush (115), 0, 0, 115) := by decide +kernel
theorem t56_29 : g_at 56 29 = some (.if_icmp .ne (23), 52, 0, 0) := by decide +kernel
theorem t56_32 : g_at 56 32 = some (.aload_n 0, 0, 0, 0) := by decide +kernel
theorem t56_33 : g_at 56 33 = some (.getfield 16, 4, 9, 0) := by decide +kernel
theorem t56_36 : g_at 56 36 = some (.iconst 1, 0, 0, 1) := by decide +kernel
theorem t56_37 : g_at 56 37 = some (.aload_n 0, 0, 0, 0) := by decide +kernel
theorem t56_38 : g_at 56 38 = some (.aload_n 0, 0, 0, 0) := by decide +kernel
theorem t56_39 : g_at 56 39 = some (.getfield 16, 4, 9, 0) := by decide +kernel
theorem t56_42 : g_at 56 42 = some (.iconst 1, 0, 0, 1) := by decide +kernel
theorem t56_43 : g_at 56 43 = some (.iaload, 0, 0, 0) := by decide +kernel
theorem t56_44 : g_at 56 44 = some (.iconst 0, 0, 0, 0) := by decide +kernel
theorem t56_45 : g_at 56 45 = some (.invokevirtual 114, 54, 2, 0) := by decide +kernel
theorem t56_48 : g_at 56 48 = some (.iastore, 0, 0, 0) := by decide +kernel
theorem t56_49 : g_at 56 49 = some (.goto (86), 135, 0, 0) := by decide +kernel
theorem t56_52 : g_at 56 52 = some (.iload_n 1, 0, 0, 0) := by decide +kernel
theorem t56_53 : g_at 56 53 = some (.bipush (100), 0, 0, 100) := by decide +kernel
theorem t56_55 : g_at 56 55 = some (.if_icmp .ne (23), 78, 0, 0) := by decide +kernel
theorem t56_58 : g_at 56 58 = some (.aload_n 0, 0, 0, 0) := by decide +kernel
theorem t56_59 : g_at 56 59 = some (.getfield 16, 4, 9, 0) := by decide +kernel
theorem t56_62 : g_at 56 62 = some (.iconst 2, 0, 0, 2) := by decide +kernel
theorem t56_63 : g_at 56 63 = some (.aload_n 0, 0, 0, 0) := by decide +kernel
theorem t56_64 : g_at 56 64 = some (.aload_n 0, 0, 0, 0) := by decide +kernel
theorem t56_65 : g_at 56 65 = some (.getfield 16, 4, 9, 0) := by decide +kernel
theorem t56_68 : g_at 56 68 = some (.iconst 2, 0, 0, 2) := by decide +kernel
theorem t56_69 : g_at 56 69 = some (.iaload, 0, 0, 0) := by decide +kernel
theorem t56_70 : g_at 56 70 = some (.iconst 0, 0, 0, 0) := by decide +kernel
theorem t56_71 : g_at 56 71 = some (.invokevirtual 114, 54, 2, 0) := by decide +kernel
theorem t56_74 : g_at 56 74 = some (.iastore, 0, 0, 0) := by decide +kernel
theorem t56_75 : g_at 56 75 = some (.goto (60), 135, 0, 0) := by decide +kernel
theorem t56_78 : g_at 56 78 = some (.iload_n 1, 0, 0, 0) := by decide +kernel
theorem t56_79 : g_at 56 79 = some (.bipush (99), 0, 0, 99) := by decide +kernel
theorem t56_81 : g_at 56 81 = some (.if_icmp .ne (23), 104, 0, 0) := by decide +kernel
theorem t56_84 : g_at 56 84 = some (.aload_n 0, 0, 0, 0) := by decide +kernel
theorem t56_85 : g_at 56 85 = some (.getfield 19, 4, 10, 0) := by decide +kernel
theorem t56_88 : g_at 56 88 = some (.iconst 0, 0, 0, 0) := by decide +kernel
theorem t56_89 : g_at 56 89 = some (.aload_n 0, 0, 0, 0) := by decide +kernel
theorem t56_90 : g_at 56 90 = some (.aload_n 0, 0, 0, 0) := by decide +kernel
theorem t56_91 : g_at 56 91 = some (.getfield 19, 4, 10, 0) := by decide +kernel
theorem t56_94 : g_at 56 94 = some (.iconst 0, 0, 0, 0) := by decide +kernel
theorem t56_95 : g_at 56 95 = some (.iaload, 0, 0, 0) := by decide +kernel
theorem t56_96 : g_at 56 96 = some (.iconst 1, 0, 0, 1) := by decide +kernel
theorem t56_97 : g_at 56 97 = some (.invokevirtual 114, 54, 2, 0) := by decide +kernel
theorem t56_100 : g_at 56 100 = some (.iastore, 0, 0, 0) := by decide +kernel
theorem t56_101 : g_at 56 101 = some (.goto (34), 135, 0, 0) := by decide +kernel
theorem t56_104 : g_at 56 104 = some (.iload_n 1, 0, 0, 0) := by decide +kernel
theorem t56_105 : g_at 56 105 = some (.bipush (107), 0, 0, 107) := by decide +kernel
theorem t56_107 : g_at 56 107 = some (.if_icmp .ne (23), 130, 0, 0) := by decide +kernel
theorem t56_110 : g_at 56 110 = some (.aload_n 0, 0, 0, 0) := by decide +kernel
theorem t56_111 : g_at 56 111 = some (.getfield 19, 4, 10, 0) := by decide +kernel
theorem t56_114 : g_at 56 114 = some (.iconst 1, 0, 0, 1) := by decide +kernel
theorem t56_115 : g_at 56 115 = some (.aload_n 0, 0, 0, 0) := by decide +kernel
theorem t56_116 : g_at 56 116 = some (.aload_n 0, 0, 0, 0) := by decide +kernel
theorem t56_117 : g_at 56 117 = some (.getfield 19, 4, 10, 0) := by decide +kernel
theorem t56_120 : g_at 56 120 = some (.iconst 1, 0, 0, 1) := by decide +kernel
theorem t56_121 : g_at 56 121 = some (.iaload, 0, 0, 0) := by decide +kernel
theorem t56_122 : g_at 56 122 = some (.iconst 1, 0, 0, 1) := by decide +kernel
theorem t56_123 : g_at 56 123 = some (.invokevirtual 114, 54, 2, 0) := by decide +kernel
theorem t56_126 : g_at 56 126 = some (.iastore, 0, 0, 0) := by decide +kernel
theorem t56_127 : g_at 56 127 = some (.goto (8), 135, 0, 0) := by decide +kernel
theorem t56_130 : g_at 56 130 = some (.aload_n 0, 0, 0, 0) := by decide +kernel
theorem t56_131 : g_at 56 131 = some (.iload_n 1, 0, 0, 0) := by decide +kernel
theorem t56_132 : g_at 56 132 = some (.invokevirtual 118, 55, 1, 0) := by decide +kernel
theorem t56_135 : g_at 56 135 = some (.return_, 0, 0, 0) := by decide +kernel
theorem t57_0 : g_at 57 0 = some (.iconst 4, 0, 0, 4) := by decide +kernel
theorem t57_1 : g_at 57 1 = some (.istore_n 2, 0, 0, 0) := by decide +kernel
theorem t57_2 : g_at 57 2 = some (.iload_n 2, 0, 0, 0) := by decide +kernel
theorem t57_3 : g_at 57 3 = some (.bipush (36), 0, 0, 36) := by decide +kernel
theorem t57_5 : g_at 57 5 = some (.if_icmp .ge (47), 52, 0, 0) := by decide +kernel
theorem t57_8 : g_at 57 8 = some (.aload_n 0, 0, 0, 0) := by decide +kernel
theorem t57_9 : g_at 57 9 = some (.getfield 16, 4, 9, 0) := by decide +kernel
theorem t57_12 : g_at 57 12 = some (.iload_n 2, 0, 0, 0) := by decide +kernel
theorem t57_13 : g_at 57 13 = some (.iload_n 1, 0, 0, 0) := by decide +kernel
theorem t57_14 : g_at 57 14 = some (.iadd, 0, 0, 0) := by decide +kernel
theorem t57_15 : g_at 57 15 = some (.iaload, 0, 0, 0) := by decide +kernel
theorem t57_16 : g_at 57 16 = some (.istore_n 3, 0, 0, 0) := by decide +kernel
theorem t57_17 : g_at 57 17 = some (.aload_n 0, 0, 0, 0) := by decide +kernel
theorem t57_18 : g_at 57 18 = some (.getfield 16, 4, 9, 0) := by decide +kernel
theorem t57_21 : g_at 57 21 = some (.iload_n 2, 0, 0, 0) := by decide +kernel
theorem t57_22 : g_at 57 22 = some (.iload_n 1, 0, 0, 0) := by decide +kernel
theorem t57_23 : g_at 57 23 = some (.iadd, 0, 0, 0) := by decide +kernel
theorem t57_24 : g_at 57 24 = some (.aload_n 0, 0, 0, 0) := by decide +kernel
theorem t57_25 : g_at 57 25 = some (.getfield 16, 4, 9, 0) := by decide +kernel
theorem t57_28 : g_at 57 28 = some (.iload_n 2, 0, 0, 0) := by decide +kernel
theorem t57_29 : g_at 57 29 = some (.iload_n 1, 0, 0, 0) := by decide +kernel
theorem t57_30 : g_at 57 30 = some (.iadd, 0, 0, 0) := by decide +kernel
theorem t57_31 : g_at 57 31 = some (.iconst 1, 0, 0, 1) := by decide +kernel
theorem t57_32 : g_at 57 32 = some (.iadd, 0, 0, 0) := by decide +kernel
theorem t57_33 : g_at 57 33 = some (.iaload, 0, 0, 0) := by decide +kernel
theorem t57_34 : g_at 57 34 = some (.iastore, 0, 0, 0) := by decide +kernel
theorem t57_35 : g_at 57 35 = some (.aload_n 0, 0, 0, 0) := by decide +kernel
theorem t57_36 : g_at 57 36 = some (.getfield 16, 4, 9, 0) := by decide +kernel
theorem t57_39 : g_at 57 39 = some (.iload_n 2, 0, 0, 0) := by decide +kernel
theorem t57_40 : g_at 57 40 = some (.iload_n 1, 0, 0, 0) := by decide +kernel
theorem t57_41 : g_at 57 41 = some (.iadd, 0, 0, 0) := by decide +kernel
theorem t57_42 : g_at 57 42 = some (.iconst 1, 0, 0, 1) := by decide +kernel
theorem t57_43 : g_at 57 43 = some (.iadd, 0, 0, 0) := by decide +kernel
theorem t57_44 : g_at 57 44 = some (.iload_n 3, 0, 0, 0) := by decide +kernel
theorem t57_45 : g_at 57 45 = some (.iastore, 0, 0, 0) := by decide +kernel
theorem t57_46 : g_at 57 46 = some (.iinc 2 (8), 0, 0, 8) := by decide +kernel
theorem t57_49 : g_at 57 49 = some (.goto (-47), 2, 0, 0) := by decide +kernel
theorem t57_52 : g_at 57 52 = some (.iconst 0, 0, 0, 0) := by decide +kernel
theorem t57_53 : g_at 57 53 = some (.istore_n 2, 0, 0, 0) := by decide +kernel
theorem t57_54 : g_at 57 54 = some (.iload_n 2, 0, 0, 0) := by decide +kernel
theorem t57_55 : g_at 57 55 = some (.iconst 1, 0, 0, 1) := by decide +kernel
theorem t57_56 : g_at 57 56 = some (.if_icmp .gt (46), 102, 0, 0) := by decide +kernel
theorem t57_59 : g_at 57 59 = some (.aload_n 0, 0, 0, 0) := by decide +kernel
theorem t57_60 : g_at 57 60 = some (.getfield 19, 4, 10, 0) := by decide +kernel
theorem t57_63 : g_at 57 63 = some (.iload_n 2, 0, 0, 0) := by decide +kernel
theorem t57_64 : g_at 57 64 = some (.iaload, 0, 0, 0) := by decide +kernel
theorem t57_65 : g_at 57 65 = some (.iload_n 1, 0, 0, 0) := by decide +kernel
theorem t57_66 : g_at 57 66 = some (.invokestatic 111, 53, 2, 0) := by decide +kernel
theorem t57_69 : g_at 57 69 = some (.aload_n 0, 0, 0, 0) := by decide +kernel
theorem t57_70 : g_at 57 70 = some (.getfield 19, 4, 10, 0) := by decide +kernel
theorem t57_73 : g_at 57 73 = some (.iload_n 2, 0, 0, 0) := by decide +kernel
theorem t57_74 : g_at 57 74 = some (.iaload, 0, 0, 0) := by decide +kernel
theorem t57_75 : g_at 57 75 = some (.iload_n 1, 0, 0, 0) := by decide +kernel
theorem t57_76 : g_at 57 76 = some (.iconst 1, 0, 0, 1) := by decide +kernel
theorem t57_77 : g_at 57 77 = some (.iadd, 0, 0, 0) := by decide +kernel
theorem t57_78 : g_at 57 78 = some (.invokestatic 111, 53, 2, 0) := by decide +kernel
theorem t57_81 : g_at 57 81 = some (.if_icmp .eq (15), 96, 0, 0) := by decide +kernel
theorem t57_84 : g_at 57 84 = some (.aload_n 0, 0, 0, 0) := by decide +kernel
theorem t57_85 : g_at 57 85 = some (.getfield 19, 4, 10, 0) := by decide +kernel
theorem t57_88 : g_at 57 88 = some (.iload_n 2, 0, 0, 0) := by decide +kernel
theorem t57_89 : g_at 57 89 = some (.dup2, 0, 0, 0) := by decide +kernel
theorem t57_90 : g_at 57 90 = some (.iaload, 0, 0, 0) := by decide +kernel
theorem t57_91 : g_at 57 91 = some (.iconst 3, 0, 0, 3) := by decide +kernel
theorem t57_92 : g_at 57 92 = some (.iload_n 1, 0, 0, 0) := by decide +kernel
theorem t57_93 : g_at 57 93 = some (.ishl, 0, 0, 0) := by decide +kernel
theorem t57_94 : g_at 57 94 = some (.ixor, 0, 0, 0) := by decide +kernel
theorem t57_95 : g_at 57 95 = some (.iastore, 0, 0, 0) := by decide +kernel
theorem t57_96 : g_at 57 96 = some (.iinc 2 (1), 0, 0, 1) := by decide +kernel
theorem t57_99 : g_at 57 99 = some (.goto (-45), 54, 0, 0) := by decide +kernel
theorem t57_102 : g_at 57 102 = some (.return_, 0, 0, 0) := by decide +kernel
theorem t58_0 : g_at 58 0 = some (.iconst 0, 0, 0, 0) := by decide +kernel
theorem t58_1 : g_at 58 1 = some (.istore_n 1, 0, 0, 0) := by decide +kernel
theorem t58_2 : g_at 58 2 = some (.iload_n 1, 0, 0, 0) := by decide +kernel
theorem t58_3 : g_at 58 3 = some (.aload_n 0, 0, 0, 0) := by decide +kernel
theorem t58_4 : g_at 58 4 = some (.getfield 16, 4, 9, 0) := by decide +kernel
theorem t58_7 : g_at 58 7 = some (.iconst 3, 0, 0, 3) := by decide +kernel
theorem t58_8 : g_at 58 8 = some (.iaload, 0, 0, 0) := by decide +kernel
theorem t58_9 : g_at 58 9 = some (.if_icmp .ge (83), 92, 0, 0) := by decide +kernel
theorem t58_12 : g_at 58 12 = some (.iconst 0, 0, 0, 0) := by decide +kernel
theorem t58_13 : g_at 58 13 = some (.istore_n 2, 0, 0, 0) := by decide +kernel
theorem t58_14 : g_at 58 14 = some (.iload_n 2, 0, 0, 0) := by decide +kernel
theorem t58_15 : g_at 58 15 = some (.iconst 1, 0, 0, 1) := by decide +kernel
theorem t58_16 : g_at 58 16 = some (.iadd, 0, 0, 0) := by decide +kernel
theorem t58_17 : g_at 58 17 = some (.aload_n 0, 0, 0, 0) := by decide +kernel
theorem t58_18 : g_at 58 18 = some (.getfield 16, 4, 9, 0) := by decide +kernel
theorem t58_21 : g_at 58 21 = some (.iconst 3, 0, 0, 3) := by decide +kernel
theorem t58_22 : g_at 58 22 = some (.iaload, 0, 0, 0) := by decide +kernel
theorem t58_23 : g_at 58 23 = some (.if_icmp .ge (63), 86, 0, 0) := by decide +kernel
theorem t58_26 : g_at 58 26 = some (.bipush (100), 0, 0, 100) := by decide +kernel
theorem t58_28 : g_at 58 28 = some (.aload_n 0, 0, 0, 0) := by decide +kernel
theorem t58_29 : g_at 58 29 = some (.getfield 16, 4, 9, 0) := by decide +kernel
theorem t58_32 : g_at 58 32 = some (.iconst 4, 0, 0, 4) := by decide +kernel
theorem t58_33 : g_at 58 33 = some (.iload_n 2, 0, 0, 0) := by decide +kernel
theorem t58_34 : g_at 58 34 = some (.iadd, 0, 0, 0) := by decide +kernel
theorem t58_35 : g_at 58 35 = some (.iaload, 0, 0, 0) := by decide +kernel
theorem t58_36 : g_at 58 36 = some (.imul, 0, 0, 0) := by decide +kernel
theorem t58_37 : g_at 58 37 = some (.aload_n 0, 0, 0, 0) := by decide +kernel
theorem t58_38 : g_at 58 38 = some (.getfield 16, 4, 9, 0) := by decide +kernel
theorem t58_41 : g_at 58 41 = some (.bipush (12), 0, 0, 12) := by decide +kernel
theorem t58_43 : g_at 58 43 = some (.iload_n 2, 0, 0, 0) := by decide +kernel
theorem t58_44 : g_at 58 44 = some (.iadd, 0, 0, 0) := by decide +kernel
theorem t58_45 : g_at 58 45 = some (.iaload, 0, 0, 0) := by decide +kernel
theorem t58_46 : g_at 58 46 = some (.iadd, 0, 0, 0) := by decide +kernel
theorem t58_47 : g_at 58 47 = some (.bipush (100), 0, 0, 100) := by decide +kernel
theorem t58_49 : g_at 58 49 = some (.aload_n 0, 0, 0, 0) := by decide +kernel
theorem t58_50 : g_at 58 50 = some (.getfield 16, 4, 9, 0) := by decide +kernel
theorem t58_53 : g_at 58 53 = some (.iconst 4, 0, 0, 4) := by decide +kernel
theorem t58_54 : g_at 58 54 = some (.iload_n 2, 0, 0, 0) := by decide +kernel
theorem t58_55 : g_at 58 55 = some (.iadd, 0, 0, 0) := by decide +kernel
theorem t58_56 : g_at 58 56 = some (.iconst 1, 0, 0, 1) := by decide +kernel
theorem t58_57 : g_at 58 57 = some (.iadd, 0, 0, 0) := by decide +kernel
theorem t58_58 : g_at 58 58 = some (.iaload, 0, 0, 0) := by decide +kernel
theorem t58_59 : g_at 58 59 = some (.imul, 0, 0, 0) := by decide +kernel
theorem t58_60 : g_at 58 60 = some (.aload_n 0, 0, 0, 0) := by decide +kernel
theorem t58_61 : g_at 58 61 = some (.getfield 16, 4, 9, 0) := by decide +kernel
theorem t58_64 : g_at 58 64 = some (.bipush (12), 0, 0, 12) := by decide +kernel
theorem t58_66 : g_at 58 66 = some (.iload_n 2, 0, 0, 0) := by decide +kernel
theorem t58_67 : g_at 58 67 = some (.iadd, 0, 0, 0) := by decide +kernel
theorem t58_68 : g_at 58 68 = some (.iconst 1, 0, 0, 1) := by decide +kernel
theorem t58_69 : g_at 58 69 = some (.iadd, 0, 0, 0) := by decide +kernel
theorem t58_70 : g_at 58 70 = some (.iaload, 0, 0, 0) := by decide +kernel
theorem t58_71 : g_at 58 71 = some (.iadd, 0, 0, 0) := by decide +kernel
theorem t58_72 : g_at 58 72 = some (.if_icmp .le (8), 80, 0, 0) := by decide +kernel
theorem t58_75 : g_at 58 75 = some (.aload_n 0, 0, 0, 0) := by decide +kernel
theorem t58_76 : g_at 58 76 = some (.iload_n 2, 0, 0, 0) := by decide +kernel
theorem t58_77 : g_at 58 77 = some (.invokevirtual 122, 57, 1, 0) := by decide +kernel
theorem t58_80 : g_at 58 80 = some (.iinc 2 (1), 0, 0, 1) := by decide +kernel
theorem t58_83 : g_at 58 83 = some (.goto (-69), 14, 0, 0) := by decide +kernel
theorem t58_86 : g_at 58 86 = some (.iinc 1 (1), 0, 0, 1) := by decide +kernel
theorem t58_89 : g_at 58 89 = some (.goto (-87), 2, 0, 0) := by decide +kernel
theorem t58_92 : g_at 58 92 = some (.return_, 0, 0, 0) := by decide +kernel
theorem t59_0 : g_at 59 0 = some (.iconst 0, 0, 0, 0) := by decide +kernel
theorem t59_1 : g_at 59 1 = some (.istore_n 3, 0, 0, 0) := by decide +kernel
theorem t59_2 : g_at 59 2 = some (.iload_n 3, 0, 0, 0) := by decide +kernel
theorem t59_3 : g_at 59 3 = some (.aload_n 1, 0, 0, 0) := by decide +kernel
theorem t59_4 : g_at 59 4 = some (.iconst 0, 0, 0, 0) := by decide +kernel
theorem t59_5 : g_at 59 5 = some (.iaload, 0, 0, 0) := by decide +kernel
theorem t59_6 : g_at 59 6 = some (.if_icmp .ge (16), 22, 0, 0) := by decide +kernel
theorem t59_9 : g_at 59 9 = some (.aload_n 0, 0, 0, 0) := by decide +kernel
theorem t59_10 : g_at 59 10 = some (.getfield 44, 4, 21, 0) := by decide +kernel
theorem t59_13 : g_at 59 13 = some (.iload_n 3, 0, 0, 0) := by decide +kernel
theorem t59_14 : g_at 59 14 = some (.iload_n 3, 0, 0, 0) := by decide +kernel
theorem t59_15 : g_at 59 15 = some (.iastore, 0, 0, 0) := by decide +kernel
theorem t59_16 : g_at 59 16 = some (.iinc 3 (1), 0, 0, 1) := by decide +kernel
theorem t59_19 : g_at 59 19 = some (.goto (-17), 2, 0, 0) := by decide +kernel
theorem t59_22 : g_at 59 22 = some (.iconst 0, 0, 0, 0) := by decide +kernel
theorem t59_23 : g_at 59 23 = some (.istore_n 3, 0, 0, 0) := by decide +kernel
theorem t59_24 : g_at 59 24 = some (.iload_n 3, 0, 0, 0) := by decide +kernel
theorem t59_25 : g_at 59 25 = some (.aload_n 1, 0, 0, 0) := by decide +kernel
theorem t59_26 : g_at 59 26 = some (.iconst 0, 0, 0, 0) := by decide +kernel
theorem t59_27 : g_at 59 27 = some (.iaload, 0, 0, 0) := by decide +kernel
theorem t59_28 : g_at 59 28 = some (.if_icmp .ge (117), 145, 0, 0) := by decide +kernel
theorem t59_31 : g_at 59 31 = some (.iconst 0, 0, 0, 0) := by decide +kernel
theorem t59_32 : g_at 59 32 = some (.istore 4, 0, 0, 0) := by decide +kernel
theorem t59_34 : g_at 59 34 = some (.iload 4, 0, 0, 0) := by decide +kernel
theorem t59_36 : g_at 59 36 = some (.aload_n 1, 0, 0, 0) := by decide +kernel
theorem t59_37 : g_at 59 37 = some (.iconst 3, 0, 0, 3) := by decide +kernel
theorem t59_38 : g_at 59 38 = some (.iaload, 0, 0, 0) := by decide +kernel
theorem t59_39 : g_at 59 39 = some (.if_icmp .ge (100), 139, 0, 0) := by decide +kernel
theorem t59_42 : g_at 59 42 = some (.iload_n 2, 0, 0, 0) := by decide +kernel
theorem t59_43 : g_at 59 43 = some (.iload 4, 0, 0, 0) := by decide +kernel
theorem t59_45 : g_at 59 45 = some (.invokestatic 111, 53, 2, 0) := by decide +kernel
theorem t59_48 : g_at 59 48 = some (.ifCond .eq (85), 133, 0, 0) := by decide +kernel
theorem t59_51 : g_at 59 51 = some (.aload_n 1, 0, 0, 0) := by decide +kernel
theorem t59_52 : g_at 59 52 = some (.iconst 4, 0, 0, 4) := by decide +kernel
theorem t59_53 : g_at 59 53 = some (.iload 4, 0, 0, 0) := by decide +kernel
theorem t59_55 : g_at 59 55 = some (.iadd, 0, 0, 0) := by decide +kernel
theorem t59_56 : g_at 59 56 = some (.iaload, 0, 0, 0) := by decide +kernel
theorem t59_57 : g_at 59 57 = some (.iconst 2, 0, 0, 2) := by decide +kernel
theorem t59_58 : g_at 59 58 = some (.if_icmp .eq (75), 133, 0, 0) := by decide +kernel
theorem t59_61 : g_at 59 61 = some (.aload_n 1, 0, 0, 0) := by decide +kernel
theorem t59_62 : g_at 59 62 = some (.bipush (20), 0, 0, 20) := by decide +kernel
theorem t59_64 : g_at 59 64 = some (.iload 4, 0, 0, 0) := by decide +kernel
theorem t59_66 : g_at 59 66 = some (.iadd, 0, 0, 0) := by decide +kernel
theorem t59_67 : g_at 59 67 = some (.iaload, 0, 0, 0) := by decide +kernel
theorem t59_68 : g_at 59 68 = some (.istore 5, 0, 0, 0) := by decide +kernel
theorem t59_70 : g_at 59 70 = some (.aload_n 1, 0, 0, 0) := by decide +kernel
theorem t59_71 : g_at 59 71 = some (.bipush (28), 0, 0, 28) := by decide +kernel
theorem t59_73 : g_at 59 73 = some (.iload 4, 0, 0, 0) := by decide +kernel
theorem t59_75 : g_at 59 75 = some (.iadd, 0, 0, 0) := by decide +kernel
theorem t59_76 : g_at 59 76 = some (.iaload, 0, 0, 0) := by decide +kernel
theorem t59_77 : g_at 59 77 = some (.istore 6, 0, 0, 0) := by decide +kernel
theorem t59_79 : g_at 59 79 = some (.aload_n 0, 0, 0, 0) := by decide +kernel
theorem t59_80 : g_at 59 80 = some (.getfield 44, 4, 21, 0) := by decide +kernel
theorem t59_83 : g_at 59 83 = some (.iload 5, 0, 0, 0) := by decide +kernel
theorem t59_85 : g_at 59 85 = some (.iaload, 0, 0, 0) := by decide +kernel
theorem t59_86 : g_at 59 86 = some (.aload_n 0, 0, 0, 0) := by decide +kernel
theorem t59_87 : g_at 59 87 = some (.getfield 44, 4, 21, 0) := by decide +kernel
theorem t59_90 : g_at 59 90 = some (.iload 6, 0, 0, 0) := by decide +kernel
theorem t59_92 : g_at 59 92 = some (.iaload, 0, 0, 0) := by decide +kernel
theorem t59_93 : g_at 59 93 = some (.if_icmp .ge (13), 106, 0, 0) := by decide +kernel
theorem t59_96 : g_at 59 96 = some (.aload_n 0, 0, 0, 0) := by decide +kernel
theorem t59_97 : g_at 59 97 = some (.getfield 44, 4, 21, 0) := by decide +kernel
theorem t59_100 : g_at 59 100 = some (.iload 5, 0, 0, 0) := by decide +kernel
theorem t59_102 : g_at 59 102 = some (.iaload, 0, 0, 0) := by decide +kernel
theorem t59_103 : g_at 59 103 = some (.goto (10), 113, 0, 0) := by decide +kernel
theorem t59_106 : g_at 59 106 = some (.aload_n 0, 0, 0, 0) := by decide +kernel
theorem t59_107 : g_at 59 107 = some (.getfield 44, 4, 21, 0) := by decide +kernel
theorem t59_110 : g_at 59 110 = some (.iload 6, 0, 0, 0) := by decide +kernel
theorem t59_112 : g_at 59 112 = some (.iaload, 0, 0, 0) := by decide +kernel
theorem t59_113 : g_at 59 113 = some (.istore 7, 0, 0, 0) := by decide +kernel
theorem t59_115 : g_at 59 115 = some (.aload_n 0, 0, 0, 0) := by decide +kernel
theorem t59_116 : g_at 59 116 = some (.getfield 44, 4, 21, 0) := by decide +kernel
theorem t59_119 : g_at 59 119 = some (.iload 5, 0, 0, 0) := by decide +kernel
theorem t59_121 : g_at 59 121 = some (.iload 7, 0, 0, 0) := by decide +kernel
theorem t59_123 : g_at 59 123 = some (.iastore, 0, 0, 0) := by decide +kernel
theorem t59_124 : g_at 59 124 = some (.aload_n 0, 0, 0, 0) := by decide +kernel
theorem t59_125 : g_at 59 125 = some (.getfield 44, 4, 21, 0) := by decide +kernel
theorem t59_128 : g_at 59 128 = some (.iload 6, 0, 0, 0) := by decide +kernel
theorem t59_130 : g_at 59 130 = some (.iload 7, 0, 0, 0) := by decide +kernel
theorem t59_132 : g_at 59 132 = some (.iastore, 0, 0, 0) := by decide +kernel
theorem t59_133 : g_at 59 133 = some (.iinc 4 (1), 0, 0, 1) := by decide +kernel
theorem t59_136 : g_at 59 136 = some (.goto (-102), 34, 0, 0) := by decide +kernel
theorem t59_139 : g_at 59 139 = some (.iinc 3 (1), 0, 0, 1) := by decide +kernel
theorem t59_142 : g_at 59 142 = some (.goto (-118), 24, 0, 0) := by decide +kernel
theorem t59_145 : g_at 59 145 = some (.return_, 0, 0, 0) := by decide +kernel
theorem t60_0 : g_at 60 0 = some (.iconst 0, 0, 0, 0) := by decide +kernel
theorem t60_1 : g_at 60 1 = some (.istore_n 3, 0, 0, 0) := by decide +kernel
theorem t60_2 : g_at 60 2 = some (.iconst 0, 0, 0, 0) := by decide +kernel
theorem t60_3 : g_at 60 3 = some (.istore 4, 0, 0, 0) := by decide +kernel
theorem t60_5 : g_at 60 5 = some (.iload 4, 0, 0, 0) := by decide +kernel
theorem t60_7 : g_at 60 7 = some (.aload_n 1, 0, 0, 0) := by decide +kernel
theorem t60_8 : g_at 60 8 = some (.iconst 0, 0, 0, 0) := by decide +kernel
theorem t60_9 : g_at 60 9 = some (.iaload, 0, 0, 0) := by decide +kernel
theorem t60_10 : g_at 60 10 = some (.if_icmp .ge (63), 73, 0, 0) := by decide +kernel
theorem t60_13 : g_at 60 13 = some (.iconst 0, 0, 0, 0) := by decide +kernel
theorem t60_14 : g_at 60 14 = some (.istore 5, 0, 0, 0) := by decide +kernel
theorem t60_16 : g_at 60 16 = some (.iload 5, 0, 0, 0) := by decide +kernel
theorem t60_18 : g_at 60 18 = some (.aload_n 1, 0, 0, 0) := by decide +kernel
theorem t60_19 : g_at 60 19 = some (.iconst 0, 0, 0, 0) := by decide +kernel
theorem t60_20 : g_at 60 20 = some (.iaload, 0, 0, 0) := by decide +kernel
theorem t60_21 : g_at 60 21 = some (.if_icmp .ge (46), 67, 0, 0) := by decide +kernel
theorem t60_24 : g_at 60 24 = some (.iload_n 3, 0, 0, 0) := by decide +kernel
theorem t60_25 : g_at 60 25 = some (.iload_n 2, 0, 0, 0) := by decide +kernel
theorem t60_26 : g_at 60 26 = some (.iload 5, 0, 0, 0) := by decide +kernel
theorem t60_28 : g_at 60 28 = some (.invokestatic 111, 53, 2, 0) := by decide +kernel
theorem t60_31 : g_at 60 31 = some (.ifCond .eq (27), 58, 0, 0) := by decide +kernel
theorem t60_34 : g_at 60 34 = some (.aload_n 0, 0, 0, 0) := by decide +kernel
theorem t60_35 : g_at 60 35 = some (.getfield 44, 4, 21, 0) := by decide +kernel
theorem t60_38 : g_at 60 38 = some (.iload 4, 0, 0, 0) := by decide +kernel
theorem t60_40 : g_at 60 40 = some (.iaload, 0, 0, 0) := by decide +kernel
theorem t60_41 : g_at 60 41 = some (.aload_n 0, 0, 0, 0) := by decide +kernel
theorem t60_42 : g_at 60 42 = some (.getfield 44, 4, 21, 0) := by decide +kernel
theorem t60_45 : g_at 60 45 = some (.iload 5, 0, 0, 0) := by decide +kernel
theorem t60_47 : g_at 60 47 = some (.iaload, 0, 0, 0) := by decide +kernel
theorem t60_48 : g_at 60 48 = some (.if_icmp .ne (10), 58, 0, 0) := by decide +kernel
theorem t60_51 : g_at 60 51 = some (.iconst 1, 0, 0, 1) := by decide +kernel
theorem t60_52 : g_at 60 52 = some (.iload 4, 0, 0, 0) := by decide +kernel
theorem t60_54 : g_at 60 54 = some (.ishl, 0, 0, 0) := by decide +kernel
theorem t60_55 : g_at 60 55 = some (.goto (4), 59, 0, 0) := by decide +kernel
theorem t60_58 : g_at 60 58 = some (.iconst 0, 0, 0, 0) := by decide +kernel
theorem t60_59 : g_at 60 59 = some (.ior, 0, 0, 0) := by decide +kernel
theorem t60_60 : g_at 60 60 = some (.istore_n 3, 0, 0, 0) := by decide +kernel
theorem t60_61 : g_at 60 61 = some (.iinc 5 (1), 0, 0, 1) := by decide +kernel
theorem t60_64 : g_at 60 64 = some (.goto (-48), 16, 0, 0) := by decide +kernel
theorem t60_67 : g_at 60 67 = some (.iinc 4 (1), 0, 0, 1) := by decide +kernel
theorem t60_70 : g_at 60 70 = some (.goto (-65), 5, 0, 0) := by decide +kernel
theorem t60_73 : g_at 60 73 = some (.iload_n 3, 0, 0, 0) := by decide +kernel
theorem t60_74 : g_at 60 74 = some (.ireturn, 0, 0, 0) := by decide +kernel
theorem t61_0 : g_at 61 0 = some (.aload_n 0, 0, 0, 0) := by decide +kernel
theorem t61_1 : g_at 61 1 = some (.aload_n 1, 0, 0, 0) := by decide +kernel
theorem t61_2 : g_at 61 2 = some (.iload_n 2, 0, 0, 0) := by decide +kernel
theorem t61_3 : g_at 61 3 = some (.invokevirtual 150, 59, 2, 0) := by decide +kernel
theorem t61_6 : g_at 61 6 = some (.aload_n 0, 0, 0, 0) := by decide +kernel
theorem t61_7 : g_at 61 7 = some (.aload_n 1, 0, 0, 0) := by decide +kernel
theorem t61_8 : g_at 61 8 = some (.aload_n 1, 0, 0, 0) := by decide +kernel
theorem t61_9 : g_at 61 9 = some (.iconst 1, 0, 0, 1) := by decide +kernel
theorem t61_10 : g_at 61 10 = some (.iaload, 0, 0, 0) := by decide +kernel
theorem t61_11 : g_at 61 11 = some (.invokevirtual 154, 60, 2, 0) := by decide +kernel
theorem t61_14 : g_at 61 14 = some (.ireturn, 0, 0, 0) := by decide +kernel
theorem t62_0 : g_at 62 0 = some (.aload_n 0, 0, 0, 0) := by decide +kernel
theorem t62_1 : g_at 62 1 = some (.aload_n 1, 0, 0, 0) := by decide +kernel
theorem t62_2 : g_at 62 2 = some (.iload_n 2, 0, 0, 0) := by decide +kernel
theorem t62_3 : g_at 62 3 = some (.invokevirtual 150, 59, 2, 0) := by decide +kernel
theorem t62_6 : g_at 62 6 = some (.iconst 0, 0, 0, 0) := by decide +kernel
theorem t62_7 : g_at 62 7 = some (.istore_n 3, 0, 0, 0) := by decide +kernel
theorem t62_8 : g_at 62 8 = some (.iconst 0, 0, 0, 0) := by decide +kernel
theorem t62_9 : g_at 62 9 = some (.istore 4, 0, 0, 0) := by decide +kernel
theorem t62_11 : g_at 62 11 = some (.iload 4, 0, 0, 0) := by decide +kernel
theorem t62_13 : g_at 62 13 = some (.aload_n 1, 0, 0, 0) := by decide +kernel
theorem t62_14 : g_at 62 14 = some (.iconst 3, 0, 0, 3) := by decide +kernel
theorem t62_15 : g_at 62 15 = some (.iaload, 0, 0, 0) := by decide +kernel
theorem t62_16 : g_at 62 16 = some (.if_icmp .ge (44), 60, 0, 0) := by decide +kernel
theorem t62_19 : g_at 62 19 = some (.iload_n 3, 0, 0, 0) := by decide +kernel
theorem t62_20 : g_at 62 20 = some (.iload_n 2, 0, 0, 0) := by decide +kernel
theorem t62_21 : g_at 62 21 = some (.iload 4, 0, 0, 0) := by decide +kernel
theorem t62_23 : g_at 62 23 = some (.invokestatic 111, 53, 2, 0) := by decide +kernel
theorem t62_26 : g_at 62 26 = some (.ifCond .eq (25), 51, 0, 0) := by decide +kernel
theorem t62_29 : g_at 62 29 = some (.aload_n 1, 0, 0, 0) := by decide +kernel
theorem t62_30 : g_at 62 30 = some (.iconst 4, 0, 0, 4) := by decide +kernel
theorem t62_31 : g_at 62 31 = some (.iload 4, 0, 0, 0) := by decide +kernel
theorem t62_33 : g_at 62 33 = some (.iadd, 0, 0, 0) := by decide +kernel
theorem t62_34 : g_at 62 34 = some (.iaload, 0, 0, 0) := by decide +kernel
theorem t62_35 : g_at 62 35 = some (.iconst 2, 0, 0, 2) := by decide +kernel
theorem t62_36 : g_at 62 36 = some (.if_icmp .ne (15), 51, 0, 0) := by decide +kernel
theorem t62_39 : g_at 62 39 = some (.iconst 1, 0, 0, 1) := by decide +kernel
theorem t62_40 : g_at 62 40 = some (.aload_n 1, 0, 0, 0) := by decide +kernel
theorem t62_41 : g_at 62 41 = some (.bipush (20), 0, 0, 20) := by decide +kernel
theorem t62_43 : g_at 62 43 = some (.iload 4, 0, 0, 0) := by decide +kernel
theorem t62_45 : g_at 62 45 = some (.iadd, 0, 0, 0) := by decide +kernel
theorem t62_46 : g_at 62 46 = some (.iaload, 0, 0, 0) := by decide +kernel
theorem t62_47 : g_at 62 47 = some (.ishl, 0, 0, 0) := by decide +kernel
theorem t62_48 : g_at 62 48 = some (.goto (4), 52, 0, 0) := by decide +kernel
theorem t62_51 : g_at 62 51 = some (.iconst 0, 0, 0, 0) := by decide +kernel
theorem t62_52 : g_at 62 52 = some (.ior, 0, 0, 0) := by decide +kernel
theorem t62_53 : g_at 62 53 = some (.istore_n 3, 0, 0, 0) := by decide +kernel
theorem t62_54 : g_at 62 54 = some (.iinc 4 (1), 0, 0, 1) := by decide +kernel
theorem t62_57 : g_at 62 57 = some (.goto (-46), 11, 0, 0) := by decide +kernel
theorem t62_60 : g_at 62 60 = some (.aload_n 0, 0, 0, 0) := by decide +kernel
theorem t62_61 : g_at 62 61 = some (.aload_n 1, 0, 0, 0) := by decide +kernel
theorem t62_62 : g_at 62 62 = some (.iload_n 3, 0, 0, 0) := by decide +kernel
theorem t62_63 : g_at 62 63 = some (.invokevirtual 154, 60, 2, 0) := by decide +kernel
theorem t62_66 : g_at 62 66 = some (.ireturn, 0, 0, 0) := by decide +kernel
theorem t63_0 : g_at 63 0 = some (.aload_n 0, 0, 0, 0) := by decide +kernel
theorem t63_1 : g_at 63 1 = some (.iconst 0, 0, 0, 0) := by decide +kernel
theorem t63_2 : g_at 63 2 = some (.putfield 62, 4, 0, 0) := by decide +kernel
theorem t63_5 : g_at 63 5 = some (.aload_n 0, 0, 0, 0) := by decide +kernel
theorem t63_6 : g_at 63 6 = some (.iconst (-1), 0, 0, (-1)) := by decide +kernel
theorem t63_7 : g_at 63 7 = some (.putfield 89, 4, 7, 0) := by decide +kernel
theorem t63_10 : g_at 63 10 = some (.aload_n 0, 0, 0, 0) := by decide +kernel
theorem t63_11 : g_at 63 11 = some (.iconst 0, 0, 0, 0) := by decide +kernel
theorem t63_12 : g_at 63 12 = some (.putfield 73, 4, 3, 0) := by decide +kernel
theorem t63_15 : g_at 63 15 = some (.aload_n 0, 0, 0, 0) := by decide +kernel
theorem t63_16 : g_at 63 16 = some (.invokevirtual 56, 6, 0, 0) := by decide +kernel
theorem t63_19 : g_at 63 19 = some (.iconst 0, 0, 0, 0) := by decide +kernel
theorem t63_20 : g_at 63 20 = some (.istore_n 1, 0, 0, 0) := by decide +kernel
theorem t63_21 : g_at 63 21 = some (.aload_n 0, 0, 0, 0) := by decide +kernel
theorem t63_22 : g_at 63 22 = some (.invokevirtual 96, 47, 0, 0) := by decide +kernel
theorem t63_25 : g_at 63 25 = some (.aload_n 0, 0, 0, 0) := by decide +kernel
theorem t63_26 : g_at 63 26 = some (.invokevirtual 92, 48, 0, 0) := by decide +kernel
theorem t63_29 : g_at 63 29 = some (.ifCond .eq (72), 101, 0, 0) := by decide +kernel
theorem t63_32 : g_at 63 32 = some (.aload_n 0, 0, 0, 0) := by decide +kernel
theorem t63_33 : g_at 63 33 = some (.getfield 83, 4, 4, 0) := by decide +kernel
theorem t63_36 : g_at 63 36 = some (.ifCond .eq (65), 101, 0, 0) := by decide +kernel
theorem t63_39 : g_at 63 39 = some (.aload_n 0, 0, 0, 0) := by decide +kernel
theorem t63_40 : g_at 63 40 = some (.aload_n 0, 0, 0, 0) := by decide +kernel
theorem t63_41 : g_at 63 41 = some (.getfield 83, 4, 4, 0) := by decide +kernel
theorem t63_44 : g_at 63 44 = some (.iconst 1, 0, 0, 1) := by decide +kernel
theorem t63_45 : g_at 63 45 = some (.if_icmp .ne (15), 60, 0, 0) := by decide +kernel
theorem t63_48 : g_at 63 48 = some (.aload_n 0, 0, 0, 0) := by decide +kernel
theorem t63_49 : g_at 63 49 = some (.iload_n 1, 0, 0, 0) := by decide +kernel
theorem t63_50 : g_at 63 50 = some (.invokevirtual 125, 49, 1, 0) := by decide +kernel
theorem t63_53 : g_at 63 53 = some (.ifCond .eq (7), 60, 0, 0) := by decide +kernel
theorem t63_56 : g_at 63 56 = some (.iconst 1, 0, 0, 1) := by decide +kernel
theorem t63_57 : g_at 63 57 = some (.goto (4), 61, 0, 0) := by decide +kernel
theorem t63_60 : g_at 63 60 = some (.iconst 0, 0, 0, 0) := by decide +kernel
theorem t63_61 : g_at 63 61 = some (.invokevirtual 103, 50, 1, 0) := by decide +kernel
theorem t63_64 : g_at 63 64 = some (.istore_n 2, 0, 0, 0) := by decide +kernel
theorem t63_65 : g_at 63 65 = some (.aload_n 0, 0, 0, 0) := by decide +kernel
theorem t63_66 : g_at 63 66 = some (.invokevirtual 92, 48, 0, 0) := by decide +kernel
theorem t63_69 : g_at 63 69 = some (.ifCond .eq (8), 77, 0, 0) := by decide +kernel
theorem t63_72 : g_at 63 72 = some (.aload_n 0, 0, 0, 0) := by decide +kernel
theorem t63_73 : g_at 63 73 = some (.iload_n 2, 0, 0, 0) := by decide +kernel
theorem t63_74 : g_at 63 74 = some (.invokevirtual 129, 56, 1, 0) := by decide +kernel
theorem t63_77 : g_at 63 77 = some (.aload_n 0, 0, 0, 0) := by decide +kernel
theorem t63_78 : g_at 63 78 = some (.aload_n 0, 0, 0, 0) := by decide +kernel
theorem t63_79 : g_at 63 79 = some (.getfield 83, 4, 4, 0) := by decide +kernel
theorem t63_82 : g_at 63 82 = some (.iconst 3, 0, 0, 3) := by decide +kernel
theorem t63_83 : g_at 63 83 = some (.if_icmp .ne (7), 90, 0, 0) := by decide +kernel
theorem t63_86 : g_at 63 86 = some (.iconst 1, 0, 0, 1) := by decide +kernel
theorem t63_87 : g_at 63 87 = some (.goto (4), 91, 0, 0) := by decide +kernel
theorem t63_90 : g_at 63 90 = some (.iconst 0, 0, 0, 0) := by decide +kernel
theorem t63_91 : g_at 63 91 = some (.invokevirtual 103, 50, 1, 0) := by decide +kernel
theorem t63_94 : g_at 63 94 = some (.pop, 0, 0, 0) := by decide +kernel
theorem t63_95 : g_at 63 95 = some (.iinc 1 (1), 0, 0, 1) := by decide +kernel
theorem t63_98 : g_at 63 98 = some (.goto (-73), 25, 0, 0) := by decide +kernel
theorem t63_101 : g_at 63 101 = some (.aload_n 0, 0, 0, 0) := by decide +kernel
theorem t63_102 : g_at 63 102 = some (.invokevirtual 92, 48, 0, 0) := by decide +kernel
theorem t63_105 : g_at 63 105 = some (.ifCond .eq (54), 159, 0, 0) := by decide +kernel
theorem t63_108 : g_at 63 108 = some (.aload_n 0, 0, 0, 0) := by decide +kernel
theorem t63_109 : g_at 63 109 = some (.invokevirtual 132, 58, 0, 0) := by decide +kernel
theorem t63_112 : g_at 63 112 = some (.aload_n 0, 0, 0, 0) := by decide +kernel
theorem t63_113 : g_at 63 113 = some (.aload_n 0, 0, 0, 0) := by decide +kernel
theorem t63_114 : g_at 63 114 = some (.aload_n 0, 0, 0, 0) := by decide +kernel
theorem t63_115 : g_at 63 115 = some (.getfield 16, 4, 9, 0) := by decide +kernel
theorem t63_118 : g_at 63 118 = some (.aload_n 0, 0, 0, 0) := by decide +kernel
theorem t63_119 : g_at 63 119 = some (.getfield 19, 4, 10, 0) := by decide +kernel
theorem t63_122 : g_at 63 122 = some (.iconst 0, 0, 0, 0) := by decide +kernel
theorem t63_123 : g_at 63 123 = some (.iaload, 0, 0, 0) := by decide +kernel
theorem t63_124 : g_at 63 124 = some (.invokevirtual 135, 61, 2, 0) := by decide +kernel
theorem t63_127 : g_at 63 127 = some (.aload_n 0, 0, 0, 0) := by decide +kernel
theorem t63_128 : g_at 63 128 = some (.aload_n 0, 0, 0, 0) := by decide +kernel
theorem t63_129 : g_at 63 129 = some (.getfield 16, 4, 9, 0) := by decide +kernel
theorem t63_132 : g_at 63 132 = some (.aload_n 0, 0, 0, 0) := by decide +kernel
theorem t63_133 : g_at 63 133 = some (.getfield 19, 4, 10, 0) := by decide +kernel
theorem t63_136 : g_at 63 136 = some (.iconst 0, 0, 0, 0) := by decide +kernel
theorem t63_137 : g_at 63 137 = some (.iaload, 0, 0, 0) := by decide +kernel
theorem t63_138 : g_at 63 138 = some (.invokevirtual 138, 62, 2, 0) := by decide +kernel
theorem t63_141 : g_at 63 141 = some (.iand, 0, 0, 0) := by decide +kernel
theorem t63_142 : g_at 63 142 = some (.ifCond .ne (10), 152, 0, 0) := by decide +kernel
theorem t63_145 : g_at 63 145 = some (.aload_n 0, 0, 0, 0) := by decide +kernel
theorem t63_146 : g_at 63 146 = some (.getfield 89, 4, 7, 0) := by decide +kernel
theorem t63_149 : g_at 63 149 = some (.goto (7), 156, 0, 0) := by decide +kernel
theorem t63_152 : g_at 63 152 = some (.aload_n 0, 0, 0, 0) := by decide +kernel
theorem t63_153 : g_at 63 153 = some (.getfield 70, 4, 2, 0) := by decide +kernel
theorem t63_156 : g_at 63 156 = some (.putfield 89, 4, 7, 0) := by decide +kernel
theorem t63_159 : g_at 63 159 = some (.aload_n 0, 0, 0, 0) := by decide +kernel
theorem t63_160 : g_at 63 160 = some (.invokevirtual 92, 48, 0, 0) := by decide +kernel
theorem t63_163 : g_at 63 163 = some (.ifCond .ne (11), 174, 0, 0) := by decide +kernel
theorem t63_166 : g_at 63 166 = some (.bipush (-10), 0, 0, (-10)) := by decide +kernel
theorem t63_168 : g_at 63 168 = some (.aload_n 0, 0, 0, 0) := by decide +kernel
theorem t63_169 : g_at 63 169 = some (.getfield 89, 4, 7, 0) := by decide +kernel
theorem t63_172 : g_at 63 172 = some (.isub, 0, 0, 0) := by decide +kernel
theorem t63_173 : g_at 63 173 = some (.ireturn, 0, 0, 0) := by decide +kernel
theorem t63_174 : g_at 63 174 = some (.aload_n 0, 0, 0, 0) := by decide +kernel
theorem t63_175 : g_at 63 175 = some (.invokevirtual 59, 7, 0, 0) := by decide +kernel
theorem t63_178 : g_at 63 178 = some (.iload_n 1, 0, 0, 0) := by decide +kernel
theorem t63_179 : g_at 63 179 = some (.ireturn, 0, 0, 0) := by decide +kernel
theorem t64_0 : g_at 64 0 = some (.iload_n 1, 0, 0, 0) := by decide +kernel
theorem t64_1 : g_at 64 1 = some (.ifCond .lt (18), 19, 0, 0) := by decide +kernel
theorem t64_4 : g_at 64 4 = some (.iload_n 1, 0, 0, 0) := by decide +kernel
theorem t64_5 : g_at 64 5 = some (.aload_n 0, 0, 0, 0) := by decide +kernel
theorem t64_6 : g_at 64 6 = some (.getfield 26, 3, 2, 0) := by decide +kernel
theorem t64_9 : g_at 64 9 = some (.getfield 112, 1, 3, 0) := by decide +kernel
theorem t64_12 : g_at 64 12 = some (.if_icmp .ge (7), 19, 0, 0) := by decide +kernel
theorem t64_15 : g_at 64 15 = some (.iconst 1, 0, 0, 1) := by decide +kernel
theorem t64_16 : g_at 64 16 = some (.goto (4), 20, 0, 0) := by decide +kernel
theorem t64_19 : g_at 64 19 = some (.iconst 0, 0, 0, 0) := by decide +kernel
theorem t64_20 : g_at 64 20 = some (.ireturn, 0, 0, 0) := by decide +kernel
theorem t65_0 : g_at 65 0 = some (.aload_n 0, 0, 0, 0) := by decide +kernel
theorem t65_1 : g_at 65 1 = some (.getfield 34, 1, 12, 0) := by decide +kernel
theorem t65_4 : g_at 65 4 = some (.iload_n 1, 0, 0, 0) := by decide +kernel
theorem t65_5 : g_at 65 5 = some (.iaload, 0, 0, 0) := by decide +kernel
theorem t65_6 : g_at 65 6 = some (.iload_n 2, 0, 0, 0) := by decide +kernel
theorem t65_7 : g_at 65 7 = some (.invokestatic 63, 19, 2, 0) := by decide +kernel
theorem t65_10 : g_at 65 10 = some (.iconst 1, 0, 0, 1) := by decide +kernel
theorem t65_11 : g_at 65 11 = some (.if_icmp .ne (5), 16, 0, 0) := by decide +kernel
theorem t65_14 : g_at 65 14 = some (.iconst 2, 0, 0, 2) := by decide +kernel
theorem t65_15 : g_at 65 15 = some (.ireturn, 0, 0, 0) := by decide +kernel
theorem t65_16 : g_at 65 16 = some (.aload_n 0, 0, 0, 0) := by decide +kernel
theorem t65_17 : g_at 65 17 = some (.iload_n 1, 0, 0, 0) := by decide +kernel
theorem t65_18 : g_at 65 18 = some (.iconst 1, 0, 0, 1) := by decide +kernel
theorem t65_19 : g_at 65 19 = some (.iload_n 2, 0, 0, 0) := by decide +kernel
theorem t65_20 : g_at 65 20 = some (.ishl, 0, 0, 0) := by decide +kernel
theorem t65_21 : g_at 65 21 = some (.ixor, 0, 0, 0) := by decide +kernel
theorem t65_22 : g_at 65 22 = some (.invokevirtual 115, 44, 1, 0) := by decide +kernel
theorem t65_25 : g_at 65 25 = some (.ifCond .eq (7), 32, 0, 0) := by decide +kernel
theorem t65_28 : g_at 65 28 = some (.iconst 0, 0, 0, 0) := by decide +kernel
theorem t65_29 : g_at 65 29 = some (.goto (4), 33, 0, 0) := by decide +kernel
theorem t65_32 : g_at 65 32 = some (.iconst 3, 0, 0, 3) := by decide +kernel
theorem t65_33 : g_at 65 33 = some (.ireturn, 0, 0, 0) := by decide +kernel
theorem t66_0 : g_at 66 0 = some (.aload_n 0, 0, 0, 0) := by decide +kernel
theorem t66_1 : g_at 66 1 = some (.getfield 102, 3, 5, 0) := by decide +kernel
theorem t66_4 : g_at 66 4 = some (.iload_n 1, 0, 0, 0) := by decide +kernel
theorem t66_5 : g_at 66 5 = some (.invokestatic 98, 19, 2, 0) := by decide +kernel
theorem t66_8 : g_at 66 8 = some (.iconst 1, 0, 0, 1) := by decide +kernel
theorem t66_9 : g_at 66 9 = some (.if_icmp .ne (7), 16, 0, 0) := by decide +kernel
theorem t66_12 : g_at 66 12 = some (.iconst 1, 0, 0, 1) := by decide +kernel
theorem t66_13 : g_at 66 13 = some (.goto (15), 28, 0, 0) := by decide +kernel
theorem t66_16 : g_at 66 16 = some (.aload_n 0, 0, 0, 0) := by decide +kernel
theorem t66_17 : g_at 66 17 = some (.getfield 26, 3, 2, 0) := by decide +kernel
theorem t66_20 : g_at 66 20 = some (.aload_n 0, 0, 0, 0) := by decide +kernel
theorem t66_21 : g_at 66 21 = some (.getfield 95, 3, 4, 0) := by decide +kernel
theorem t66_24 : g_at 66 24 = some (.iload_n 1, 0, 0, 0) := by decide +kernel
theorem t66_25 : g_at 66 25 = some (.invokevirtual 225, 65, 2, 0) := by decide +kernel
theorem t66_28 : g_at 66 28 = some (.ireturn, 0, 0, 0) := by decide +kernel
theorem t67_0 : g_at 67 0 = some (.aload_n 0, 0, 0, 0) := by decide +kernel
theorem t67_1 : g_at 67 1 = some (.iload_n 1, 0, 0, 0) := by decide +kernel
theorem t67_2 : g_at 67 2 = some (.invokevirtual 80, 64, 1, 0) := by decide +kernel
theorem t67_5 : g_at 67 5 = some (.ifCond .ne (5), 10, 0, 0) := by decide +kernel
theorem t67_8 : g_at 67 8 = some (.iconst (-1), 0, 0, (-1)) := by decide +kernel
theorem t67_9 : g_at 67 9 = some (.ireturn, 0, 0, 0) := by decide +kernel
theorem t67_10 : g_at 67 10 = some (.iload_n 2, 0, 0, 0) := by decide +kernel
theorem t67_11 : g_at 67 11 = some (.tableswitch (105) (0) (6) #[41, 51, 61, 71, 81, 90, 99], 0, 0, 0) := by decide +kernel
theorem t67_52 : g_at 67 52 = some (.aload_n 0, 0, 0, 0) := by decide +kernel
theorem t67_53 : g_at 67 53 = some (.getfield 26, 3, 2, 0) := by decide +kernel
theorem t67_56 : g_at 67 56 = some (.getfield 83, 1, 6, 0) := by decide +kernel
theorem t67_59 : g_at 67 59 = some (.iload_n 1, 0, 0, 0) := by decide +kernel
theorem t67_60 : g_at 67 60 = some (.iaload, 0, 0, 0) := by decide +kernel
theorem t67_61 : g_at 67 61 = some (.ireturn, 0, 0, 0) := by decide +kernel
theorem t67_62 : g_at 67 62 = some (.aload_n 0, 0, 0, 0) := by decide +kernel
theorem t67_63 : g_at 67 63 = some (.getfield 26, 3, 2, 0) := by decide +kernel
theorem t67_66 : g_at 67 66 = some (.getfield 86, 1, 7, 0) := by decide +kernel
theorem t67_69 : g_at 67 69 = some (.iload_n 1, 0, 0, 0) := by decide +kernel
theorem t67_70 : g_at 67 70 = some (.iaload, 0, 0, 0) := by decide +kernel
theorem t67_71 : g_at 67 71 = some (.ireturn, 0, 0, 0) := by decide +kernel
theorem t67_72 : g_at 67 72 = some (.aload_n 0, 0, 0, 0) := by decide +kernel
theorem t67_73 : g_at 67 73 = some (.getfield 26, 3, 2, 0) := by decide +kernel
theorem t67_76 : g_at 67 76 = some (.getfield 89, 1, 8, 0) := by decide +kernel
theorem t67_79 : g_at 67 79 = some (.iload_n 1, 0, 0, 0) := by decide +kernel
theorem t67_80 : g_at 67 80 = some (.iaload, 0, 0, 0) := by decide +kernel
theorem t67_81 : g_at 67 81 = some (.ireturn, 0, 0, 0) := by decide +kernel
theorem t67_82 : g_at 67 82 = some (.aload_n 0, 0, 0, 0) := by decide +kernel
theorem t67_83 : g_at 67 83 = some (.getfield 26, 3, 2, 0) := by decide +kernel
theorem t67_86 : g_at 67 86 = some (.getfield 92, 1, 9, 0) := by decide +kernel
theorem t67_89 : g_at 67 89 = some (.iload_n 1, 0, 0, 0) := by decide +kernel
theorem t67_90 : g_at 67 90 = some (.iaload, 0, 0, 0) := by decide +kernel
theorem t67_91 : g_at 67 91 = some (.ireturn, 0, 0, 0) := by decide +kernel
theorem t67_92 : g_at 67 92 = some (.aload_n 0, 0, 0, 0) := by decide +kernel
theorem t67_93 : g_at 67 93 = some (.getfield 95, 3, 4, 0) := by decide +kernel
theorem t67_96 : g_at 67 96 = some (.iload_n 1, 0, 0, 0) := by decide +kernel
theorem t67_97 : g_at 67 97 = some (.invokestatic 98, 19, 2, 0) := by decide +kernel
theorem t67_100 : g_at 67 100 = some (.ireturn, 0, 0, 0) := by decide +kernel
theorem t67_101 : g_at 67 101 = some (.aload_n 0, 0, 0, 0) := by decide +kernel
theorem t67_102 : g_at 67 102 = some (.getfield 102, 3, 5, 0) := by decide +kernel
theorem t67_105 : g_at 67 105 = some (.iload_n 1, 0, 0, 0) := by decide +kernel
theorem t67_106 : g_at 67 106 = some (.invokestatic 98, 19, 2, 0) := by decide +kernel
theorem t67_109 : g_at 67 109 = some (.ireturn, 0, 0, 0) := by decide +kernel
theorem t67_110 : g_at 67 110 = some (.aload_n 0, 0, 0, 0) := by decide +kernel
theorem t67_111 : g_at 67 111 = some (.iload_n 1, 0, 0, 0) := by decide +kernel
theorem t67_112 : g_at 67 112 = some (.invokevirtual 105, 66, 1, 0) := by decide +kernel
theorem t67_115 : g_at 67 115 = some (.ireturn, 0, 0, 0) := by decide +kernel
theorem t67_116 : g_at 67 116 = some (.iconst (-1), 0, 0, (-1)) := by decide +kernel
theorem t67_117 : g_at 67 117 = some (.ireturn, 0, 0, 0) := by decide +kernel
theorem t68_0 : g_at 68 0 = some (.iload_n 1, 0, 0, 0) := by decide +kernel
theorem t68_1 : g_at 68 1 = some (.iconst 0, 0, 0, 0) := by decide +kernel
theorem t68_2 : g_at 68 2 = some (.aload_n 0, 0, 0, 0) := by decide +kernel
theorem t68_3 : g_at 68 3 = some (.getfield 13, 4, 8, 0) := by decide +kernel
theorem t68_6 : g_at 68 6 = some (.iconst 3, 0, 0, 3) := by decide +kernel
theorem t68_7 : g_at 68 7 = some (.iaload, 0, 0, 0) := by decide +kernel
theorem t68_8 : g_at 68 8 = some (.iconst 1, 0, 0, 1) := by decide +kernel
theorem t68_9 : g_at 68 9 = some (.isub, 0, 0, 0) := by decide +kernel
theorem t68_10 : g_at 68 10 = some (.invokestatic 66, 10, 3, 0) := by decide +kernel
theorem t68_13 : g_at 68 13 = some (.ireturn, 0, 0, 0) := by decide +kernel
theorem t69_0 : g_at 69 0 = some (.iconst 0, 0, 0, 0) := by decide +kernel
theorem t69_1 : g_at 69 1 = some (.istore_n 2, 0, 0, 0) := by decide +kernel
theorem t69_2 : g_at 69 2 = some (.iconst 0, 0, 0, 0) := by decide +kernel
theorem t69_3 : g_at 69 3 = some (.istore_n 3, 0, 0, 0) := by decide +kernel
theorem t69_4 : g_at 69 4 = some (.iload_n 3, 0, 0, 0) := by decide +kernel
theorem t69_5 : g_at 69 5 = some (.aload_n 0, 0, 0, 0) := by decide +kernel
theorem t69_6 : g_at 69 6 = some (.getfield 13, 4, 8, 0) := by decide +kernel
theorem t69_9 : g_at 69 9 = some (.iconst 0, 0, 0, 0) := by decide +kernel
theorem t69_10 : g_at 69 10 = some (.iaload, 0, 0, 0) := by decide +kernel
theorem t69_11 : g_at 69 11 = some (.if_icmp .ge (47), 58, 0, 0) := by decide +kernel
theorem t69_14 : g_at 69 14 = some (.iload_n 2, 0, 0, 0) := by decide +kernel
theorem t69_15 : g_at 69 15 = some (.ifCond .ne (31), 46, 0, 0) := by decide +kernel
theorem t69_18 : g_at 69 18 = some (.aload_n 0, 0, 0, 0) := by decide +kernel
theorem t69_19 : g_at 69 19 = some (.getfield 44, 4, 21, 0) := by decide +kernel
theorem t69_22 : g_at 69 22 = some (.iload_n 3, 0, 0, 0) := by decide +kernel
theorem t69_23 : g_at 69 23 = some (.iaload, 0, 0, 0) := by decide +kernel
theorem t69_24 : g_at 69 24 = some (.aload_n 0, 0, 0, 0) := by decide +kernel
theorem t69_25 : g_at 69 25 = some (.getfield 44, 4, 21, 0) := by decide +kernel
theorem t69_28 : g_at 69 28 = some (.iload_n 1, 0, 0, 0) := by decide +kernel
theorem t69_29 : g_at 69 29 = some (.iaload, 0, 0, 0) := by decide +kernel
theorem t69_30 : g_at 69 30 = some (.if_icmp .ne (20), 50, 0, 0) := by decide +kernel
theorem t69_33 : g_at 69 33 = some (.aload_n 0, 0, 0, 0) := by decide +kernel
theorem t69_34 : g_at 69 34 = some (.getfield 13, 4, 8, 0) := by decide +kernel
theorem t69_37 : g_at 69 37 = some (.iconst 2, 0, 0, 2) := by decide +kernel
theorem t69_38 : g_at 69 38 = some (.iaload, 0, 0, 0) := by decide +kernel
theorem t69_39 : g_at 69 39 = some (.iload_n 3, 0, 0, 0) := by decide +kernel
theorem t69_40 : g_at 69 40 = some (.invokestatic 111, 53, 2, 0) := by decide +kernel
theorem t69_43 : g_at 69 43 = some (.ifCond .eq (7), 50, 0, 0) := by decide +kernel
theorem t69_46 : g_at 69 46 = some (.iconst 1, 0, 0, 1) := by decide +kernel
theorem t69_47 : g_at 69 47 = some (.goto (4), 51, 0, 0) := by decide +kernel
theorem t69_50 : g_at 69 50 = some (.iconst 0, 0, 0, 0) := by decide +kernel
theorem t69_51 : g_at 69 51 = some (.istore_n 2, 0, 0, 0) := by decide +kernel
theorem t69_52 : g_at 69 52 = some (.iinc 3 (1), 0, 0, 1) := by decide +kernel
theorem t69_55 : g_at 69 55 = some (.goto (-51), 4, 0, 0) := by decide +kernel
theorem t69_58 : g_at 69 58 = some (.iload_n 2, 0, 0, 0) := by decide +kernel
theorem t69_59 : g_at 69 59 = some (.ireturn, 0, 0, 0) := by decide +kernel
theorem t70_0 : g_at 70 0 = some (.aload_n 0, 0, 0, 0) := by decide +kernel
theorem t70_1 : g_at 70 1 = some (.getfield 22, 4, 11, 0) := by decide +kernel
theorem t70_4 : g_at 70 4 = some (.iconst 1, 0, 0, 1) := by decide +kernel
theorem t70_5 : g_at 70 5 = some (.iaload, 0, 0, 0) := by decide +kernel
theorem t70_6 : g_at 70 6 = some (.iload_n 1, 0, 0, 0) := by decide +kernel
theorem t70_7 : g_at 70 7 = some (.invokestatic 111, 53, 2, 0) := by decide +kernel
theorem t70_10 : g_at 70 10 = some (.ifCond .eq (5), 15, 0, 0) := by decide +kernel
theorem t70_13 : g_at 70 13 = some (.iconst 1, 0, 0, 1) := by decide +kernel
theorem t70_14 : g_at 70 14 = some (.ireturn, 0, 0, 0) := by decide +kernel
theorem t70_15 : g_at 70 15 = some (.aload_n 0, 0, 0, 0) := by decide +kernel
theorem t70_16 : g_at 70 16 = some (.getfield 13, 4, 8, 0) := by decide +kernel
theorem t70_19 : g_at 70 19 = some (.iconst 4, 0, 0, 4) := by decide +kernel
theorem t70_20 : g_at 70 20 = some (.iload_n 1, 0, 0, 0) := by decide +kernel
theorem t70_21 : g_at 70 21 = some (.iadd, 0, 0, 0) := by decide +kernel
theorem t70_22 : g_at 70 22 = some (.iaload, 0, 0, 0) := by decide +kernel
theorem t70_23 : g_at 70 23 = some (.iconst 1, 0, 0, 1) := by decide +kernel
theorem t70_24 : g_at 70 24 = some (.if_icmp .ne (113), 137, 0, 0) := by decide +kernel
theorem t70_27 : g_at 70 27 = some (.aload_n 0, 0, 0, 0) := by decide +kernel
theorem t70_28 : g_at 70 28 = some (.getfield 13, 4, 8, 0) := by decide +kernel
theorem t70_31 : g_at 70 31 = some (.bipush (20), 0, 0, 20) := by decide +kernel
theorem t70_33 : g_at 70 33 = some (.iload_n 1, 0, 0, 0) := by decide +kernel
theorem t70_34 : g_at 70 34 = some (.iadd, 0, 0, 0) := by decide +kernel
theorem t70_35 : g_at 70 35 = some (.iaload, 0, 0, 0) := by decide +kernel
theorem t70_36 : g_at 70 36 = some (.istore_n 3, 0, 0, 0) := by decide +kernel
theorem t70_37 : g_at 70 37 = some (.aload_n 0, 0, 0, 0) := by decide +kernel
theorem t70_38 : g_at 70 38 = some (.getfield 13, 4, 8, 0) := by decide +kernel
theorem t70_41 : g_at 70 41 = some (.bipush (28), 0, 0, 28) := by decide +kernel
theorem t70_43 : g_at 70 43 = some (.iload_n 1, 0, 0, 0) := by decide +kernel
theorem t70_44 : g_at 70 44 = some (.iadd, 0, 0, 0) := by decide +kernel
theorem t70_45 : g_at 70 45 = some (.iaload, 0, 0, 0) := by decide +kernel
theorem t70_46 : g_at 70 46 = some (.istore 4, 0, 0, 0) := by decide +kernel
theorem t70_48 : g_at 70 48 = some (.aload_n 0, 0, 0, 0) := by decide +kernel
theorem t70_49 : g_at 70 49 = some (.aload_n 0, 0, 0, 0) := by decide +kernel
theorem t70_50 : g_at 70 50 = some (.getfield 13, 4, 8, 0) := by decide +kernel
theorem t70_53 : g_at 70 53 = some (.iload_n 2, 0, 0, 0) := by decide +kernel
theorem t70_54 : g_at 70 54 = some (.iconst 1, 0, 0, 1) := by decide +kernel
theorem t70_55 : g_at 70 55 = some (.iload_n 1, 0, 0, 0) := by decide +kernel
theorem t70_56 : g_at 70 56 = some (.ishl, 0, 0, 0) := by decide +kernel
theorem t70_57 : g_at 70 57 = some (.iconst (-1), 0, 0, (-1)) := by decide +kernel
theorem t70_58 : g_at 70 58 = some (.ixor, 0, 0, 0) := by decide +kernel
theorem t70_59 : g_at 70 59 = some (.iand, 0, 0, 0) := by decide +kernel
theorem t70_60 : g_at 70 60 = some (.invokevirtual 135, 61, 2, 0) := by decide +kernel
theorem t70_63 : g_at 70 63 = some (.istore 5, 0, 0, 0) := by decide +kernel
theorem t70_65 : g_at 70 65 = some (.iload 5, 0, 0, 0) := by decide +kernel
theorem t70_67 : g_at 70 67 = some (.iload_n 3, 0, 0, 0) := by decide +kernel
theorem t70_68 : g_at 70 68 = some (.invokestatic 111, 53, 2, 0) := by decide +kernel
theorem t70_71 : g_at 70 71 = some (.istore 6, 0, 0, 0) := by decide +kernel
theorem t70_73 : g_at 70 73 = some (.iload 5, 0, 0, 0) := by decide +kernel
theorem t70_75 : g_at 70 75 = some (.iload 4, 0, 0, 0) := by decide +kernel
theorem t70_77 : g_at 70 77 = some (.invokestatic 111, 53, 2, 0) := by decide +kernel
theorem t70_80 : g_at 70 80 = some (.istore 7, 0, 0, 0) := by decide +kernel
theorem t70_82 : g_at 70 82 = some (.aload_n 0, 0, 0, 0) := by decide +kernel
theorem t70_83 : g_at 70 83 = some (.getfield 44, 4, 21, 0) := by decide +kernel
theorem t70_86 : g_at 70 86 = some (.iload_n 3, 0, 0, 0) := by decide +kernel
theorem t70_87 : g_at 70 87 = some (.iaload, 0, 0, 0) := by decide +kernel
theorem t70_88 : g_at 70 88 = some (.aload_n 0, 0, 0, 0) := by decide +kernel
theorem t70_89 : g_at 70 89 = some (.getfield 44, 4, 21, 0) := by decide +kernel
theorem t70_92 : g_at 70 92 = some (.iload 4, 0, 0, 0) := by decide +kernel
theorem t70_94 : g_at 70 94 = some (.iaload, 0, 0, 0) := by decide +kernel
theorem t70_95 : g_at 70 95 = some (.if_icmp .eq (42), 137, 0, 0) := by decide +kernel
theorem t70_98 : g_at 70 98 = some (.iload 6, 0, 0, 0) := by decide +kernel
theorem t70_100 : g_at 70 100 = some (.ifCond .eq (8), 108, 0, 0) := by decide +kernel
theorem t70_103 : g_at 70 103 = some (.iload 7, 0, 0, 0) := by decide +kernel
theorem t70_105 : g_at 70 105 = some (.ifCond .ne (30), 135, 0, 0) := by decide +kernel
theorem t70_108 : g_at 70 108 = some (.iload 6, 0, 0, 0) := by decide +kernel
theorem t70_110 : g_at 70 110 = some (.ifCond .eq (12), 122, 0, 0) := by decide +kernel
theorem t70_113 : g_at 70 113 = some (.aload_n 0, 0, 0, 0) := by decide +kernel
theorem t70_114 : g_at 70 114 = some (.iload 4, 0, 0, 0) := by decide +kernel
theorem t70_116 : g_at 70 116 = some (.invokevirtual 157, 69, 1, 0) := by decide +kernel
theorem t70_119 : g_at 70 119 = some (.ifCond .ne (16), 135, 0, 0) := by decide +kernel
theorem t70_122 : g_at 70 122 = some (.iload 7, 0, 0, 0) := by decide +kernel
theorem t70_124 : g_at 70 124 = some (.ifCond .eq (13), 137, 0, 0) := by decide +kernel
theorem t70_127 : g_at 70 127 = some (.aload_n 0, 0, 0, 0) := by decide +kernel
theorem t70_128 : g_at 70 128 = some (.iload_n 3, 0, 0, 0) := by decide +kernel
theorem t70_129 : g_at 70 129 = some (.invokevirtual 157, 69, 1, 0) := by decide +kernel
theorem t70_132 : g_at 70 132 = some (.ifCond .eq (5), 137, 0, 0) := by decide +kernel
theorem t70_135 : g_at 70 135 = some (.iconst 2, 0, 0, 2) := by decide +kernel
theorem t70_136 : g_at 70 136 = some (.ireturn, 0, 0, 0) := by decide +kernel
theorem t70_137 : g_at 70 137 = some (.iload_n 2, 0, 0, 0) := by decide +kernel
theorem t70_138 : g_at 70 138 = some (.iconst 1, 0, 0, 1) := by decide +kernel
theorem t70_139 : g_at 70 139 = some (.iload_n 1, 0, 0, 0) := by decide +kernel
theorem t70_140 : g_at 70 140 = some (.ishl, 0, 0, 0) := by decide +kernel
theorem t70_141 : g_at 70 141 = some (.ixor, 0, 0, 0) := by decide +kernel
theorem t70_142 : g_at 70 142 = some (.istore_n 3, 0, 0, 0) := by decide +kernel
theorem t70_143 : g_at 70 143 = some (.aload_n 0, 0, 0, 0) := by decide +kernel
theorem t70_144 : g_at 70 144 = some (.aload_n 0, 0, 0, 0) := by decide +kernel
theorem t70_145 : g_at 70 145 = some (.getfield 13, 4, 8, 0) := by decide +kernel
theorem t70_148 : g_at 70 148 = some (.iload_n 3, 0, 0, 0) := by decide +kernel
theorem t70_149 : g_at 70 149 = some (.invokevirtual 135, 61, 2, 0) := by decide +kernel
theorem t70_152 : g_at 70 152 = some (.aload_n 0, 0, 0, 0) := by decide +kernel
theorem t70_153 : g_at 70 153 = some (.aload_n 0, 0, 0, 0) := by decide +kernel
theorem t70_154 : g_at 70 154 = some (.getfield 13, 4, 8, 0) := by decide +kernel
theorem t70_157 : g_at 70 157 = some (.iload_n 3, 0, 0, 0) := by decide +kernel
theorem t70_158 : g_at 70 158 = some (.invokevirtual 138, 62, 2, 0) := by decide +kernel
theorem t70_161 : g_at 70 161 = some (.iand, 0, 0, 0) := by decide +kernel
theorem t70_162 : g_at 70 162 = some (.ifCond .ne (7), 169, 0, 0) := by decide +kernel
theorem t70_165 : g_at 70 165 = some (.iconst 0, 0, 0, 0) := by decide +kernel
theorem t70_166 : g_at 70 166 = some (.goto (4), 170, 0, 0) := by decide +kernel
theorem t70_169 : g_at 70 169 = some (.iconst 3, 0, 0, 3) := by decide +kernel
theorem t70_170 : g_at 70 170 = some (.ireturn, 0, 0, 0) := by decide +kernel
theorem t71_0 : g_at 71 0 = some (.aload_n 0, 0, 0, 0) := by decide +kernel
theorem t71_1 : g_at 71 1 = some (.iconst 0, 0, 0, 0) := by decide +kernel
theorem t71_2 : g_at 71 2 = some (.putfield 62, 4, 0, 0) := by decide +kernel
theorem t71_5 : g_at 71 5 = some (.aload_n 0, 0, 0, 0) := by decide +kernel
theorem t71_6 : g_at 71 6 = some (.iload_n 1, 0, 0, 0) := by decide +kernel
theorem t71_7 : g_at 71 7 = some (.invokevirtual 160, 68, 1, 0) := by decide +kernel
theorem t71_10 : g_at 71 10 = some (.ifCond .eq (13), 23, 0, 0) := by decide +kernel
theorem t71_13 : g_at 71 13 = some (.iload_n 2, 0, 0, 0) := by decide +kernel
theorem t71_14 : g_at 71 14 = some (.iconst 0, 0, 0, 0) := by decide +kernel
theorem t71_15 : g_at 71 15 = some (.bipush (6), 0, 0, 6) := by decide +kernel
theorem t71_17 : g_at 71 17 = some (.invokestatic 66, 10, 3, 0) := by decide +kernel
theorem t71_20 : g_at 71 20 = some (.ifCond .ne (5), 25, 0, 0) := by decide +kernel
theorem t71_23 : g_at 71 23 = some (.iconst (-1), 0, 0, (-1)) := by decide +kernel
theorem t71_24 : g_at 71 24 = some (.ireturn, 0, 0, 0) := by decide +kernel
theorem t71_25 : g_at 71 25 = some (.iload_n 2, 0, 0, 0) := by decide +kernel
theorem t71_26 : g_at 71 26 = some (.iconst 4, 0, 0, 4) := by decide +kernel
theorem t71_27 : g_at 71 27 = some (.if_icmp .ge (62), 89, 0, 0) := by decide +kernel
theorem t71_30 : g_at 71 30 = some (.iload_n 2, 0, 0, 0) := by decide +kernel
theorem t71_31 : g_at 71 31 = some (.ifCond .ne (14), 45, 0, 0) := by decide +kernel
theorem t71_34 : g_at 71 34 = some (.aload_n 0, 0, 0, 0) := by decide +kernel
theorem t71_35 : g_at 71 35 = some (.getfield 13, 4, 8, 0) := by decide +kernel
theorem t71_38 : g_at 71 38 = some (.iconst 4, 0, 0, 4) := by decide +kernel
theorem t71_39 : g_at 71 39 = some (.iload_n 1, 0, 0, 0) := by decide +kernel
theorem t71_40 : g_at 71 40 = some (.iadd, 0, 0, 0) := by decide +kernel
theorem t71_41 : g_at 71 41 = some (.iaload, 0, 0, 0) := by decide +kernel
theorem t71_42 : g_at 71 42 = some (.goto (46), 88, 0, 0) := by decide +kernel
theorem t71_45 : g_at 71 45 = some (.iload_n 2, 0, 0, 0) := by decide +kernel
theorem t71_46 : g_at 71 46 = some (.iconst 1, 0, 0, 1) := by decide +kernel
theorem t71_47 : g_at 71 47 = some (.if_icmp .ne (15), 62, 0, 0) := by decide +kernel
theorem t71_50 : g_at 71 50 = some (.aload_n 0, 0, 0, 0) := by decide +kernel
theorem t71_51 : g_at 71 51 = some (.getfield 13, 4, 8, 0) := by decide +kernel
theorem t71_54 : g_at 71 54 = some (.bipush (12), 0, 0, 12) := by decide +kernel
theorem t71_56 : g_at 71 56 = some (.iload_n 1, 0, 0, 0) := by decide +kernel
theorem t71_57 : g_at 71 57 = some (.iadd, 0, 0, 0) := by decide +kernel
theorem t71_58 : g_at 71 58 = some (.iaload, 0, 0, 0) := by decide +kernel
theorem t71_59 : g_at 71 59 = some (.goto (29), 88, 0, 0) := by decide +kernel
theorem t71_62 : g_at 71 62 = some (.iload_n 2, 0, 0, 0) := by decide +kernel
theorem t71_63 : g_at 71 63 = some (.iconst 2, 0, 0, 2) := by decide +kernel
theorem t71_64 : g_at 71 64 = some (.if_icmp .ne (15), 79, 0, 0) := by decide +kernel
theorem t71_67 : g_at 71 67 = some (.aload_n 0, 0, 0, 0) := by decide +kernel
theorem t71_68 : g_at 71 68 = some (.getfield 13, 4, 8, 0) := by decide +kernel
theorem t71_71 : g_at 71 71 = some (.bipush (20), 0, 0, 20) := by decide +kernel
theorem t71_73 : g_at 71 73 = some (.iload_n 1, 0, 0, 0) := by decide +kernel
theorem t71_74 : g_at 71 74 = some (.iadd, 0, 0, 0) := by decide +kernel
theorem t71_75 : g_at 71 75 = some (.iaload, 0, 0, 0) := by decide +kernel
theorem t71_76 : g_at 71 76 = some (.goto (12), 88, 0, 0) := by decide +kernel
theorem t71_79 : g_at 71 79 = some (.aload_n 0, 0, 0, 0) := by decide +kernel
theorem t71_80 : g_at 71 80 = some (.getfield 13, 4, 8, 0) := by decide +kernel
theorem t71_83 : g_at 71 83 = some (.bipush (28), 0, 0, 28) := by decide +kernel
theorem t71_85 : g_at 71 85 = some (.iload_n 1, 0, 0, 0) := by decide +kernel
theorem t71_86 : g_at 71 86 = some (.iadd, 0, 0, 0) := by decide +kernel
theorem t71_87 : g_at 71 87 = some (.iaload, 0, 0, 0) := by decide +kernel
theorem t71_88 : g_at 71 88 = some (.ireturn, 0, 0, 0) := by decide +kernel
theorem t71_89 : g_at 71 89 = some (.iload_n 2, 0, 0, 0) := by decide +kernel
theorem t71_90 : g_at 71 90 = some (.iconst 4, 0, 0, 4) := by decide +kernel
theorem t71_91 : g_at 71 91 = some (.if_icmp .ne (16), 107, 0, 0) := by decide +kernel
theorem t71_94 : g_at 71 94 = some (.aload_n 0, 0, 0, 0) := by decide +kernel
theorem t71_95 : g_at 71 95 = some (.getfield 22, 4, 11, 0) := by decide +kernel
theorem t71_98 : g_at 71 98 = some (.iconst 0, 0, 0, 0) := by decide +kernel
theorem t71_99 : g_at 71 99 = some (.iaload, 0, 0, 0) := by decide +kernel
theorem t71_100 : g_at 71 100 = some (.iload_n 1, 0, 0, 0) := by decide +kernel
theorem t71_101 : g_at 71 101 = some (.ishr, 0, 0, 0) := by decide +kernel
theorem t71_102 : g_at 71 102 = some (.iconst 1, 0, 0, 1) := by decide +kernel
theorem t71_103 : g_at 71 103 = some (.iand, 0, 0, 0) := by decide +kernel
theorem t71_104 : g_at 71 104 = some (.goto (32), 136, 0, 0) := by decide +kernel
theorem t71_107 : g_at 71 107 = some (.iload_n 2, 0, 0, 0) := by decide +kernel
theorem t71_108 : g_at 71 108 = some (.iconst 5, 0, 0, 5) := by decide +kernel
theorem t71_109 : g_at 71 109 = some (.if_icmp .ne (16), 125, 0, 0) := by decide +kernel
theorem t71_112 : g_at 71 112 = some (.aload_n 0, 0, 0, 0) := by decide +kernel
theorem t71_113 : g_at 71 113 = some (.getfield 22, 4, 11, 0) := by decide +kernel
theorem t71_116 : g_at 71 116 = some (.iconst 1, 0, 0, 1) := by decide +kernel
theorem t71_117 : g_at 71 117 = some (.iaload, 0, 0, 0) := by decide +kernel
theorem t71_118 : g_at 71 118 = some (.iload_n 1, 0, 0, 0) := by decide +kernel
theorem t71_119 : g_at 71 119 = some (.ishr, 0, 0, 0) := by decide +kernel
theorem t71_120 : g_at 71 120 = some (.iconst 1, 0, 0, 1) := by decide +kernel
theorem t71_121 : g_at 71 121 = some (.iand, 0, 0, 0) := by decide +kernel
theorem t71_122 : g_at 71 122 = some (.goto (14), 136, 0, 0) := by decide +kernel
theorem t71_125 : g_at 71 125 = some (.aload_n 0, 0, 0, 0) := by decide +kernel
theorem t71_126 : g_at 71 126 = some (.iload_n 1, 0, 0, 0) := by decide +kernel
theorem t71_127 : g_at 71 127 = some (.aload_n 0, 0, 0, 0) := by decide +kernel
theorem t71_128 : g_at 71 128 = some (.getfield 22, 4, 11, 0) := by decide +kernel
theorem t71_131 : g_at 71 131 = some (.iconst 0, 0, 0, 0) := by decide +kernel
theorem t71_132 : g_at 71 132 = some (.iaload, 0, 0, 0) := by decide +kernel
theorem t71_133 : g_at 71 133 = some (.invokevirtual 163, 70, 2, 0) := by decide +kernel
theorem t71_136 : g_at 71 136 = some (.ireturn, 0, 0, 0) := by decide +kernel
theorem t72_0 : g_at 72 0 = some (.iload_n 1, 0, 0, 0) := by decide +kernel
theorem t72_1 : g_at 72 1 = some (.invokestatic 109, 17, 1, 0) := by decide +kernel
theorem t72_4 : g_at 72 4 = some (.ifCond .ne (5), 9, 0, 0) := by decide +kernel
theorem t72_7 : g_at 72 7 = some (.iconst (-1), 0, 0, (-1)) := by decide +kernel
theorem t72_8 : g_at 72 8 = some (.ireturn, 0, 0, 0) := by decide +kernel
theorem t72_9 : g_at 72 9 = some (.iconst 0, 0, 0, 0) := by decide +kernel
theorem t72_10 : g_at 72 10 = some (.istore_n 2, 0, 0, 0) := by decide +kernel
theorem t72_11 : g_at 72 11 = some (.iload_n 2, 0, 0, 0) := by decide +kernel
theorem t72_12 : g_at 72 12 = some (.aload_n 0, 0, 0, 0) := by decide +kernel
theorem t72_13 : g_at 72 13 = some (.getfield 26, 3, 2, 0) := by decide +kernel
theorem t72_16 : g_at 72 16 = some (.getfield 112, 1, 3, 0) := by decide +kernel
theorem t72_19 : g_at 72 19 = some (.if_icmp .ge (24), 43, 0, 0) := by decide +kernel
theorem t72_22 : g_at 72 22 = some (.aload_n 0, 0, 0, 0) := by decide +kernel
theorem t72_23 : g_at 72 23 = some (.getfield 26, 3, 2, 0) := by decide +kernel
theorem t72_26 : g_at 72 26 = some (.getfield 86, 1, 7, 0) := by decide +kernel
theorem t72_29 : g_at 72 29 = some (.iload_n 2, 0, 0, 0) := by decide +kernel
theorem t72_30 : g_at 72 30 = some (.iaload, 0, 0, 0) := by decide +kernel
theorem t72_31 : g_at 72 31 = some (.iload_n 1, 0, 0, 0) := by decide +kernel
theorem t72_32 : g_at 72 32 = some (.if_icmp .ne (5), 37, 0, 0) := by decide +kernel
theorem t72_35 : g_at 72 35 = some (.iload_n 2, 0, 0, 0) := by decide +kernel
theorem t72_36 : g_at 72 36 = some (.ireturn, 0, 0, 0) := by decide +kernel
theorem t72_37 : g_at 72 37 = some (.iinc 2 (1), 0, 0, 1) := by decide +kernel
theorem t72_40 : g_at 72 40 = some (.goto (-29), 11, 0, 0) := by decide +kernel
theorem t72_43 : g_at 72 43 = some (.bipush (-9), 0, 0, (-9)) := by decide +kernel
theorem t72_45 : g_at 72 45 = some (.ireturn, 0, 0, 0) := by decide +kernel
theorem t73_0 : g_at 73 0 = some (.aload_n 0, 0, 0, 0) := by decide +kernel
theorem t73_1 : g_at 73 1 = some (.iconst 0, 0, 0, 0) := by decide +kernel
theorem t73_2 : g_at 73 2 = some (.putfield 62, 4, 0, 0) := by decide +kernel
theorem t73_5 : g_at 73 5 = some (.iload_n 1, 0, 0, 0) := by decide +kernel
theorem t73_6 : g_at 73 6 = some (.bipush (97), 0, 0, 97) := by decide +kernel
theorem t73_8 : g_at 73 8 = some (.bipush (122), 0, 0, 122) := by decide +kernel
theorem t73_10 : g_at 73 10 = some (.invokestatic 66, 10, 3, 0) := by decide +kernel
theorem t73_13 : g_at 73 13 = some (.ifCond .eq (14), 27, 0, 0) := by decide +kernel
theorem t73_16 : g_at 73 16 = some (.aload_n 0, 0, 0, 0) := by decide +kernel
theorem t73_17 : g_at 73 17 = some (.getfield 13, 4, 8, 0) := by decide +kernel
theorem t73_20 : g_at 73 20 = some (.iload_n 1, 0, 0, 0) := by decide +kernel
theorem t73_21 : g_at 73 21 = some (.invokestatic 99, 52, 2, 0) := by decide +kernel
theorem t73_24 : g_at 73 24 = some (.goto (4), 28, 0, 0) := by decide +kernel
theorem t73_27 : g_at 73 27 = some (.iconst (-1), 0, 0, (-1)) := by decide +kernel
theorem t73_28 : g_at 73 28 = some (.ireturn, 0, 0, 0) := by decide +kernel
theorem t74_0 : g_at 74 0 = some (.iload_n 1, 0, 0, 0) := by decide +kernel
theorem t74_1 : g_at 74 1 = some (.ifCond .lt (18), 19, 0, 0) := by decide +kernel
theorem t74_4 : g_at 74 4 = some (.iload_n 1, 0, 0, 0) := by decide +kernel
theorem t74_5 : g_at 74 5 = some (.aload_n 0, 0, 0, 0) := by decide +kernel
theorem t74_6 : g_at 74 6 = some (.getfield 26, 3, 2, 0) := by decide +kernel
theorem t74_9 : g_at 74 9 = some (.getfield 202, 1, 0, 0) := by decide +kernel
theorem t74_12 : g_at 74 12 = some (.if_icmp .ge (7), 19, 0, 0) := by decide +kernel
theorem t74_15 : g_at 74 15 = some (.iconst 1, 0, 0, 1) := by decide +kernel
theorem t74_16 : g_at 74 16 = some (.goto (4), 20, 0, 0) := by decide +kernel
theorem t74_19 : g_at 74 19 = some (.iconst 0, 0, 0, 0) := by decide +kernel
theorem t74_20 : g_at 74 20 = some (.ireturn, 0, 0, 0) := by decide +kernel
theorem t75_0 : g_at 75 0 = some (.aload_n 0, 0, 0, 0) := by decide +kernel
theorem t75_1 : g_at 75 1 = some (.iload_n 1, 0, 0, 0) := by decide +kernel
theorem t75_2 : g_at 75 2 = some (.invokevirtual 93, 37, 1, 0) := by decide +kernel
theorem t75_5 : g_at 75 5 = some (.iconst 0, 0, 0, 0) := by decide +kernel
theorem t75_6 : g_at 75 6 = some (.istore_n 3, 0, 0, 0) := by decide +kernel
theorem t75_7 : g_at 75 7 = some (.iload_n 3, 0, 0, 0) := by decide +kernel
theorem t75_8 : g_at 75 8 = some (.iload_n 2, 0, 0, 0) := by decide +kernel
theorem t75_9 : g_at 75 9 = some (.if_icmp .ge (22), 31, 0, 0) := by decide +kernel
theorem t75_12 : g_at 75 12 = some (.aload_n 0, 0, 0, 0) := by decide +kernel
theorem t75_13 : g_at 75 13 = some (.getfield 37, 1, 13, 0) := by decide +kernel
theorem t75_16 : g_at 75 16 = some (.iload_n 2, 0, 0, 0) := by decide +kernel
theorem t75_17 : g_at 75 17 = some (.iaload, 0, 0, 0) := by decide +kernel
theorem t75_18 : g_at 75 18 = some (.iload_n 3, 0, 0, 0) := by decide +kernel
theorem t75_19 : g_at 75 19 = some (.invokestatic 63, 19, 2, 0) := by decide +kernel
theorem t75_22 : g_at 75 22 = some (.ifCond .ne (9), 31, 0, 0) := by decide +kernel
theorem t75_25 : g_at 75 25 = some (.iinc 3 (1), 0, 0, 1) := by decide +kernel
theorem t75_28 : g_at 75 28 = some (.goto (-21), 7, 0, 0) := by decide +kernel
theorem t75_31 : g_at 75 31 = some (.iload_n 3, 0, 0, 0) := by decide +kernel
theorem t75_32 : g_at 75 32 = some (.ireturn, 0, 0, 0) := by decide +kernel
theorem t76_0 : g_at 76 0 = some (.aload_n 0, 0, 0, 0) := by decide +kernel
theorem t76_1 : g_at 76 1 = some (.iload_n 1, 0, 0, 0) := by decide +kernel
theorem t76_2 : g_at 76 2 = some (.invokevirtual 115, 74, 1, 0) := by decide +kernel
theorem t76_5 : g_at 76 5 = some (.ifCond .ne (5), 10, 0, 0) := by decide +kernel
theorem t76_8 : g_at 76 8 = some (.iconst (-1), 0, 0, (-1)) := by decide +kernel
theorem t76_9 : g_at 76 9 = some (.ireturn, 0, 0, 0) := by decide +kernel
theorem t76_10 : g_at 76 10 = some (.iload_n 2, 0, 0, 0) := by decide +kernel
theorem t76_11 : g_at 76 11 = some (.tableswitch (104) (0) (4) #[33, 50, 67, 80, 92], 0, 0, 0) := by decide +kernel
theorem t76_44 : g_at 76 44 = some (.aload_n 0, 0, 0, 0) := by decide +kernel
theorem t76_45 : g_at 76 45 = some (.getfield 26, 3, 2, 0) := by decide +kernel
theorem t76_48 : g_at 76 48 = some (.getfield 118, 1, 10, 0) := by decide +kernel
theorem t76_51 : g_at 76 51 = some (.aload_n 0, 0, 0, 0) := by decide +kernel
theorem t76_52 : g_at 76 52 = some (.getfield 95, 3, 4, 0) := by decide +kernel
theorem t76_55 : g_at 76 55 = some (.iaload, 0, 0, 0) := by decide +kernel
theorem t76_56 : g_at 76 56 = some (.iload_n 1, 0, 0, 0) := by decide +kernel
theorem t76_57 : g_at 76 57 = some (.invokestatic 98, 19, 2, 0) := by decide +kernel
theorem t76_60 : g_at 76 60 = some (.ireturn, 0, 0, 0) := by decide +kernel
theorem t76_61 : g_at 76 61 = some (.aload_n 0, 0, 0, 0) := by decide +kernel
theorem t76_62 : g_at 76 62 = some (.getfield 26, 3, 2, 0) := by decide +kernel
theorem t76_65 : g_at 76 65 = some (.getfield 121, 1, 11, 0) := by decide +kernel
theorem t76_68 : g_at 76 68 = some (.aload_n 0, 0, 0, 0) := by decide +kernel
theorem t76_69 : g_at 76 69 = some (.getfield 95, 3, 4, 0) := by decide +kernel
theorem t76_72 : g_at 76 72 = some (.iaload, 0, 0, 0) := by decide +kernel
theorem t76_73 : g_at 76 73 = some (.iload_n 1, 0, 0, 0) := by decide +kernel
theorem t76_74 : g_at 76 74 = some (.invokestatic 98, 19, 2, 0) := by decide +kernel
theorem t76_77 : g_at 76 77 = some (.ireturn, 0, 0, 0) := by decide +kernel
theorem t76_78 : g_at 76 78 = some (.aload_n 0, 0, 0, 0) := by decide +kernel
theorem t76_79 : g_at 76 79 = some (.getfield 26, 3, 2, 0) := by decide +kernel
theorem t76_82 : g_at 76 82 = some (.aload_n 0, 0, 0, 0) := by decide +kernel
theorem t76_83 : g_at 76 83 = some (.getfield 95, 3, 4, 0) := by decide +kernel
theorem t76_86 : g_at 76 86 = some (.iload_n 1, 0, 0, 0) := by decide +kernel
theorem t76_87 : g_at 76 87 = some (.invokevirtual 124, 75, 2, 0) := by decide +kernel
theorem t76_90 : g_at 76 90 = some (.ireturn, 0, 0, 0) := by decide +kernel
theorem t76_91 : g_at 76 91 = some (.aload_n 0, 0, 0, 0) := by decide +kernel
theorem t76_92 : g_at 76 92 = some (.getfield 26, 3, 2, 0) := by decide +kernel
theorem t76_95 : g_at 76 95 = some (.getfield 127, 1, 1, 0) := by decide +kernel
theorem t76_98 : g_at 76 98 = some (.iload_n 1, 0, 0, 0) := by decide +kernel
theorem t76_99 : g_at 76 99 = some (.invokestatic 98, 19, 2, 0) := by decide +kernel
theorem t76_102 : g_at 76 102 = some (.ireturn, 0, 0, 0) := by decide +kernel
theorem t76_103 : g_at 76 103 = some (.aload_n 0, 0, 0, 0) := by decide +kernel
theorem t76_104 : g_at 76 104 = some (.getfield 26, 3, 2, 0) := by decide +kernel
theorem t76_107 : g_at 76 107 = some (.getfield 130, 1, 2, 0) := by decide +kernel
theorem t76_110 : g_at 76 110 = some (.iload_n 1, 0, 0, 0) := by decide +kernel
theorem t76_111 : g_at 76 111 = some (.invokestatic 98, 19, 2, 0) := by decide +kernel
theorem t76_114 : g_at 76 114 = some (.ireturn, 0, 0, 0) := by decide +kernel
theorem t76_115 : g_at 76 115 = some (.iconst (-1), 0, 0, (-1)) := by decide +kernel
theorem t76_116 : g_at 76 116 = some (.ireturn, 0, 0, 0) := by decide +kernel
theorem t77_0 : g_at 77 0 = some (.iload_n 1, 0, 0, 0) := by decide +kernel
theorem t77_1 : g_at 77 1 = some (.iconst 0, 0, 0, 0) := by decide +kernel
theorem t77_2 : g_at 77 2 = some (.aload_n 0, 0, 0, 0) := by decide +kernel
theorem t77_3 : g_at 77 3 = some (.getfield 13, 4, 8, 0) := by decide +kernel
theorem t77_6 : g_at 77 6 = some (.iconst 0, 0, 0, 0) := by decide +kernel
theorem t77_7 : g_at 77 7 = some (.iaload, 0, 0, 0) := by decide +kernel
theorem t77_8 : g_at 77 8 = some (.iconst 1, 0, 0, 1) := by decide +kernel
theorem t77_9 : g_at 77 9 = some (.isub, 0, 0, 0) := by decide +kernel
theorem t77_10 : g_at 77 10 = some (.invokestatic 66, 10, 3, 0) := by decide +kernel
theorem t77_13 : g_at 77 13 = some (.ireturn, 0, 0, 0) := by decide +kernel
theorem t78_0 : g_at 78 0 = some (.aload_n 0, 0, 0, 0) := by decide +kernel
theorem t78_1 : g_at 78 1 = some (.iconst 0, 0, 0, 0) := by decide +kernel
theorem t78_2 : g_at 78 2 = some (.putfield 62, 4, 0, 0) := by decide +kernel
theorem t78_5 : g_at 78 5 = some (.aload_n 0, 0, 0, 0) := by decide +kernel
theorem t78_6 : g_at 78 6 = some (.iload_n 1, 0, 0, 0) := by decide +kernel
theorem t78_7 : g_at 78 7 = some (.invokevirtual 167, 77, 1, 0) := by decide +kernel
theorem t78_10 : g_at 78 10 = some (.ifCond .eq (12), 22, 0, 0) := by decide +kernel
theorem t78_13 : g_at 78 13 = some (.iload_n 2, 0, 0, 0) := by decide +kernel
theorem t78_14 : g_at 78 14 = some (.iconst 0, 0, 0, 0) := by decide +kernel
theorem t78_15 : g_at 78 15 = some (.iconst 4, 0, 0, 4) := by decide +kernel
theorem t78_16 : g_at 78 16 = some (.invokestatic 66, 10, 3, 0) := by decide +kernel
theorem t78_19 : g_at 78 19 = some (.ifCond .ne (5), 24, 0, 0) := by decide +kernel
theorem t78_22 : g_at 78 22 = some (.iconst (-1), 0, 0, (-1)) := by decide +kernel
theorem t78_23 : g_at 78 23 = some (.ireturn, 0, 0, 0) := by decide +kernel
theorem t78_24 : g_at 78 24 = some (.iload_n 2, 0, 0, 0) := by decide +kernel
theorem t78_25 : g_at 78 25 = some (.iconst 2, 0, 0, 2) := by decide +kernel
theorem t78_26 : g_at 78 26 = some (.if_icmp .le (28), 54, 0, 0) := by decide +kernel
theorem t78_29 : g_at 78 29 = some (.iload_n 2, 0, 0, 0) := by decide +kernel
theorem t78_30 : g_at 78 30 = some (.iconst 3, 0, 0, 3) := by decide +kernel
theorem t78_31 : g_at 78 31 = some (.if_icmp .ne (12), 43, 0, 0) := by decide +kernel
theorem t78_34 : g_at 78 34 = some (.aload_n 0, 0, 0, 0) := by decide +kernel
theorem t78_35 : g_at 78 35 = some (.getfield 13, 4, 8, 0) := by decide +kernel
theorem t78_38 : g_at 78 38 = some (.iconst 1, 0, 0, 1) := by decide +kernel
theorem t78_39 : g_at 78 39 = some (.iaload, 0, 0, 0) := by decide +kernel
theorem t78_40 : g_at 78 40 = some (.goto (9), 49, 0, 0) := by decide +kernel
theorem t78_43 : g_at 78 43 = some (.aload_n 0, 0, 0, 0) := by decide +kernel
theorem t78_44 : g_at 78 44 = some (.getfield 13, 4, 8, 0) := by decide +kernel
theorem t78_47 : g_at 78 47 = some (.iconst 2, 0, 0, 2) := by decide +kernel
theorem t78_48 : g_at 78 48 = some (.iaload, 0, 0, 0) := by decide +kernel
theorem t78_49 : g_at 78 49 = some (.iload_n 1, 0, 0, 0) := by decide +kernel
theorem t78_50 : g_at 78 50 = some (.ishr, 0, 0, 0) := by decide +kernel
theorem t78_51 : g_at 78 51 = some (.iconst 1, 0, 0, 1) := by decide +kernel
theorem t78_52 : g_at 78 52 = some (.iand, 0, 0, 0) := by decide +kernel
theorem t78_53 : g_at 78 53 = some (.ireturn, 0, 0, 0) := by decide +kernel
theorem t78_54 : g_at 78 54 = some (.aload_n 0, 0, 0, 0) := by decide +kernel
theorem t78_55 : g_at 78 55 = some (.aload_n 0, 0, 0, 0) := by decide +kernel
theorem t78_56 : g_at 78 56 = some (.getfield 13, 4, 8, 0) := by decide +kernel
theorem t78_59 : g_at 78 59 = some (.aload_n 0, 0, 0, 0) := by decide +kernel
theorem t78_60 : g_at 78 60 = some (.getfield 22, 4, 11, 0) := by decide +kernel
theorem t78_63 : g_at 78 63 = some (.iconst 0, 0, 0, 0) := by decide +kernel
theorem t78_64 : g_at 78 64 = some (.iaload, 0, 0, 0) := by decide +kernel
theorem t78_65 : g_at 78 65 = some (.invokevirtual 135, 61, 2, 0) := by decide +kernel
theorem t78_68 : g_at 78 68 = some (.istore_n 3, 0, 0, 0) := by decide +kernel
theorem t78_69 : g_at 78 69 = some (.aload_n 0, 0, 0, 0) := by decide +kernel
theorem t78_70 : g_at 78 70 = some (.aload_n 0, 0, 0, 0) := by decide +kernel
theorem t78_71 : g_at 78 71 = some (.getfield 13, 4, 8, 0) := by decide +kernel
theorem t78_74 : g_at 78 74 = some (.aload_n 0, 0, 0, 0) := by decide +kernel
theorem t78_75 : g_at 78 75 = some (.getfield 22, 4, 11, 0) := by decide +kernel
theorem t78_78 : g_at 78 78 = some (.iconst 0, 0, 0, 0) := by decide +kernel
theorem t78_79 : g_at 78 79 = some (.iaload, 0, 0, 0) := by decide +kernel
theorem t78_80 : g_at 78 80 = some (.invokevirtual 138, 62, 2, 0) := by decide +kernel
theorem t78_83 : g_at 78 83 = some (.istore 4, 0, 0, 0) := by decide +kernel
theorem t78_85 : g_at 78 85 = some (.iload_n 2, 0, 0, 0) := by decide +kernel
theorem t78_86 : g_at 78 86 = some (.ifCond .ne (11), 97, 0, 0) := by decide +kernel
theorem t78_89 : g_at 78 89 = some (.iload_n 3, 0, 0, 0) := by decide +kernel
theorem t78_90 : g_at 78 90 = some (.iload_n 1, 0, 0, 0) := by decide +kernel
theorem t78_91 : g_at 78 91 = some (.ishr, 0, 0, 0) := by decide +kernel
theorem t78_92 : g_at 78 92 = some (.iconst 1, 0, 0, 1) := by decide +kernel
theorem t78_93 : g_at 78 93 = some (.iand, 0, 0, 0) := by decide +kernel
theorem t78_94 : g_at 78 94 = some (.goto (23), 117, 0, 0) := by decide +kernel
theorem t78_97 : g_at 78 97 = some (.iload_n 2, 0, 0, 0) := by decide +kernel
theorem t78_98 : g_at 78 98 = some (.iconst 1, 0, 0, 1) := by decide +kernel
theorem t78_99 : g_at 78 99 = some (.if_icmp .ne (12), 111, 0, 0) := by decide +kernel
theorem t78_102 : g_at 78 102 = some (.iload 4, 0, 0, 0) := by decide +kernel
theorem t78_104 : g_at 78 104 = some (.iload_n 1, 0, 0, 0) := by decide +kernel
theorem t78_105 : g_at 78 105 = some (.ishr, 0, 0, 0) := by decide +kernel
theorem t78_106 : g_at 78 106 = some (.iconst 1, 0, 0, 1) := by decide +kernel
theorem t78_107 : g_at 78 107 = some (.iand, 0, 0, 0) := by decide +kernel
theorem t78_108 : g_at 78 108 = some (.goto (9), 117, 0, 0) := by decide +kernel
theorem t78_111 : g_at 78 111 = some (.aload_n 0, 0, 0, 0) := by decide +kernel
theorem t78_112 : g_at 78 112 = some (.getfield 44, 4, 21, 0) := by decide +kernel
theorem t78_115 : g_at 78 115 = some (.iload_n 1, 0, 0, 0) := by decide +kernel
theorem t78_116 : g_at 78 116 = some (.iaload, 0, 0, 0) := by decide +kernel
theorem t78_117 : g_at 78 117 = some (.ireturn, 0, 0, 0) := by decide +kernel
theorem t79_0 : g_at 79 0 = some (.iconst 0, 0, 0, 0) := by decide +kernel
theorem t79_1 : g_at 79 1 = some (.istore_n 1, 0, 0, 0) := by decide +kernel
theorem t79_2 : g_at 79 2 = some (.iconst 0, 0, 0, 0) := by decide +kernel
theorem t79_3 : g_at 79 3 = some (.istore_n 2, 0, 0, 0) := by decide +kernel
theorem t79_4 : g_at 79 4 = some (.iload_n 2, 0, 0, 0) := by decide +kernel
theorem t79_5 : g_at 79 5 = some (.aload_n 0, 0, 0, 0) := by decide +kernel
theorem t79_6 : g_at 79 6 = some (.getfield 26, 3, 2, 0) := by decide +kernel
theorem t79_9 : g_at 79 9 = some (.getfield 112, 1, 3, 0) := by decide +kernel
theorem t79_12 : g_at 79 12 = some (.if_icmp .ge (23), 35, 0, 0) := by decide +kernel
theorem t79_15 : g_at 79 15 = some (.aload_n 0, 0, 0, 0) := by decide +kernel
theorem t79_16 : g_at 79 16 = some (.iload_n 2, 0, 0, 0) := by decide +kernel
theorem t79_17 : g_at 79 17 = some (.invokevirtual 105, 66, 1, 0) := by decide +kernel
theorem t79_20 : g_at 79 20 = some (.ifCond .ne (9), 29, 0, 0) := by decide +kernel
theorem t79_23 : g_at 79 23 = some (.iload_n 1, 0, 0, 0) := by decide +kernel
theorem t79_24 : g_at 79 24 = some (.iconst 1, 0, 0, 1) := by decide +kernel
theorem t79_25 : g_at 79 25 = some (.iload_n 2, 0, 0, 0) := by decide +kernel
theorem t79_26 : g_at 79 26 = some (.ishl, 0, 0, 0) := by decide +kernel
theorem t79_27 : g_at 79 27 = some (.ior, 0, 0, 0) := by decide +kernel
theorem t79_28 : g_at 79 28 = some (.istore_n 1, 0, 0, 0) := by decide +kernel
theorem t79_29 : g_at 79 29 = some (.iinc 2 (1), 0, 0, 1) := by decide +kernel
theorem t79_32 : g_at 79 32 = some (.goto (-28), 4, 0, 0) := by decide +kernel
theorem t79_35 : g_at 79 35 = some (.iload_n 1, 0, 0, 0) := by decide +kernel
theorem t79_36 : g_at 79 36 = some (.ireturn, 0, 0, 0) := by decide +kernel
theorem t80_0 : g_at 80 0 = some (.iconst 0, 0, 0, 0) := by decide +kernel
theorem t80_1 : g_at 80 1 = some (.istore_n 2, 0, 0, 0) := by decide +kernel
theorem t80_2 : g_at 80 2 = some (.iconst 0, 0, 0, 0) := by decide +kernel
theorem t80_3 : g_at 80 3 = some (.istore_n 3, 0, 0, 0) := by decide +kernel
theorem t80_4 : g_at 80 4 = some (.iload_n 3, 0, 0, 0) := by decide +kernel
theorem t80_5 : g_at 80 5 = some (.aload_n 0, 0, 0, 0) := by decide +kernel
theorem t80_6 : g_at 80 6 = some (.getfield 9, 1, 0, 0) := by decide +kernel
theorem t80_9 : g_at 80 9 = some (.if_icmp .ge (22), 31, 0, 0) := by decide +kernel
theorem t80_12 : g_at 80 12 = some (.aload_n 0, 0, 0, 0) := by decide +kernel
theorem t80_13 : g_at 80 13 = some (.iload_n 1, 0, 0, 0) := by decide +kernel
theorem t80_14 : g_at 80 14 = some (.iload_n 3, 0, 0, 0) := by decide +kernel
theorem t80_15 : g_at 80 15 = some (.invokevirtual 119, 75, 2, 0) := by decide +kernel
theorem t80_18 : g_at 80 18 = some (.iload_n 3, 0, 0, 0) := by decide +kernel
theorem t80_19 : g_at 80 19 = some (.if_icmp .ne (6), 25, 0, 0) := by decide +kernel
theorem t80_22 : g_at 80 22 = some (.iinc 2 (1), 0, 0, 1) := by decide +kernel
theorem t80_25 : g_at 80 25 = some (.iinc 3 (1), 0, 0, 1) := by decide +kernel
theorem t80_28 : g_at 80 28 = some (.goto (-24), 4, 0, 0) := by decide +kernel
theorem t80_31 : g_at 80 31 = some (.iload_n 2, 0, 0, 0) := by decide +kernel
theorem t80_32 : g_at 80 32 = some (.ireturn, 0, 0, 0) := by decide +kernel
theorem t81_0 : g_at 81 0 = some (.iconst 0, 0, 0, 0) := by decide +kernel
theorem t81_1 : g_at 81 1 = some (.istore_n 2, 0, 0, 0) := by decide +kernel
theorem t81_2 : g_at 81 2 = some (.iconst 0, 0, 0, 0) := by decide +kernel
theorem t81_3 : g_at 81 3 = some (.istore_n 3, 0, 0, 0) := by decide +kernel
theorem t81_4 : g_at 81 4 = some (.iload_n 3, 0, 0, 0) := by decide +kernel
theorem t81_5 : g_at 81 5 = some (.aload_n 0, 0, 0, 0) := by decide +kernel
theorem t81_6 : g_at 81 6 = some (.getfield 26, 3, 2, 0) := by decide +kernel
theorem t81_9 : g_at 81 9 = some (.getfield 112, 1, 3, 0) := by decide +kernel
theorem t81_12 : g_at 81 12 = some (.if_icmp .ge (105), 117, 0, 0) := by decide +kernel
theorem t81_15 : g_at 81 15 = some (.aload_n 0, 0, 0, 0) := by decide +kernel
theorem t81_16 : g_at 81 16 = some (.getfield 102, 3, 5, 0) := by decide +kernel
theorem t81_19 : g_at 81 19 = some (.iload_n 3, 0, 0, 0) := by decide +kernel
theorem t81_20 : g_at 81 20 = some (.invokestatic 98, 19, 2, 0) := by decide +kernel
theorem t81_23 : g_at 81 23 = some (.iconst 1, 0, 0, 1) := by decide +kernel
theorem t81_24 : g_at 81 24 = some (.if_icmp .eq (87), 111, 0, 0) := by decide +kernel
theorem t81_27 : g_at 81 27 = some (.aload_n 0, 0, 0, 0) := by decide +kernel
theorem t81_28 : g_at 81 28 = some (.getfield 26, 3, 2, 0) := by decide +kernel
theorem t81_31 : g_at 81 31 = some (.iload_n 1, 0, 0, 0) := by decide +kernel
theorem t81_32 : g_at 81 32 = some (.iload_n 3, 0, 0, 0) := by decide +kernel
theorem t81_33 : g_at 81 33 = some (.invokevirtual 225, 65, 2, 0) := by decide +kernel
theorem t81_36 : g_at 81 36 = some (.ifCond .eq (6), 42, 0, 0) := by decide +kernel
theorem t81_39 : g_at 81 39 = some (.goto (72), 111, 0, 0) := by decide +kernel
theorem t81_42 : g_at 81 42 = some (.iload_n 1, 0, 0, 0) := by decide +kernel
theorem t81_43 : g_at 81 43 = some (.iconst 1, 0, 0, 1) := by decide +kernel
theorem t81_44 : g_at 81 44 = some (.iload_n 3, 0, 0, 0) := by decide +kernel
theorem t81_45 : g_at 81 45 = some (.ishl, 0, 0, 0) := by decide +kernel
theorem t81_46 : g_at 81 46 = some (.ixor, 0, 0, 0) := by decide +kernel
theorem t81_47 : g_at 81 47 = some (.istore 4, 0, 0, 0) := by decide +kernel
theorem t81_49 : g_at 81 49 = some (.aload_n 0, 0, 0, 0) := by decide +kernel
theorem t81_50 : g_at 81 50 = some (.getfield 49, 3, 15, 0) := by decide +kernel
theorem t81_53 : g_at 81 53 = some (.iload_n 1, 0, 0, 0) := by decide +kernel
theorem t81_54 : g_at 81 54 = some (.iaload, 0, 0, 0) := by decide +kernel
theorem t81_55 : g_at 81 55 = some (.aload_n 0, 0, 0, 0) := by decide +kernel
theorem t81_56 : g_at 81 56 = some (.getfield 33, 3, 6, 0) := by decide +kernel
theorem t81_59 : g_at 81 59 = some (.aload_n 0, 0, 0, 0) := by decide +kernel
theorem t81_60 : g_at 81 60 = some (.getfield 26, 3, 2, 0) := by decide +kernel
theorem t81_63 : g_at 81 63 = some (.getfield 83, 1, 6, 0) := by decide +kernel
theorem t81_66 : g_at 81 66 = some (.iload_n 3, 0, 0, 0) := by decide +kernel
theorem t81_67 : g_at 81 67 = some (.iaload, 0, 0, 0) := by decide +kernel
theorem t81_68 : g_at 81 68 = some (.iaload, 0, 0, 0) := by decide +kernel
theorem t81_69 : g_at 81 69 = some (.iadd, 0, 0, 0) := by decide +kernel
theorem t81_70 : g_at 81 70 = some (.istore 5, 0, 0, 0) := by decide +kernel
theorem t81_72 : g_at 81 72 = some (.aload_n 0, 0, 0, 0) := by decide +kernel
theorem t81_73 : g_at 81 73 = some (.getfield 49, 3, 15, 0) := by decide +kernel
theorem t81_76 : g_at 81 76 = some (.iload 4, 0, 0, 0) := by decide +kernel
theorem t81_78 : g_at 81 78 = some (.iaload, 0, 0, 0) := by decide +kernel
theorem t81_79 : g_at 81 79 = some (.iconst (-1), 0, 0, (-1)) := by decide +kernel
theorem t81_80 : g_at 81 80 = some (.if_icmp .eq (15), 95, 0, 0) := by decide +kernel
theorem t81_83 : g_at 81 83 = some (.aload_n 0, 0, 0, 0) := by decide +kernel
theorem t81_84 : g_at 81 84 = some (.getfield 49, 3, 15, 0) := by decide +kernel
theorem t81_87 : g_at 81 87 = some (.iload 4, 0, 0, 0) := by decide +kernel
theorem t81_89 : g_at 81 89 = some (.iaload, 0, 0, 0) := by decide +kernel
theorem t81_90 : g_at 81 90 = some (.iload 5, 0, 0, 0) := by decide +kernel
theorem t81_92 : g_at 81 92 = some (.if_icmp .le (19), 111, 0, 0) := by decide +kernel
theorem t81_95 : g_at 81 95 = some (.aload_n 0, 0, 0, 0) := by decide +kernel
theorem t81_96 : g_at 81 96 = some (.getfield 49, 3, 15, 0) := by decide +kernel
theorem t81_99 : g_at 81 99 = some (.iload 4, 0, 0, 0) := by decide +kernel
theorem t81_101 : g_at 81 101 = some (.iload 5, 0, 0, 0) := by decide +kernel
theorem t81_103 : g_at 81 103 = some (.iastore, 0, 0, 0) := by decide +kernel
theorem t81_104 : g_at 81 104 = some (.iload_n 2, 0, 0, 0) := by decide +kernel
theorem t81_105 : g_at 81 105 = some (.iload 5, 0, 0, 0) := by decide +kernel
theorem t81_107 : g_at 81 107 = some (.invokestatic 208, 998, 2, 0) := by decide +kernel
theorem t81_110 : g_at 81 110 = some (.istore_n 2, 0, 0, 0) := by decide +kernel
theorem t81_111 : g_at 81 111 = some (.iinc 3 (1), 0, 0, 1) := by decide +kernel
theorem t81_114 : g_at 81 114 = some (.goto (-110), 4, 0, 0) := by decide +kernel
theorem t81_117 : g_at 81 117 = some (.iload_n 2, 0, 0, 0) := by decide +kernel
theorem t81_118 : g_at 81 118 = some (.ireturn, 0, 0, 0) := by decide +kernel
theorem t82_0 : g_at 82 0 = some (.aload_n 0, 0, 0, 0) := by decide +kernel
theorem t82_1 : g_at 82 1 = some (.getfield 26, 3, 2, 0) := by decide +kernel
theorem t82_4 : g_at 82 4 = some (.invokevirtual 166, 35, 0, 0) := by decide +kernel
theorem t82_7 : g_at 82 7 = some (.istore_n 1, 0, 0, 0) := by decide +kernel
theorem t82_8 : g_at 82 8 = some (.iconst 0, 0, 0, 0) := by decide +kernel
theorem t82_9 : g_at 82 9 = some (.istore_n 2, 0, 0, 0) := by decide +kernel
theorem t82_10 : g_at 82 10 = some (.iconst 0, 0, 0, 0) := by decide +kernel
theorem t82_11 : g_at 82 11 = some (.istore_n 3, 0, 0, 0) := by decide +kernel
theorem t82_12 : g_at 82 12 = some (.iload_n 3, 0, 0, 0) := by decide +kernel
theorem t82_13 : g_at 82 13 = some (.iload_n 2, 0, 0, 0) := by decide +kernel
theorem t82_14 : g_at 82 14 = some (.if_icmp .gt (53), 67, 0, 0) := by decide +kernel
theorem t82_17 : g_at 82 17 = some (.iload_n 3, 0, 0, 0) := by decide +kernel
theorem t82_18 : g_at 82 18 = some (.sipush (2295), 0, 0, 2295) := by decide +kernel
theorem t82_21 : g_at 82 21 = some (.if_icmp .gt (46), 67, 0, 0) := by decide +kernel
theorem t82_24 : g_at 82 24 = some (.iconst 0, 0, 0, 0) := by decide +kernel
theorem t82_25 : g_at 82 25 = some (.istore 4, 0, 0, 0) := by decide +kernel
theorem t82_27 : g_at 82 27 = some (.iload 4, 0, 0, 0) := by decide +kernel
theorem t82_29 : g_at 82 29 = some (.iload_n 1, 0, 0, 0) := by decide +kernel
theorem t82_30 : g_at 82 30 = some (.if_icmp .gt (31), 61, 0, 0) := by decide +kernel
theorem t82_33 : g_at 82 33 = some (.aload_n 0, 0, 0, 0) := by decide +kernel
theorem t82_34 : g_at 82 34 = some (.getfield 49, 3, 15, 0) := by decide +kernel
theorem t82_37 : g_at 82 37 = some (.iload 4, 0, 0, 0) := by decide +kernel
theorem t82_39 : g_at 82 39 = some (.iaload, 0, 0, 0) := by decide +kernel
theorem t82_40 : g_at 82 40 = some (.iload_n 3, 0, 0, 0) := by decide +kernel
theorem t82_41 : g_at 82 41 = some (.if_icmp .ne (14), 55, 0, 0) := by decide +kernel
theorem t82_44 : g_at 82 44 = some (.iload_n 2, 0, 0, 0) := by decide +kernel
theorem t82_45 : g_at 82 45 = some (.aload_n 0, 0, 0, 0) := by decide +kernel
theorem t82_46 : g_at 82 46 = some (.iload 4, 0, 0, 0) := by decide +kernel
theorem t82_48 : g_at 82 48 = some (.invokevirtual 230, 81, 1, 0) := by decide +kernel
theorem t82_51 : g_at 82 51 = some (.invokestatic 208, 998, 2, 0) := by decide +kernel
theorem t82_54 : g_at 82 54 = some (.istore_n 2, 0, 0, 0) := by decide +kernel
theorem t82_55 : g_at 82 55 = some (.iinc 4 (1), 0, 0, 1) := by decide +kernel
theorem t82_58 : g_at 82 58 = some (.goto (-31), 27, 0, 0) := by decide +kernel
theorem t82_61 : g_at 82 61 = some (.iinc 3 (1), 0, 0, 1) := by decide +kernel
theorem t82_64 : g_at 82 64 = some (.goto (-52), 12, 0, 0) := by decide +kernel
theorem t82_67 : g_at 82 67 = some (.return_, 0, 0, 0) := by decide +kernel
theorem t83_0 : g_at 83 0 = some (.aload_n 0, 0, 0, 0) := by decide +kernel
theorem t83_1 : g_at 83 1 = some (.getfield 26, 3, 2, 0) := by decide +kernel
theorem t83_4 : g_at 83 4 = some (.invokevirtual 166, 35, 0, 0) := by decide +kernel
theorem t83_7 : g_at 83 7 = some (.istore 5, 0, 0, 0) := by decide +kernel
theorem t83_9 : g_at 83 9 = some (.iconst 0, 0, 0, 0) := by decide +kernel
theorem t83_10 : g_at 83 10 = some (.istore 6, 0, 0, 0) := by decide +kernel
theorem t83_12 : g_at 83 12 = some (.iload 6, 0, 0, 0) := by decide +kernel
theorem t83_14 : g_at 83 14 = some (.iload 5, 0, 0, 0) := by decide +kernel
theorem t83_16 : g_at 83 16 = some (.if_icmp .gt (96), 112, 0, 0) := by decide +kernel
theorem t83_19 : g_at 83 19 = some (.aload_n 0, 0, 0, 0) := by decide +kernel
theorem t83_20 : g_at 83 20 = some (.getfield 26, 3, 2, 0) := by decide +kernel
theorem t83_23 : g_at 83 23 = some (.getfield 118, 1, 10, 0) := by decide +kernel
theorem t83_26 : g_at 83 26 = some (.iload 6, 0, 0, 0) := by decide +kernel
theorem t83_28 : g_at 83 28 = some (.iaload, 0, 0, 0) := by decide +kernel
theorem t83_29 : g_at 83 29 = some (.istore 7, 0, 0, 0) := by decide +kernel
theorem t83_31 : g_at 83 31 = some (.iload 6, 0, 0, 0) := by decide +kernel
theorem t83_33 : g_at 83 33 = some (.iload_n 1, 0, 0, 0) := by decide +kernel
theorem t83_34 : g_at 83 34 = some (.iand, 0, 0, 0) := by decide +kernel
theorem t83_35 : g_at 83 35 = some (.iload_n 2, 0, 0, 0) := by decide +kernel
theorem t83_36 : g_at 83 36 = some (.if_icmp .ne (50), 86, 0, 0) := by decide +kernel
theorem t83_39 : g_at 83 39 = some (.aload_n 0, 0, 0, 0) := by decide +kernel
theorem t83_40 : g_at 83 40 = some (.getfield 26, 3, 2, 0) := by decide +kernel
theorem t83_43 : g_at 83 43 = some (.getfield 121, 1, 11, 0) := by decide +kernel
theorem t83_46 : g_at 83 46 = some (.iload 6, 0, 0, 0) := by decide +kernel
theorem t83_48 : g_at 83 48 = some (.iaload, 0, 0, 0) := by decide +kernel
theorem t83_49 : g_at 83 49 = some (.iload 7, 0, 0, 0) := by decide +kernel
theorem t83_51 : g_at 83 51 = some (.iconst (-1), 0, 0, (-1)) := by decide +kernel
theorem t83_52 : g_at 83 52 = some (.ixor, 0, 0, 0) := by decide +kernel
theorem t83_53 : g_at 83 53 = some (.iand, 0, 0, 0) := by decide +kernel
theorem t83_54 : g_at 83 54 = some (.iload_n 3, 0, 0, 0) := by decide +kernel
theorem t83_55 : g_at 83 55 = some (.iand, 0, 0, 0) := by decide +kernel
theorem t83_56 : g_at 83 56 = some (.iload_n 3, 0, 0, 0) := by decide +kernel
theorem t83_57 : g_at 83 57 = some (.if_icmp .ne (29), 86, 0, 0) := by decide +kernel
theorem t83_60 : g_at 83 60 = some (.iload 7, 0, 0, 0) := by decide +kernel
theorem t83_62 : g_at 83 62 = some (.iload 4, 0, 0, 0) := by decide +kernel
theorem t83_64 : g_at 83 64 = some (.iand, 0, 0, 0) := by decide +kernel
theorem t83_65 : g_at 83 65 = some (.iload 4, 0, 0, 0) := by decide +kernel
theorem t83_67 : g_at 83 67 = some (.if_icmp .ne (19), 86, 0, 0) := by decide +kernel
theorem t83_70 : g_at 83 70 = some (.aload_n 0, 0, 0, 0) := by decide +kernel
theorem t83_71 : g_at 83 71 = some (.getfield 26, 3, 2, 0) := by decide +kernel
theorem t83_74 : g_at 83 74 = some (.iload 6, 0, 0, 0) := by decide +kernel
theorem t83_76 : g_at 83 76 = some (.invokevirtual 76, 44, 1, 0) := by decide +kernel
theorem t83_79 : g_at 83 79 = some (.ifCond .eq (7), 86, 0, 0) := by decide +kernel
theorem t83_82 : g_at 83 82 = some (.iconst 1, 0, 0, 1) := by decide +kernel
theorem t83_83 : g_at 83 83 = some (.goto (4), 87, 0, 0) := by decide +kernel
theorem t83_86 : g_at 83 86 = some (.iconst 0, 0, 0, 0) := by decide +kernel
theorem t83_87 : g_at 83 87 = some (.istore 8, 0, 0, 0) := by decide +kernel
theorem t83_89 : g_at 83 89 = some (.aload_n 0, 0, 0, 0) := by decide +kernel
theorem t83_90 : g_at 83 90 = some (.getfield 49, 3, 15, 0) := by decide +kernel
theorem t83_93 : g_at 83 93 = some (.iload 6, 0, 0, 0) := by decide +kernel
theorem t83_95 : g_at 83 95 = some (.iload 8, 0, 0, 0) := by decide +kernel
theorem t83_97 : g_at 83 97 = some (.ifCond .eq (7), 104, 0, 0) := by decide +kernel
theorem t83_100 : g_at 83 100 = some (.iconst 0, 0, 0, 0) := by decide +kernel
theorem t83_101 : g_at 83 101 = some (.goto (4), 105, 0, 0) := by decide +kernel
theorem t83_104 : g_at 83 104 = some (.iconst (-1), 0, 0, (-1)) := by decide +kernel
theorem t83_105 : g_at 83 105 = some (.iastore, 0, 0, 0) := by decide +kernel
theorem t83_106 : g_at 83 106 = some (.iinc 6 (1), 0, 0, 1) := by decide +kernel
theorem t83_109 : g_at 83 109 = some (.goto (-97), 12, 0, 0) := by decide +kernel
theorem t83_112 : g_at 83 112 = some (.aload_n 0, 0, 0, 0) := by decide +kernel
theorem t83_113 : g_at 83 113 = some (.invokevirtual 227, 82, 0, 0) := by decide +kernel
theorem t83_116 : g_at 83 116 = some (.return_, 0, 0, 0) := by decide +kernel
theorem t84_0 : g_at 84 0 = some (.aload_n 0, 0, 0, 0) := by decide +kernel
theorem t84_1 : g_at 84 1 = some (.aload_n 0, 0, 0, 0) := by decide +kernel
theorem t84_2 : g_at 84 2 = some (.getfield 26, 3, 2, 0) := by decide +kernel
theorem t84_5 : g_at 84 5 = some (.invokevirtual 166, 35, 0, 0) := by decide +kernel
theorem t84_8 : g_at 84 8 = some (.aload_n 0, 0, 0, 0) := by decide +kernel
theorem t84_9 : g_at 84 9 = some (.getfield 95, 3, 4, 0) := by decide +kernel
theorem t84_12 : g_at 84 12 = some (.iconst 0, 0, 0, 0) := by decide +kernel
theorem t84_13 : g_at 84 13 = some (.iconst 0, 0, 0, 0) := by decide +kernel
theorem t84_14 : g_at 84 14 = some (.invokevirtual 169, 83, 4, 0) := by decide +kernel
theorem t84_17 : g_at 84 17 = some (.iconst 0, 0, 0, 0) := by decide +kernel
theorem t84_18 : g_at 84 18 = some (.istore_n 1, 0, 0, 0) := by decide +kernel
theorem t84_19 : g_at 84 19 = some (.iconst 0, 0, 0, 0) := by decide +kernel
theorem t84_20 : g_at 84 20 = some (.istore_n 2, 0, 0, 0) := by decide +kernel
theorem t84_21 : g_at 84 21 = some (.iload_n 2, 0, 0, 0) := by decide +kernel
theorem t84_22 : g_at 84 22 = some (.aload_n 0, 0, 0, 0) := by decide +kernel
theorem t84_23 : g_at 84 23 = some (.getfield 26, 3, 2, 0) := by decide +kernel
theorem t84_26 : g_at 84 26 = some (.invokevirtual 166, 35, 0, 0) := by decide +kernel
theorem t84_29 : g_at 84 29 = some (.if_icmp .gt (22), 51, 0, 0) := by decide +kernel
theorem t84_32 : g_at 84 32 = some (.aload_n 0, 0, 0, 0) := by decide +kernel
theorem t84_33 : g_at 84 33 = some (.getfield 49, 3, 15, 0) := by decide +kernel
theorem t84_36 : g_at 84 36 = some (.iload_n 2, 0, 0, 0) := by decide +kernel
theorem t84_37 : g_at 84 37 = some (.iaload, 0, 0, 0) := by decide +kernel
theorem t84_38 : g_at 84 38 = some (.iconst (-1), 0, 0, (-1)) := by decide +kernel
theorem t84_39 : g_at 84 39 = some (.if_icmp .eq (6), 45, 0, 0) := by decide +kernel
theorem t84_42 : g_at 84 42 = some (.iinc 1 (1), 0, 0, 1) := by decide +kernel
theorem t84_45 : g_at 84 45 = some (.iinc 2 (1), 0, 0, 1) := by decide +kernel
theorem t84_48 : g_at 84 48 = some (.goto (-27), 21, 0, 0) := by decide +kernel
theorem t84_51 : g_at 84 51 = some (.iload_n 1, 0, 0, 0) := by decide +kernel
theorem t84_52 : g_at 84 52 = some (.ireturn, 0, 0, 0) := by decide +kernel
theorem t85_0 : g_at 85 0 = some (.aload_n 0, 0, 0, 0) := by decide +kernel
theorem t85_1 : g_at 85 1 = some (.aload_n 0, 0, 0, 0) := by decide +kernel
theorem t85_2 : g_at 85 2 = some (.getfield 26, 3, 2, 0) := by decide +kernel
theorem t85_5 : g_at 85 5 = some (.invokevirtual 166, 35, 0, 0) := by decide +kernel
theorem t85_8 : g_at 85 8 = some (.aload_n 0, 0, 0, 0) := by decide +kernel
theorem t85_9 : g_at 85 9 = some (.getfield 95, 3, 4, 0) := by decide +kernel
theorem t85_12 : g_at 85 12 = some (.iconst 0, 0, 0, 0) := by decide +kernel
theorem t85_13 : g_at 85 13 = some (.iconst 0, 0, 0, 0) := by decide +kernel
theorem t85_14 : g_at 85 14 = some (.invokevirtual 169, 83, 4, 0) := by decide +kernel
theorem t85_17 : g_at 85 17 = some (.iconst 0, 0, 0, 0) := by decide +kernel
theorem t85_18 : g_at 85 18 = some (.istore_n 1, 0, 0, 0) := by decide +kernel
theorem t85_19 : g_at 85 19 = some (.iconst 0, 0, 0, 0) := by decide +kernel
theorem t85_20 : g_at 85 20 = some (.istore_n 2, 0, 0, 0) := by decide +kernel
theorem t85_21 : g_at 85 21 = some (.iload_n 2, 0, 0, 0) := by decide +kernel
theorem t85_22 : g_at 85 22 = some (.aload_n 0, 0, 0, 0) := by decide +kernel
theorem t85_23 : g_at 85 23 = some (.getfield 26, 3, 2, 0) := by decide +kernel
theorem t85_26 : g_at 85 26 = some (.invokevirtual 166, 35, 0, 0) := by decide +kernel
theorem t85_29 : g_at 85 29 = some (.if_icmp .gt (20), 49, 0, 0) := by decide +kernel
theorem t85_32 : g_at 85 32 = some (.iload_n 1, 0, 0, 0) := by decide +kernel
theorem t85_33 : g_at 85 33 = some (.aload_n 0, 0, 0, 0) := by decide +kernel
theorem t85_34 : g_at 85 34 = some (.getfield 49, 3, 15, 0) := by decide +kernel
theorem t85_37 : g_at 85 37 = some (.iload_n 2, 0, 0, 0) := by decide +kernel
theorem t85_38 : g_at 85 38 = some (.iaload, 0, 0, 0) := by decide +kernel
theorem t85_39 : g_at 85 39 = some (.invokestatic 208, 998, 2, 0) := by decide +kernel
theorem t85_42 : g_at 85 42 = some (.istore_n 1, 0, 0, 0) := by decide +kernel
theorem t85_43 : g_at 85 43 = some (.iinc 2 (1), 0, 0, 1) := by decide +kernel
theorem t85_46 : g_at 85 46 = some (.goto (-25), 21, 0, 0) := by decide +kernel
theorem t85_49 : g_at 85 49 = some (.iload_n 1, 0, 0, 0) := by decide +kernel
theorem t85_50 : g_at 85 50 = some (.ireturn, 0, 0, 0) := by decide +kernel
theorem t86_0 : g_at 86 0 = some (.iload_n 1, 0, 0, 0) := by decide +kernel
theorem t86_1 : g_at 86 1 = some (.tableswitch (135) (0) (8) #[51, 56, 69, 82, 103, 108, 120, 125, 130], 0, 0, 0) := by decide +kernel
theorem t86_52 : g_at 86 52 = some (.aload_n 0, 0, 0, 0) := by decide +kernel
theorem t86_53 : g_at 86 53 = some (.getfield 95, 3, 4, 0) := by decide +kernel
theorem t86_56 : g_at 86 56 = some (.ireturn, 0, 0, 0) := by decide +kernel
theorem t86_57 : g_at 86 57 = some (.aload_n 0, 0, 0, 0) := by decide +kernel
theorem t86_58 : g_at 86 58 = some (.getfield 26, 3, 2, 0) := by decide +kernel
theorem t86_61 : g_at 86 61 = some (.getfield 118, 1, 10, 0) := by decide +kernel
theorem t86_64 : g_at 86 64 = some (.aload_n 0, 0, 0, 0) := by decide +kernel
theorem t86_65 : g_at 86 65 = some (.getfield 95, 3, 4, 0) := by decide +kernel
theorem t86_68 : g_at 86 68 = some (.iaload, 0, 0, 0) := by decide +kernel
theorem t86_69 : g_at 86 69 = some (.ireturn, 0, 0, 0) := by decide +kernel
theorem t86_70 : g_at 86 70 = some (.aload_n 0, 0, 0, 0) := by decide +kernel
theorem t86_71 : g_at 86 71 = some (.getfield 26, 3, 2, 0) := by decide +kernel
theorem t86_74 : g_at 86 74 = some (.getfield 121, 1, 11, 0) := by decide +kernel
theorem t86_77 : g_at 86 77 = some (.aload_n 0, 0, 0, 0) := by decide +kernel
theorem t86_78 : g_at 86 78 = some (.getfield 95, 3, 4, 0) := by decide +kernel
theorem t86_81 : g_at 86 81 = some (.iaload, 0, 0, 0) := by decide +kernel
theorem t86_82 : g_at 86 82 = some (.ireturn, 0, 0, 0) := by decide +kernel
theorem t86_83 : g_at 86 83 = some (.aload_n 0, 0, 0, 0) := by decide +kernel
theorem t86_84 : g_at 86 84 = some (.getfield 26, 3, 2, 0) := by decide +kernel
theorem t86_87 : g_at 86 87 = some (.getfield 118, 1, 10, 0) := by decide +kernel
theorem t86_90 : g_at 86 90 = some (.aload_n 0, 0, 0, 0) := by decide +kernel
theorem t86_91 : g_at 86 91 = some (.getfield 95, 3, 4, 0) := by decide +kernel
theorem t86_94 : g_at 86 94 = some (.iaload, 0, 0, 0) := by decide +kernel
theorem t86_95 : g_at 86 95 = some (.aload_n 0, 0, 0, 0) := by decide +kernel
theorem t86_96 : g_at 86 96 = some (.getfield 26, 3, 2, 0) := by decide +kernel
theorem t86_99 : g_at 86 99 = some (.getfield 130, 1, 2, 0) := by decide +kernel
theorem t86_102 : g_at 86 102 = some (.iand, 0, 0, 0) := by decide +kernel
theorem t86_103 : g_at 86 103 = some (.ireturn, 0, 0, 0) := by decide +kernel
theorem t86_104 : g_at 86 104 = some (.aload_n 0, 0, 0, 0) := by decide +kernel
theorem t86_105 : g_at 86 105 = some (.invokevirtual 133, 79, 0, 0) := by decide +kernel
theorem t86_108 : g_at 86 108 = some (.ireturn, 0, 0, 0) := by decide +kernel
theorem t86_109 : g_at 86 109 = some (.aload_n 0, 0, 0, 0) := by decide +kernel
theorem t86_110 : g_at 86 110 = some (.getfield 26, 3, 2, 0) := by decide +kernel
theorem t86_113 : g_at 86 113 = some (.aload_n 0, 0, 0, 0) := by decide +kernel
theorem t86_114 : g_at 86 114 = some (.getfield 95, 3, 4, 0) := by decide +kernel
theorem t86_117 : g_at 86 117 = some (.invokevirtual 137, 80, 1, 0) := by decide +kernel
theorem t86_120 : g_at 86 120 = some (.ireturn, 0, 0, 0) := by decide +kernel
theorem t86_121 : g_at 86 121 = some (.aload_n 0, 0, 0, 0) := by decide +kernel
theorem t86_122 : g_at 86 122 = some (.invokevirtual 140, 84, 0, 0) := by decide +kernel
theorem t86_125 : g_at 86 125 = some (.ireturn, 0, 0, 0) := by decide +kernel
theorem t86_126 : g_at 86 126 = some (.aload_n 0, 0, 0, 0) := by decide +kernel
theorem t86_127 : g_at 86 127 = some (.invokevirtual 143, 85, 0, 0) := by decide +kernel
theorem t86_130 : g_at 86 130 = some (.ireturn, 0, 0, 0) := by decide +kernel
theorem t86_131 : g_at 86 131 = some (.aload_n 0, 0, 0, 0) := by decide +kernel
theorem t86_132 : g_at 86 132 = some (.getfield 146, 3, 10, 0) := by decide +kernel
theorem t86_135 : g_at 86 135 = some (.ireturn, 0, 0, 0) := by decide +kernel
theorem t86_136 : g_at 86 136 = some (.iconst (-1), 0, 0, (-1)) := by decide +kernel
theorem t86_137 : g_at 86 137 = some (.ireturn, 0, 0, 0) := by decide +kernel
theorem t87_0 : g_at 87 0 = some (.iconst 0, 0, 0, 0) := by decide +kernel
theorem t87_1 : g_at 87 1 = some (.istore_n 1, 0, 0, 0) := by decide +kernel
theorem t87_2 : g_at 87 2 = some (.iconst 0, 0, 0, 0) := by decide +kernel
theorem t87_3 : g_at 87 3 = some (.istore_n 2, 0, 0, 0) := by decide +kernel
theorem t87_4 : g_at 87 4 = some (.iload_n 2, 0, 0, 0) := by decide +kernel
theorem t87_5 : g_at 87 5 = some (.aload_n 0, 0, 0, 0) := by decide +kernel
theorem t87_6 : g_at 87 6 = some (.getfield 13, 4, 8, 0) := by decide +kernel
theorem t87_9 : g_at 87 9 = some (.iconst 3, 0, 0, 3) := by decide +kernel
theorem t87_10 : g_at 87 10 = some (.iaload, 0, 0, 0) := by decide +kernel
theorem t87_11 : g_at 87 11 = some (.if_icmp .ge (33), 44, 0, 0) := by decide +kernel
theorem t87_14 : g_at 87 14 = some (.iload_n 1, 0, 0, 0) := by decide +kernel
theorem t87_15 : g_at 87 15 = some (.aload_n 0, 0, 0, 0) := by decide +kernel
theorem t87_16 : g_at 87 16 = some (.iload_n 2, 0, 0, 0) := by decide +kernel
theorem t87_17 : g_at 87 17 = some (.aload_n 0, 0, 0, 0) := by decide +kernel
theorem t87_18 : g_at 87 18 = some (.getfield 22, 4, 11, 0) := by decide +kernel
theorem t87_21 : g_at 87 21 = some (.iconst 0, 0, 0, 0) := by decide +kernel
theorem t87_22 : g_at 87 22 = some (.iaload, 0, 0, 0) := by decide +kernel
theorem t87_23 : g_at 87 23 = some (.invokevirtual 163, 70, 2, 0) := by decide +kernel
theorem t87_26 : g_at 87 26 = some (.ifCond .ne (9), 35, 0, 0) := by decide +kernel
theorem t87_29 : g_at 87 29 = some (.iconst 1, 0, 0, 1) := by decide +kernel
theorem t87_30 : g_at 87 30 = some (.iload_n 2, 0, 0, 0) := by decide +kernel
theorem t87_31 : g_at 87 31 = some (.ishl, 0, 0, 0) := by decide +kernel
theorem t87_32 : g_at 87 32 = some (.goto (4), 36, 0, 0) := by decide +kernel
theorem t87_35 : g_at 87 35 = some (.iconst 0, 0, 0, 0) := by decide +kernel
theorem t87_36 : g_at 87 36 = some (.ior, 0, 0, 0) := by decide +kernel
theorem t87_37 : g_at 87 37 = some (.istore_n 1, 0, 0, 0) := by decide +kernel
theorem t87_38 : g_at 87 38 = some (.iinc 2 (1), 0, 0, 1) := by decide +kernel
theorem t87_41 : g_at 87 41 = some (.goto (-37), 4, 0, 0) := by decide +kernel
theorem t87_44 : g_at 87 44 = some (.iload_n 1, 0, 0, 0) := by decide +kernel
theorem t87_45 : g_at 87 45 = some (.ireturn, 0, 0, 0) := by decide +kernel
theorem t88_0 : g_at 88 0 = some (.aload_n 0, 0, 0, 0) := by decide +kernel
theorem t88_1 : g_at 88 1 = some (.aload_n 0, 0, 0, 0) := by decide +kernel
theorem t88_2 : g_at 88 2 = some (.getfield 13, 4, 8, 0) := by decide +kernel
theorem t88_5 : g_at 88 5 = some (.aload_n 0, 0, 0, 0) := by decide +kernel
theorem t88_6 : g_at 88 6 = some (.getfield 22, 4, 11, 0) := by decide +kernel
theorem t88_9 : g_at 88 9 = some (.iconst 0, 0, 0, 0) := by decide +kernel
theorem t88_10 : g_at 88 10 = some (.iaload, 0, 0, 0) := by decide +kernel
theorem t88_11 : g_at 88 11 = some (.invokevirtual 150, 59, 2, 0) := by decide +kernel
theorem t88_14 : g_at 88 14 = some (.iconst 0, 0, 0, 0) := by decide +kernel
theorem t88_15 : g_at 88 15 = some (.istore_n 1, 0, 0, 0) := by decide +kernel
theorem t88_16 : g_at 88 16 = some (.iconst 0, 0, 0, 0) := by decide +kernel
theorem t88_17 : g_at 88 17 = some (.istore_n 2, 0, 0, 0) := by decide +kernel
theorem t88_18 : g_at 88 18 = some (.iload_n 2, 0, 0, 0) := by decide +kernel
theorem t88_19 : g_at 88 19 = some (.aload_n 0, 0, 0, 0) := by decide +kernel
theorem t88_20 : g_at 88 20 = some (.getfield 13, 4, 8, 0) := by decide +kernel
theorem t88_23 : g_at 88 23 = some (.iconst 0, 0, 0, 0) := by decide +kernel
theorem t88_24 : g_at 88 24 = some (.iaload, 0, 0, 0) := by decide +kernel
theorem t88_25 : g_at 88 25 = some (.if_icmp .ge (27), 52, 0, 0) := by decide +kernel
theorem t88_28 : g_at 88 28 = some (.iload_n 1, 0, 0, 0) := by decide +kernel
theorem t88_29 : g_at 88 29 = some (.aload_n 0, 0, 0, 0) := by decide +kernel
theorem t88_30 : g_at 88 30 = some (.getfield 44, 4, 21, 0) := by decide +kernel
theorem t88_33 : g_at 88 33 = some (.iload_n 2, 0, 0, 0) := by decide +kernel
theorem t88_34 : g_at 88 34 = some (.iaload, 0, 0, 0) := by decide +kernel
theorem t88_35 : g_at 88 35 = some (.iload_n 2, 0, 0, 0) := by decide +kernel
theorem t88_36 : g_at 88 36 = some (.if_icmp .ne (7), 43, 0, 0) := by decide +kernel
theorem t88_39 : g_at 88 39 = some (.iconst 1, 0, 0, 1) := by decide +kernel
theorem t88_40 : g_at 88 40 = some (.goto (4), 44, 0, 0) := by decide +kernel
theorem t88_43 : g_at 88 43 = some (.iconst 0, 0, 0, 0) := by decide +kernel
theorem t88_44 : g_at 88 44 = some (.iadd, 0, 0, 0) := by decide +kernel
theorem t88_45 : g_at 88 45 = some (.istore_n 1, 0, 0, 0) := by decide +kernel
theorem t88_46 : g_at 88 46 = some (.iinc 2 (1), 0, 0, 1) := by decide +kernel
theorem t88_49 : g_at 88 49 = some (.goto (-31), 18, 0, 0) := by decide +kernel
theorem t88_52 : g_at 88 52 = some (.iload_n 1, 0, 0, 0) := by decide +kernel
theorem t88_53 : g_at 88 53 = some (.ireturn, 0, 0, 0) := by decide +kernel
theorem t89_0 : g_at 89 0 = some (.iconst 1, 0, 0, 1) := by decide +kernel
theorem t89_1 : g_at 89 1 = some (.aload_n 0, 0, 0, 0) := by decide +kernel
theorem t89_2 : g_at 89 2 = some (.getfield 13, 4, 8, 0) := by decide +kernel
theorem t89_5 : g_at 89 5 = some (.iconst 3, 0, 0, 3) := by decide +kernel
theorem t89_6 : g_at 89 6 = some (.iaload, 0, 0, 0) := by decide +kernel
theorem t89_7 : g_at 89 7 = some (.ishl, 0, 0, 0) := by decide +kernel
theorem t89_8 : g_at 89 8 = some (.ireturn, 0, 0, 0) := by decide +kernel
theorem t90_0 : g_at 90 0 = some (.iconst 0, 0, 0, 0) := by decide +kernel
theorem t90_1 : g_at 90 1 = some (.istore_n 1, 0, 0, 0) := by decide +kernel
theorem t90_2 : g_at 90 2 = some (.iload_n 1, 0, 0, 0) := by decide +kernel
theorem t90_3 : g_at 90 3 = some (.aload_n 0, 0, 0, 0) := by decide +kernel
theorem t90_4 : g_at 90 4 = some (.invokevirtual 183, 89, 0, 0) := by decide +kernel
theorem t90_7 : g_at 90 7 = some (.if_icmp .ge (52), 59, 0, 0) := by decide +kernel
theorem t90_10 : g_at 90 10 = some (.iconst 0, 0, 0, 0) := by decide +kernel
theorem t90_11 : g_at 90 11 = some (.istore_n 2, 0, 0, 0) := by decide +kernel
theorem t90_12 : g_at 90 12 = some (.iload_n 2, 0, 0, 0) := by decide +kernel
theorem t90_13 : g_at 90 13 = some (.aload_n 0, 0, 0, 0) := by decide +kernel
theorem t90_14 : g_at 90 14 = some (.getfield 13, 4, 8, 0) := by decide +kernel
theorem t90_17 : g_at 90 17 = some (.iconst 3, 0, 0, 3) := by decide +kernel
theorem t90_18 : g_at 90 18 = some (.iaload, 0, 0, 0) := by decide +kernel
theorem t90_19 : g_at 90 19 = some (.if_icmp .ge (34), 53, 0, 0) := by decide +kernel
theorem t90_22 : g_at 90 22 = some (.aload_n 0, 0, 0, 0) := by decide +kernel
theorem t90_23 : g_at 90 23 = some (.getfield 53, 4, 24, 0) := by decide +kernel
theorem t90_26 : g_at 90 26 = some (.bipush (8), 0, 0, 8) := by decide +kernel
theorem t90_28 : g_at 90 28 = some (.iload_n 1, 0, 0, 0) := by decide +kernel
theorem t90_29 : g_at 90 29 = some (.imul, 0, 0, 0) := by decide +kernel
theorem t90_30 : g_at 90 30 = some (.iload_n 2, 0, 0, 0) := by decide +kernel
theorem t90_31 : g_at 90 31 = some (.iadd, 0, 0, 0) := by decide +kernel
theorem t90_32 : g_at 90 32 = some (.aload_n 0, 0, 0, 0) := by decide +kernel
theorem t90_33 : g_at 90 33 = some (.iload_n 2, 0, 0, 0) := by decide +kernel
theorem t90_34 : g_at 90 34 = some (.iload_n 1, 0, 0, 0) := by decide +kernel
theorem t90_35 : g_at 90 35 = some (.invokevirtual 163, 70, 2, 0) := by decide +kernel
theorem t90_38 : g_at 90 38 = some (.ifCond .ne (7), 45, 0, 0) := by decide +kernel
theorem t90_41 : g_at 90 41 = some (.iconst 1, 0, 0, 1) := by decide +kernel
theorem t90_42 : g_at 90 42 = some (.goto (4), 46, 0, 0) := by decide +kernel
theorem t90_45 : g_at 90 45 = some (.iconst 0, 0, 0, 0) := by decide +kernel
theorem t90_46 : g_at 90 46 = some (.bastore, 0, 0, 0) := by decide +kernel
theorem t90_47 : g_at 90 47 = some (.iinc 2 (1), 0, 0, 1) := by decide +kernel
theorem t90_50 : g_at 90 50 = some (.goto (-38), 12, 0, 0) := by decide +kernel
theorem t90_53 : g_at 90 53 = some (.iinc 1 (1), 0, 0, 1) := by decide +kernel
theorem t90_56 : g_at 90 56 = some (.goto (-54), 2, 0, 0) := by decide +kernel
theorem t90_59 : g_at 90 59 = some (.return_, 0, 0, 0) := by decide +kernel
theorem t91_0 : g_at 91 0 = some (.aload_n 0, 0, 0, 0) := by decide +kernel
theorem t91_1 : g_at 91 1 = some (.getfield 22, 4, 11, 0) := by decide +kernel
theorem t91_4 : g_at 91 4 = some (.iconst 2, 0, 0, 2) := by decide +kernel
theorem t91_5 : g_at 91 5 = some (.aload_n 0, 0, 0, 0) := by decide +kernel
theorem t91_6 : g_at 91 6 = some (.getfield 13, 4, 8, 0) := by decide +kernel
theorem t91_9 : g_at 91 9 = some (.iconst 4, 0, 0, 4) := by decide +kernel
theorem t91_10 : g_at 91 10 = some (.iload_n 1, 0, 0, 0) := by decide +kernel
theorem t91_11 : g_at 91 11 = some (.iadd, 0, 0, 0) := by decide +kernel
theorem t91_12 : g_at 91 12 = some (.iaload, 0, 0, 0) := by decide +kernel
theorem t91_13 : g_at 91 13 = some (.iadd, 0, 0, 0) := by decide +kernel
theorem t91_14 : g_at 91 14 = some (.iaload, 0, 0, 0) := by decide +kernel
theorem t91_15 : g_at 91 15 = some (.ireturn, 0, 0, 0) := by decide +kernel
theorem t92_0 : g_at 92 0 = some (.aload_n 0, 0, 0, 0) := by decide +kernel
theorem t92_1 : g_at 92 1 = some (.invokevirtual 186, 90, 0, 0) := by decide +kernel
theorem t92_4 : g_at 92 4 = some (.iconst 0, 0, 0, 0) := by decide +kernel
theorem t92_5 : g_at 92 5 = some (.istore_n 2, 0, 0, 0) := by decide +kernel
theorem t92_6 : g_at 92 6 = some (.iload_n 2, 0, 0, 0) := by decide +kernel
theorem t92_7 : g_at 92 7 = some (.aload_n 0, 0, 0, 0) := by decide +kernel
theorem t92_8 : g_at 92 8 = some (.invokevirtual 183, 89, 0, 0) := by decide +kernel
theorem t92_11 : g_at 92 11 = some (.if_icmp .ge (31), 42, 0, 0) := by decide +kernel
theorem t92_14 : g_at 92 14 = some (.aload_n 0, 0, 0, 0) := by decide +kernel
theorem t92_15 : g_at 92 15 = some (.getfield 47, 4, 22, 0) := by decide +kernel
theorem t92_18 : g_at 92 18 = some (.iload_n 2, 0, 0, 0) := by decide +kernel
theorem t92_19 : g_at 92 19 = some (.iload_n 2, 0, 0, 0) := by decide +kernel
theorem t92_20 : g_at 92 20 = some (.aload_n 0, 0, 0, 0) := by decide +kernel
theorem t92_21 : g_at 92 21 = some (.getfield 22, 4, 11, 0) := by decide +kernel
theorem t92_24 : g_at 92 24 = some (.iconst 0, 0, 0, 0) := by decide +kernel
theorem t92_25 : g_at 92 25 = some (.iaload, 0, 0, 0) := by decide +kernel
theorem t92_26 : g_at 92 26 = some (.if_icmp .ne (7), 33, 0, 0) := by decide +kernel
theorem t92_29 : g_at 92 29 = some (.iconst 0, 0, 0, 0) := by decide +kernel
theorem t92_30 : g_at 92 30 = some (.goto (5), 35, 0, 0) := by decide +kernel
theorem t92_33 : g_at 92 33 = some (.ldc 189, 0, 0, 99999) := by decide +kernel
theorem t92_35 : g_at 92 35 = some (.iastore, 0, 0, 0) := by decide +kernel
theorem t92_36 : g_at 92 36 = some (.iinc 2 (1), 0, 0, 1) := by decide +kernel
theorem t92_39 : g_at 92 39 = some (.goto (-33), 6, 0, 0) := by decide +kernel
theorem t92_42 : g_at 92 42 = some (.iconst 1, 0, 0, 1) := by decide +kernel
theorem t92_43 : g_at 92 43 = some (.istore_n 2, 0, 0, 0) := by decide +kernel
theorem t92_44 : g_at 92 44 = some (.iload_n 2, 0, 0, 0) := by decide +kernel
theorem t92_45 : g_at 92 45 = some (.ifCond .eq (159), 204, 0, 0) := by decide +kernel
theorem t92_48 : g_at 92 48 = some (.iconst 0, 0, 0, 0) := by decide +kernel
theorem t92_49 : g_at 92 49 = some (.istore_n 2, 0, 0, 0) := by decide +kernel
theorem t92_50 : g_at 92 50 = some (.iconst 0, 0, 0, 0) := by decide +kernel
theorem t92_51 : g_at 92 51 = some (.istore_n 3, 0, 0, 0) := by decide +kernel
theorem t92_52 : g_at 92 52 = some (.iload_n 3, 0, 0, 0) := by decide +kernel
theorem t92_53 : g_at 92 53 = some (.aload_n 0, 0, 0, 0) := by decide +kernel
theorem t92_54 : g_at 92 54 = some (.invokevirtual 183, 89, 0, 0) := by decide +kernel
theorem t92_57 : g_at 92 57 = some (.if_icmp .ge (144), 201, 0, 0) := by decide +kernel
theorem t92_60 : g_at 92 60 = some (.iconst 0, 0, 0, 0) := by decide +kernel
theorem t92_61 : g_at 92 61 = some (.istore 4, 0, 0, 0) := by decide +kernel
theorem t92_63 : g_at 92 63 = some (.iload 4, 0, 0, 0) := by decide +kernel
theorem t92_65 : g_at 92 65 = some (.aload_n 0, 0, 0, 0) := by decide +kernel
theorem t92_66 : g_at 92 66 = some (.getfield 13, 4, 8, 0) := by decide +kernel
theorem t92_69 : g_at 92 69 = some (.iconst 3, 0, 0, 3) := by decide +kernel
theorem t92_70 : g_at 92 70 = some (.iaload, 0, 0, 0) := by decide +kernel
theorem t92_71 : g_at 92 71 = some (.if_icmp .ge (124), 195, 0, 0) := by decide +kernel
theorem t92_74 : g_at 92 74 = some (.aload_n 0, 0, 0, 0) := by decide +kernel
theorem t92_75 : g_at 92 75 = some (.getfield 47, 4, 22, 0) := by decide +kernel
theorem t92_78 : g_at 92 78 = some (.iload_n 3, 0, 0, 0) := by decide +kernel
theorem t92_79 : g_at 92 79 = some (.iaload, 0, 0, 0) := by decide +kernel
theorem t92_80 : g_at 92 80 = some (.ldc 189, 0, 0, 99999) := by decide +kernel
theorem t92_82 : g_at 92 82 = some (.if_icmp .ge (34), 116, 0, 0) := by decide +kernel
theorem t92_85 : g_at 92 85 = some (.aload_n 0, 0, 0, 0) := by decide +kernel
theorem t92_86 : g_at 92 86 = some (.getfield 53, 4, 24, 0) := by decide +kernel
theorem t92_89 : g_at 92 89 = some (.bipush (8), 0, 0, 8) := by decide +kernel
theorem t92_91 : g_at 92 91 = some (.iload_n 3, 0, 0, 0) := by decide +kernel
theorem t92_92 : g_at 92 92 = some (.imul, 0, 0, 0) := by decide +kernel
theorem t92_93 : g_at 92 93 = some (.iload 4, 0, 0, 0) := by decide +kernel
theorem t92_95 : g_at 92 95 = some (.iadd, 0, 0, 0) := by decide +kernel
theorem t92_96 : g_at 92 96 = some (.baload, 0, 0, 0) := by decide +kernel
theorem t92_97 : g_at 92 97 = some (.ifCond .eq (19), 116, 0, 0) := by decide +kernel
theorem t92_100 : g_at 92 100 = some (.aload_n 0, 0, 0, 0) := by decide +kernel
theorem t92_101 : g_at 92 101 = some (.getfield 47, 4, 22, 0) := by decide +kernel
theorem t92_104 : g_at 92 104 = some (.iload_n 3, 0, 0, 0) := by decide +kernel
theorem t92_105 : g_at 92 105 = some (.iaload, 0, 0, 0) := by decide +kernel
theorem t92_106 : g_at 92 106 = some (.aload_n 0, 0, 0, 0) := by decide +kernel
theorem t92_107 : g_at 92 107 = some (.iload 4, 0, 0, 0) := by decide +kernel
theorem t92_109 : g_at 92 109 = some (.invokevirtual 190, 91, 1, 0) := by decide +kernel
theorem t92_112 : g_at 92 112 = some (.iadd, 0, 0, 0) := by decide +kernel
theorem t92_113 : g_at 92 113 = some (.goto (5), 118, 0, 0) := by decide +kernel
theorem t92_116 : g_at 92 116 = some (.ldc 189, 0, 0, 99999) := by decide +kernel
theorem t92_118 : g_at 92 118 = some (.istore 5, 0, 0, 0) := by decide +kernel
theorem t92_120 : g_at 92 120 = some (.iload_n 2, 0, 0, 0) := by decide +kernel
theorem t92_121 : g_at 92 121 = some (.ifCond .ne (19), 140, 0, 0) := by decide +kernel
theorem t92_124 : g_at 92 124 = some (.iload 5, 0, 0, 0) := by decide +kernel
theorem t92_126 : g_at 92 126 = some (.aload_n 0, 0, 0, 0) := by decide +kernel
theorem t92_127 : g_at 92 127 = some (.getfield 47, 4, 22, 0) := by decide +kernel
theorem t92_130 : g_at 92 130 = some (.iload_n 3, 0, 0, 0) := by decide +kernel
theorem t92_131 : g_at 92 131 = some (.iconst 1, 0, 0, 1) := by decide +kernel
theorem t92_132 : g_at 92 132 = some (.iload 4, 0, 0, 0) := by decide +kernel
theorem t92_134 : g_at 92 134 = some (.ishl, 0, 0, 0) := by decide +kernel
theorem t92_135 : g_at 92 135 = some (.ixor, 0, 0, 0) := by decide +kernel
theorem t92_136 : g_at 92 136 = some (.iaload, 0, 0, 0) := by decide +kernel
theorem t92_137 : g_at 92 137 = some (.if_icmp .ge (7), 144, 0, 0) := by decide +kernel
theorem t92_140 : g_at 92 140 = some (.iconst 1, 0, 0, 1) := by decide +kernel
theorem t92_141 : g_at 92 141 = some (.goto (4), 145, 0, 0) := by decide +kernel
theorem t92_144 : g_at 92 144 = some (.iconst 0, 0, 0, 0) := by decide +kernel
theorem t92_145 : g_at 92 145 = some (.istore_n 2, 0, 0, 0) := by decide +kernel
theorem t92_146 : g_at 92 146 = some (.aload_n 0, 0, 0, 0) := by decide +kernel
theorem t92_147 : g_at 92 147 = some (.getfield 47, 4, 22, 0) := by decide +kernel
theorem t92_150 : g_at 92 150 = some (.iload_n 3, 0, 0, 0) := by decide +kernel
theorem t92_151 : g_at 92 151 = some (.iconst 1, 0, 0, 1) := by decide +kernel
theorem t92_152 : g_at 92 152 = some (.iload 4, 0, 0, 0) := by decide +kernel
theorem t92_154 : g_at 92 154 = some (.ishl, 0, 0, 0) := by decide +kernel
theorem t92_155 : g_at 92 155 = some (.ixor, 0, 0, 0) := by decide +kernel
theorem t92_156 : g_at 92 156 = some (.iload 5, 0, 0, 0) := by decide +kernel
theorem t92_158 : g_at 92 158 = some (.aload_n 0, 0, 0, 0) := by decide +kernel
theorem t92_159 : g_at 92 159 = some (.getfield 47, 4, 22, 0) := by decide +kernel
theorem t92_162 : g_at 92 162 = some (.iload_n 3, 0, 0, 0) := by decide +kernel
theorem t92_163 : g_at 92 163 = some (.iconst 1, 0, 0, 1) := by decide +kernel
theorem t92_164 : g_at 92 164 = some (.iload 4, 0, 0, 0) := by decide +kernel
theorem t92_166 : g_at 92 166 = some (.ishl, 0, 0, 0) := by decide +kernel
theorem t92_167 : g_at 92 167 = some (.ixor, 0, 0, 0) := by decide +kernel
theorem t92_168 : g_at 92 168 = some (.iaload, 0, 0, 0) := by decide +kernel
theorem t92_169 : g_at 92 169 = some (.if_icmp .ge (8), 177, 0, 0) := by decide +kernel
theorem t92_172 : g_at 92 172 = some (.iload 5, 0, 0, 0) := by decide +kernel
theorem t92_174 : g_at 92 174 = some (.goto (14), 188, 0, 0) := by decide +kernel
theorem t92_177 : g_at 92 177 = some (.aload_n 0, 0, 0, 0) := by decide +kernel
theorem t92_178 : g_at 92 178 = some (.getfield 47, 4, 22, 0) := by decide +kernel
theorem t92_181 : g_at 92 181 = some (.iload_n 3, 0, 0, 0) := by decide +kernel
theorem t92_182 : g_at 92 182 = some (.iconst 1, 0, 0, 1) := by decide +kernel
theorem t92_183 : g_at 92 183 = some (.iload 4, 0, 0, 0) := by decide +kernel
theorem t92_185 : g_at 92 185 = some (.ishl, 0, 0, 0) := by decide +kernel
theorem t92_186 : g_at 92 186 = some (.ixor, 0, 0, 0) := by decide +kernel
theorem t92_187 : g_at 92 187 = some (.iaload, 0, 0, 0) := by decide +kernel
theorem t92_188 : g_at 92 188 = some (.iastore, 0, 0, 0) := by decide +kernel
theorem t92_189 : g_at 92 189 = some (.iinc 4 (1), 0, 0, 1) := by decide +kernel
theorem t92_192 : g_at 92 192 = some (.goto (-129), 63, 0, 0) := by decide +kernel
theorem t92_195 : g_at 92 195 = some (.iinc 3 (1), 0, 0, 1) := by decide +kernel
theorem t92_198 : g_at 92 198 = some (.goto (-146), 52, 0, 0) := by decide +kernel
theorem t92_201 : g_at 92 201 = some (.goto (-157), 44, 0, 0) := by decide +kernel
theorem t92_204 : g_at 92 204 = some (.iconst 0, 0, 0, 0) := by decide +kernel
theorem t92_205 : g_at 92 205 = some (.istore_n 3, 0, 0, 0) := by decide +kernel
theorem t92_206 : g_at 92 206 = some (.iconst 0, 0, 0, 0) := by decide +kernel
theorem t92_207 : g_at 92 207 = some (.istore 4, 0, 0, 0) := by decide +kernel
theorem t92_209 : g_at 92 209 = some (.iconst 0, 0, 0, 0) := by decide +kernel
theorem t92_210 : g_at 92 210 = some (.istore 5, 0, 0, 0) := by decide +kernel
theorem t92_212 : g_at 92 212 = some (.iload 5, 0, 0, 0) := by decide +kernel
theorem t92_214 : g_at 92 214 = some (.aload_n 0, 0, 0, 0) := by decide +kernel
theorem t92_215 : g_at 92 215 = some (.invokevirtual 183, 89, 0, 0) := by decide +kernel
theorem t92_218 : g_at 92 218 = some (.if_icmp .ge (67), 285, 0, 0) := by decide +kernel
theorem t92_221 : g_at 92 221 = some (.iload_n 3, 0, 0, 0) := by decide +kernel
theorem t92_222 : g_at 92 222 = some (.aload_n 0, 0, 0, 0) := by decide +kernel
theorem t92_223 : g_at 92 223 = some (.getfield 47, 4, 22, 0) := by decide +kernel
theorem t92_226 : g_at 92 226 = some (.iload 5, 0, 0, 0) := by decide +kernel
theorem t92_228 : g_at 92 228 = some (.iaload, 0, 0, 0) := by decide +kernel
theorem t92_229 : g_at 92 229 = some (.ldc 189, 0, 0, 99999) := by decide +kernel
theorem t92_231 : g_at 92 231 = some (.if_icmp .ge (7), 238, 0, 0) := by decide +kernel
theorem t92_234 : g_at 92 234 = some (.iconst 1, 0, 0, 1) := by decide +kernel
theorem t92_235 : g_at 92 235 = some (.goto (4), 239, 0, 0) := by decide +kernel
theorem t92_238 : g_at 92 238 = some (.iconst 0, 0, 0, 0) := by decide +kernel
theorem t92_239 : g_at 92 239 = some (.iadd, 0, 0, 0) := by decide +kernel
theorem t92_240 : g_at 92 240 = some (.istore_n 3, 0, 0, 0) := by decide +kernel
theorem t92_241 : g_at 92 241 = some (.aload_n 0, 0, 0, 0) := by decide +kernel
theorem t92_242 : g_at 92 242 = some (.getfield 47, 4, 22, 0) := by decide +kernel
theorem t92_245 : g_at 92 245 = some (.iload 5, 0, 0, 0) := by decide +kernel
theorem t92_247 : g_at 92 247 = some (.iaload, 0, 0, 0) := by decide +kernel
theorem t92_248 : g_at 92 248 = some (.ldc 189, 0, 0, 99999) := by decide +kernel
theorem t92_250 : g_at 92 250 = some (.if_icmp .ge (25), 275, 0, 0) := by decide +kernel
theorem t92_253 : g_at 92 253 = some (.aload_n 0, 0, 0, 0) := by decide +kernel
theorem t92_254 : g_at 92 254 = some (.getfield 47, 4, 22, 0) := by decide +kernel
theorem t92_257 : g_at 92 257 = some (.iload 5, 0, 0, 0) := by decide +kernel
theorem t92_259 : g_at 92 259 = some (.iaload, 0, 0, 0) := by decide +kernel
theorem t92_260 : g_at 92 260 = some (.iload 4, 0, 0, 0) := by decide +kernel
theorem t92_262 : g_at 92 262 = some (.if_icmp .le (13), 275, 0, 0) := by decide +kernel
theorem t92_265 : g_at 92 265 = some (.aload_n 0, 0, 0, 0) := by decide +kernel
theorem t92_266 : g_at 92 266 = some (.getfield 47, 4, 22, 0) := by decide +kernel
theorem t92_269 : g_at 92 269 = some (.iload 5, 0, 0, 0) := by decide +kernel
theorem t92_271 : g_at 92 271 = some (.iaload, 0, 0, 0) := by decide +kernel
theorem t92_272 : g_at 92 272 = some (.goto (5), 277, 0, 0) := by decide +kernel
theorem t92_275 : g_at 92 275 = some (.iload 4, 0, 0, 0) := by decide +kernel
theorem t92_277 : g_at 92 277 = some (.istore 4, 0, 0, 0) := by decide +kernel
theorem t92_279 : g_at 92 279 = some (.iinc 5 (1), 0, 0, 1) := by decide +kernel
theorem t92_282 : g_at 92 282 = some (.goto (-70), 212, 0, 0) := by decide +kernel
theorem t92_285 : g_at 92 285 = some (.iload_n 1, 0, 0, 0) := by decide +kernel
theorem t92_286 : g_at 92 286 = some (.ifCond .eq (8), 294, 0, 0) := by decide +kernel
theorem t92_289 : g_at 92 289 = some (.iload 4, 0, 0, 0) := by decide +kernel
theorem t92_291 : g_at 92 291 = some (.goto (4), 295, 0, 0) := by decide +kernel
theorem t92_294 : g_at 92 294 = some (.iload_n 3, 0, 0, 0) := by decide +kernel
theorem t92_295 : g_at 92 295 = some (.ireturn, 0, 0, 0) := by decide +kernel
theorem t93_0 : g_at 93 0 = some (.aload_n 0, 0, 0, 0) := by decide +kernel
theorem t93_1 : g_at 93 1 = some (.iconst 0, 0, 0, 0) := by decide +kernel
theorem t93_2 : g_at 93 2 = some (.putfield 62, 4, 0, 0) := by decide +kernel
theorem t93_5 : g_at 93 5 = some (.iload_n 1, 0, 0, 0) := by decide +kernel
theorem t93_6 : g_at 93 6 = some (.iconst 0, 0, 0, 0) := by decide +kernel
theorem t93_7 : g_at 93 7 = some (.bipush (8), 0, 0, 8) := by decide +kernel
theorem t93_9 : g_at 93 9 = some (.invokestatic 66, 10, 3, 0) := by decide +kernel
theorem t93_12 : g_at 93 12 = some (.ifCond .ne (5), 17, 0, 0) := by decide +kernel
theorem t93_15 : g_at 93 15 = some (.iconst (-1), 0, 0, (-1)) := by decide +kernel
theorem t93_16 : g_at 93 16 = some (.ireturn, 0, 0, 0) := by decide +kernel
theorem t93_17 : g_at 93 17 = some (.iload_n 1, 0, 0, 0) := by decide +kernel
theorem t93_18 : g_at 93 18 = some (.iconst 4, 0, 0, 4) := by decide +kernel
theorem t93_19 : g_at 93 19 = some (.if_icmp .ge (71), 90, 0, 0) := by decide +kernel
theorem t93_22 : g_at 93 22 = some (.aload_n 0, 0, 0, 0) := by decide +kernel
theorem t93_23 : g_at 93 23 = some (.aload_n 0, 0, 0, 0) := by decide +kernel
theorem t93_24 : g_at 93 24 = some (.getfield 13, 4, 8, 0) := by decide +kernel
theorem t93_27 : g_at 93 27 = some (.aload_n 0, 0, 0, 0) := by decide +kernel
theorem t93_28 : g_at 93 28 = some (.getfield 22, 4, 11, 0) := by decide +kernel
theorem t93_31 : g_at 93 31 = some (.iconst 0, 0, 0, 0) := by decide +kernel
theorem t93_32 : g_at 93 32 = some (.iaload, 0, 0, 0) := by decide +kernel
theorem t93_33 : g_at 93 33 = some (.invokevirtual 135, 61, 2, 0) := by decide +kernel
theorem t93_36 : g_at 93 36 = some (.istore_n 2, 0, 0, 0) := by decide +kernel
theorem t93_37 : g_at 93 37 = some (.iload_n 1, 0, 0, 0) := by decide +kernel
theorem t93_38 : g_at 93 38 = some (.ifCond .ne (12), 50, 0, 0) := by decide +kernel
theorem t93_41 : g_at 93 41 = some (.aload_n 0, 0, 0, 0) := by decide +kernel
theorem t93_42 : g_at 93 42 = some (.getfield 22, 4, 11, 0) := by decide +kernel
theorem t93_45 : g_at 93 45 = some (.iconst 0, 0, 0, 0) := by decide +kernel
theorem t93_46 : g_at 93 46 = some (.iaload, 0, 0, 0) := by decide +kernel
theorem t93_47 : g_at 93 47 = some (.goto (42), 89, 0, 0) := by decide +kernel
theorem t93_50 : g_at 93 50 = some (.iload_n 1, 0, 0, 0) := by decide +kernel
theorem t93_51 : g_at 93 51 = some (.iconst 1, 0, 0, 1) := by decide +kernel
theorem t93_52 : g_at 93 52 = some (.if_icmp .ne (7), 59, 0, 0) := by decide +kernel
theorem t93_55 : g_at 93 55 = some (.iload_n 2, 0, 0, 0) := by decide +kernel
theorem t93_56 : g_at 93 56 = some (.goto (33), 89, 0, 0) := by decide +kernel
theorem t93_59 : g_at 93 59 = some (.iload_n 1, 0, 0, 0) := by decide +kernel
theorem t93_60 : g_at 93 60 = some (.iconst 2, 0, 0, 2) := by decide +kernel
theorem t93_61 : g_at 93 61 = some (.if_icmp .ne (20), 81, 0, 0) := by decide +kernel
theorem t93_64 : g_at 93 64 = some (.aload_n 0, 0, 0, 0) := by decide +kernel
theorem t93_65 : g_at 93 65 = some (.aload_n 0, 0, 0, 0) := by decide +kernel
theorem t93_66 : g_at 93 66 = some (.getfield 13, 4, 8, 0) := by decide +kernel
theorem t93_69 : g_at 93 69 = some (.aload_n 0, 0, 0, 0) := by decide +kernel
theorem t93_70 : g_at 93 70 = some (.getfield 22, 4, 11, 0) := by decide +kernel
theorem t93_73 : g_at 93 73 = some (.iconst 0, 0, 0, 0) := by decide +kernel
theorem t93_74 : g_at 93 74 = some (.iaload, 0, 0, 0) := by decide +kernel
theorem t93_75 : g_at 93 75 = some (.invokevirtual 138, 62, 2, 0) := by decide +kernel
theorem t93_78 : g_at 93 78 = some (.goto (11), 89, 0, 0) := by decide +kernel
theorem t93_81 : g_at 93 81 = some (.iload_n 2, 0, 0, 0) := by decide +kernel
theorem t93_82 : g_at 93 82 = some (.aload_n 0, 0, 0, 0) := by decide +kernel
theorem t93_83 : g_at 93 83 = some (.getfield 13, 4, 8, 0) := by decide +kernel
theorem t93_86 : g_at 93 86 = some (.iconst 2, 0, 0, 2) := by decide +kernel
theorem t93_87 : g_at 93 87 = some (.iaload, 0, 0, 0) := by decide +kernel
theorem t93_88 : g_at 93 88 = some (.iand, 0, 0, 0) := by decide +kernel
theorem t93_89 : g_at 93 89 = some (.ireturn, 0, 0, 0) := by decide +kernel
theorem t93_90 : g_at 93 90 = some (.iload_n 1, 0, 0, 0) := by decide +kernel
theorem t93_91 : g_at 93 91 = some (.iconst 4, 0, 0, 4) := by decide +kernel
theorem t93_92 : g_at 93 92 = some (.if_icmp .ne (10), 102, 0, 0) := by decide +kernel
theorem t93_95 : g_at 93 95 = some (.aload_n 0, 0, 0, 0) := by decide +kernel
theorem t93_96 : g_at 93 96 = some (.invokevirtual 170, 87, 0, 0) := by decide +kernel
theorem t93_99 : g_at 93 99 = some (.goto (43), 142, 0, 0) := by decide +kernel
theorem t93_102 : g_at 93 102 = some (.iload_n 1, 0, 0, 0) := by decide +kernel
theorem t93_103 : g_at 93 103 = some (.iconst 5, 0, 0, 5) := by decide +kernel
theorem t93_104 : g_at 93 104 = some (.if_icmp .ne (10), 114, 0, 0) := by decide +kernel
theorem t93_107 : g_at 93 107 = some (.aload_n 0, 0, 0, 0) := by decide +kernel
theorem t93_108 : g_at 93 108 = some (.invokevirtual 174, 88, 0, 0) := by decide +kernel
theorem t93_111 : g_at 93 111 = some (.goto (31), 142, 0, 0) := by decide +kernel
theorem t93_114 : g_at 93 114 = some (.iload_n 1, 0, 0, 0) := by decide +kernel
theorem t93_115 : g_at 93 115 = some (.bipush (8), 0, 0, 8) := by decide +kernel
theorem t93_117 : g_at 93 117 = some (.if_icmp .ne (10), 127, 0, 0) := by decide +kernel
theorem t93_120 : g_at 93 120 = some (.aload_n 0, 0, 0, 0) := by decide +kernel
theorem t93_121 : g_at 93 121 = some (.getfield 147, 4, 13, 0) := by decide +kernel
theorem t93_124 : g_at 93 124 = some (.goto (18), 142, 0, 0) := by decide +kernel
theorem t93_127 : g_at 93 127 = some (.aload_n 0, 0, 0, 0) := by decide +kernel
theorem t93_128 : g_at 93 128 = some (.iload_n 1, 0, 0, 0) := by decide +kernel
theorem t93_129 : g_at 93 129 = some (.bipush (7), 0, 0, 7) := by decide +kernel
theorem t93_131 : g_at 93 131 = some (.if_icmp .ne (7), 138, 0, 0) := by decide +kernel
theorem t93_134 : g_at 93 134 = some (.iconst 1, 0, 0, 1) := by decide +kernel
theorem t93_135 : g_at 93 135 = some (.goto (4), 139, 0, 0) := by decide +kernel
theorem t93_138 : g_at 93 138 = some (.iconst 0, 0, 0, 0) := by decide +kernel
theorem t93_139 : g_at 93 139 = some (.invokevirtual 177, 92, 1, 0) := by decide +kernel
theorem t93_142 : g_at 93 142 = some (.ireturn, 0, 0, 0) := by decide +kernel
theorem t94_0 : g_at 94 0 = some (.aload_n 0, 0, 0, 0) := by decide +kernel
theorem t94_1 : g_at 94 1 = some (.getfield 95, 3, 4, 0) := by decide +kernel
theorem t94_4 : g_at 94 4 = some (.aload_n 0, 0, 0, 0) := by decide +kernel
theorem t94_5 : g_at 94 5 = some (.getfield 102, 3, 5, 0) := by decide +kernel
theorem t94_8 : g_at 94 8 = some (.bipush (8), 0, 0, 8) := by decide +kernel
theorem t94_10 : g_at 94 10 = some (.ishl, 0, 0, 0) := by decide +kernel
theorem t94_11 : g_at 94 11 = some (.ior, 0, 0, 0) := by decide +kernel
theorem t94_12 : g_at 94 12 = some (.aload_n 0, 0, 0, 0) := by decide +kernel
theorem t94_13 : g_at 94 13 = some (.getfield 33, 3, 6, 0) := by decide +kernel
theorem t94_16 : g_at 94 16 = some (.iconst 0, 0, 0, 0) := by decide +kernel
theorem t94_17 : g_at 94 17 = some (.iaload, 0, 0, 0) := by decide +kernel
theorem t94_18 : g_at 94 18 = some (.bipush (16), 0, 0, 16) := by decide +kernel
theorem t94_20 : g_at 94 20 = some (.ishl, 0, 0, 0) := by decide +kernel
theorem t94_21 : g_at 94 21 = some (.ior, 0, 0, 0) := by decide +kernel
theorem t94_22 : g_at 94 22 = some (.aload_n 0, 0, 0, 0) := by decide +kernel
theorem t94_23 : g_at 94 23 = some (.getfield 33, 3, 6, 0) := by decide +kernel
theorem t94_26 : g_at 94 26 = some (.iconst 1, 0, 0, 1) := by decide +kernel
theorem t94_27 : g_at 94 27 = some (.iaload, 0, 0, 0) := by decide +kernel
theorem t94_28 : g_at 94 28 = some (.bipush (20), 0, 0, 20) := by decide +kernel
theorem t94_30 : g_at 94 30 = some (.ishl, 0, 0, 0) := by decide +kernel
theorem t94_31 : g_at 94 31 = some (.ior, 0, 0, 0) := by decide +kernel
theorem t94_32 : g_at 94 32 = some (.aload_n 0, 0, 0, 0) := by decide +kernel
theorem t94_33 : g_at 94 33 = some (.getfield 33, 3, 6, 0) := by decide +kernel
theorem t94_36 : g_at 94 36 = some (.iconst 2, 0, 0, 2) := by decide +kernel
theorem t94_37 : g_at 94 37 = some (.iaload, 0, 0, 0) := by decide +kernel
theorem t94_38 : g_at 94 38 = some (.bipush (24), 0, 0, 24) := by decide +kernel
theorem t94_40 : g_at 94 40 = some (.ishl, 0, 0, 0) := by decide +kernel
theorem t94_41 : g_at 94 41 = some (.ior, 0, 0, 0) := by decide +kernel
theorem t94_42 : g_at 94 42 = some (.ireturn, 0, 0, 0) := by decide +kernel
theorem t95_0 : g_at 95 0 = some (.aload_n 0, 0, 0, 0) := by decide +kernel
theorem t95_1 : g_at 95 1 = some (.getfield 146, 3, 10, 0) := by decide +kernel
theorem t95_4 : g_at 95 4 = some (.bipush (10), 0, 0, 10) := by decide +kernel
theorem t95_6 : g_at 95 6 = some (.if_icmp .lt (37), 43, 0, 0) := by decide +kernel
theorem t95_9 : g_at 95 9 = some (.iconst 1, 0, 0, 1) := by decide +kernel
theorem t95_10 : g_at 95 10 = some (.istore_n 1, 0, 0, 0) := by decide +kernel
theorem t95_11 : g_at 95 11 = some (.iload_n 1, 0, 0, 0) := by decide +kernel
theorem t95_12 : g_at 95 12 = some (.bipush (10), 0, 0, 10) := by decide +kernel
theorem t95_14 : g_at 95 14 = some (.if_icmp .ge (23), 37, 0, 0) := by decide +kernel
theorem t95_17 : g_at 95 17 = some (.aload_n 0, 0, 0, 0) := by decide +kernel
theorem t95_18 : g_at 95 18 = some (.getfield 40, 3, 9, 0) := by decide +kernel
theorem t95_21 : g_at 95 21 = some (.iload_n 1, 0, 0, 0) := by decide +kernel
theorem t95_22 : g_at 95 22 = some (.iconst 1, 0, 0, 1) := by decide +kernel
theorem t95_23 : g_at 95 23 = some (.isub, 0, 0, 0) := by decide +kernel
theorem t95_24 : g_at 95 24 = some (.aload_n 0, 0, 0, 0) := by decide +kernel
theorem t95_25 : g_at 95 25 = some (.getfield 40, 3, 9, 0) := by decide +kernel
theorem t95_28 : g_at 95 28 = some (.iload_n 1, 0, 0, 0) := by decide +kernel
theorem t95_29 : g_at 95 29 = some (.iaload, 0, 0, 0) := by decide +kernel
theorem t95_30 : g_at 95 30 = some (.iastore, 0, 0, 0) := by decide +kernel
theorem t95_31 : g_at 95 31 = some (.iinc 1 (1), 0, 0, 1) := by decide +kernel
theorem t95_34 : g_at 95 34 = some (.goto (-23), 11, 0, 0) := by decide +kernel
theorem t95_37 : g_at 95 37 = some (.aload_n 0, 0, 0, 0) := by decide +kernel
theorem t95_38 : g_at 95 38 = some (.bipush (9), 0, 0, 9) := by decide +kernel
theorem t95_40 : g_at 95 40 = some (.putfield 146, 3, 10, 0) := by decide +kernel
theorem t95_43 : g_at 95 43 = some (.aload_n 0, 0, 0, 0) := by decide +kernel
theorem t95_44 : g_at 95 44 = some (.getfield 40, 3, 9, 0) := by decide +kernel
theorem t95_47 : g_at 95 47 = some (.aload_n 0, 0, 0, 0) := by decide +kernel
theorem t95_48 : g_at 95 48 = some (.getfield 146, 3, 10, 0) := by decide +kernel
theorem t95_51 : g_at 95 51 = some (.aload_n 0, 0, 0, 0) := by decide +kernel
theorem t95_52 : g_at 95 52 = some (.invokevirtual 216, 94, 0, 0) := by decide +kernel
theorem t95_55 : g_at 95 55 = some (.iastore, 0, 0, 0) := by decide +kernel
theorem t95_56 : g_at 95 56 = some (.aload_n 0, 0, 0, 0) := by decide +kernel
theorem t95_57 : g_at 95 57 = some (.dup, 0, 0, 0) := by decide +kernel
theorem t95_58 : g_at 95 58 = some (.getfield 146, 3, 10, 0) := by decide +kernel
theorem t95_61 : g_at 95 61 = some (.iconst 1, 0, 0, 1) := by decide +kernel
theorem t95_62 : g_at 95 62 = some (.iadd, 0, 0, 0) := by decide +kernel
theorem t95_63 : g_at 95 63 = some (.putfield 146, 3, 10, 0) := by decide +kernel
theorem t95_66 : g_at 95 66 = some (.return_, 0, 0, 0) := by decide +kernel
theorem t96_0 : g_at 96 0 = some (.aload_n 0, 0, 0, 0) := by decide +kernel
theorem t96_1 : g_at 96 1 = some (.iload_n 1, 0, 0, 0) := by decide +kernel
theorem t96_2 : g_at 96 2 = some (.invokevirtual 80, 64, 1, 0) := by decide +kernel
theorem t96_5 : g_at 96 5 = some (.ifCond .ne (5), 10, 0, 0) := by decide +kernel
theorem t96_8 : g_at 96 8 = some (.iconst (-1), 0, 0, (-1)) := by decide +kernel
theorem t96_9 : g_at 96 9 = some (.ireturn, 0, 0, 0) := by decide +kernel
theorem t96_10 : g_at 96 10 = some (.aload_n 0, 0, 0, 0) := by decide +kernel
theorem t96_11 : g_at 96 11 = some (.iload_n 1, 0, 0, 0) := by decide +kernel
theorem t96_12 : g_at 96 12 = some (.invokevirtual 105, 66, 1, 0) := by decide +kernel
theorem t96_15 : g_at 96 15 = some (.ifCond .eq (6), 21, 0, 0) := by decide +kernel
theorem t96_18 : g_at 96 18 = some (.bipush (-2), 0, 0, (-2)) := by decide +kernel
theorem t96_20 : g_at 96 20 = some (.ireturn, 0, 0, 0) := by decide +kernel
theorem t96_21 : g_at 96 21 = some (.aload_n 0, 0, 0, 0) := by decide +kernel
theorem t96_22 : g_at 96 22 = some (.invokevirtual 149, 95, 0, 0) := by decide +kernel
theorem t96_25 : g_at 96 25 = some (.aload_n 0, 0, 0, 0) := by decide +kernel
theorem t96_26 : g_at 96 26 = some (.dup, 0, 0, 0) := by decide +kernel
theorem t96_27 : g_at 96 27 = some (.getfield 95, 3, 4, 0) := by decide +kernel
theorem t96_30 : g_at 96 30 = some (.iconst 1, 0, 0, 1) := by decide +kernel
theorem t96_31 : g_at 96 31 = some (.iload_n 1, 0, 0, 0) := by decide +kernel
theorem t96_32 : g_at 96 32 = some (.ishl, 0, 0, 0) := by decide +kernel
theorem t96_33 : g_at 96 33 = some (.ixor, 0, 0, 0) := by decide +kernel
theorem t96_34 : g_at 96 34 = some (.putfield 95, 3, 4, 0) := by decide +kernel
theorem t96_37 : g_at 96 37 = some (.aload_n 0, 0, 0, 0) := by decide +kernel
theorem t96_38 : g_at 96 38 = some (.getfield 95, 3, 4, 0) := by decide +kernel
theorem t96_41 : g_at 96 41 = some (.ireturn, 0, 0, 0) := by decide +kernel
theorem t97_0 : g_at 97 0 = some (.aload_n 0, 0, 0, 0) := by decide +kernel
theorem t97_1 : g_at 97 1 = some (.getfield 147, 4, 13, 0) := by decide +kernel
theorem t97_4 : g_at 97 4 = some (.bipush (10), 0, 0, 10) := by decide +kernel
theorem t97_6 : g_at 97 6 = some (.if_icmp .ne (37), 43, 0, 0) := by decide +kernel
theorem t97_9 : g_at 97 9 = some (.iconst 0, 0, 0, 0) := by decide +kernel
theorem t97_10 : g_at 97 10 = some (.istore_n 1, 0, 0, 0) := by decide +kernel
theorem t97_11 : g_at 97 11 = some (.iload_n 1, 0, 0, 0) := by decide +kernel
theorem t97_12 : g_at 97 12 = some (.bipush (45), 0, 0, 45) := by decide +kernel
theorem t97_14 : g_at 97 14 = some (.if_icmp .ge (23), 37, 0, 0) := by decide +kernel
theorem t97_17 : g_at 97 17 = some (.aload_n 0, 0, 0, 0) := by decide +kernel
theorem t97_18 : g_at 97 18 = some (.getfield 25, 4, 12, 0) := by decide +kernel
theorem t97_21 : g_at 97 21 = some (.iload_n 1, 0, 0, 0) := by decide +kernel
theorem t97_22 : g_at 97 22 = some (.aload_n 0, 0, 0, 0) := by decide +kernel
theorem t97_23 : g_at 97 23 = some (.getfield 25, 4, 12, 0) := by decide +kernel
theorem t97_26 : g_at 97 26 = some (.iload_n 1, 0, 0, 0) := by decide +kernel
theorem t97_27 : g_at 97 27 = some (.iconst 5, 0, 0, 5) := by decide +kernel
theorem t97_28 : g_at 97 28 = some (.iadd, 0, 0, 0) := by decide +kernel
theorem t97_29 : g_at 97 29 = some (.iaload, 0, 0, 0) := by decide +kernel
theorem t97_30 : g_at 97 30 = some (.iastore, 0, 0, 0) := by decide +kernel
theorem t97_31 : g_at 97 31 = some (.iinc 1 (1), 0, 0, 1) := by decide +kernel
theorem t97_34 : g_at 97 34 = some (.goto (-23), 11, 0, 0) := by decide +kernel
theorem t97_37 : g_at 97 37 = some (.aload_n 0, 0, 0, 0) := by decide +kernel
theorem t97_38 : g_at 97 38 = some (.bipush (9), 0, 0, 9) := by decide +kernel
theorem t97_40 : g_at 97 40 = some (.putfield 147, 4, 13, 0) := by decide +kernel
theorem t97_43 : g_at 97 43 = some (.iconst 0, 0, 0, 0) := by decide +kernel
theorem t97_44 : g_at 97 44 = some (.istore_n 1, 0, 0, 0) := by decide +kernel
theorem t97_45 : g_at 97 45 = some (.iload_n 1, 0, 0, 0) := by decide +kernel
theorem t97_46 : g_at 97 46 = some (.iconst 5, 0, 0, 5) := by decide +kernel
theorem t97_47 : g_at 97 47 = some (.if_icmp .ge (28), 75, 0, 0) := by decide +kernel
theorem t97_50 : g_at 97 50 = some (.aload_n 0, 0, 0, 0) := by decide +kernel
theorem t97_51 : g_at 97 51 = some (.getfield 25, 4, 12, 0) := by decide +kernel
theorem t97_54 : g_at 97 54 = some (.iconst 5, 0, 0, 5) := by decide +kernel
theorem t97_55 : g_at 97 55 = some (.aload_n 0, 0, 0, 0) := by decide +kernel
theorem t97_56 : g_at 97 56 = some (.getfield 147, 4, 13, 0) := by decide +kernel
theorem t97_59 : g_at 97 59 = some (.imul, 0, 0, 0) := by decide +kernel
theorem t97_60 : g_at 97 60 = some (.iload_n 1, 0, 0, 0) := by decide +kernel
theorem t97_61 : g_at 97 61 = some (.iadd, 0, 0, 0) := by decide +kernel
theorem t97_62 : g_at 97 62 = some (.aload_n 0, 0, 0, 0) := by decide +kernel
theorem t97_63 : g_at 97 63 = some (.getfield 22, 4, 11, 0) := by decide +kernel
theorem t97_66 : g_at 97 66 = some (.iload_n 1, 0, 0, 0) := by decide +kernel
theorem t97_67 : g_at 97 67 = some (.iaload, 0, 0, 0) := by decide +kernel
theorem t97_68 : g_at 97 68 = some (.iastore, 0, 0, 0) := by decide +kernel
theorem t97_69 : g_at 97 69 = some (.iinc 1 (1), 0, 0, 1) := by decide +kernel
theorem t97_72 : g_at 97 72 = some (.goto (-27), 45, 0, 0) := by decide +kernel
theorem t97_75 : g_at 97 75 = some (.aload_n 0, 0, 0, 0) := by decide +kernel
theorem t97_76 : g_at 97 76 = some (.dup, 0, 0, 0) := by decide +kernel
theorem t97_77 : g_at 97 77 = some (.getfield 147, 4, 13, 0) := by decide +kernel
theorem t97_80 : g_at 97 80 = some (.iconst 1, 0, 0, 1) := by decide +kernel
theorem t97_81 : g_at 97 81 = some (.iadd, 0, 0, 0) := by decide +kernel
theorem t97_82 : g_at 97 82 = some (.putfield 147, 4, 13, 0) := by decide +kernel
theorem t97_85 : g_at 97 85 = some (.return_, 0, 0, 0) := by decide +kernel
theorem t98_0 : g_at 98 0 = some (.aload_n 0, 0, 0, 0) := by decide +kernel
theorem t98_1 : g_at 98 1 = some (.iconst 0, 0, 0, 0) := by decide +kernel
theorem t98_2 : g_at 98 2 = some (.putfield 62, 4, 0, 0) := by decide +kernel
theorem t98_5 : g_at 98 5 = some (.aload_n 0, 0, 0, 0) := by decide +kernel
theorem t98_6 : g_at 98 6 = some (.iload_n 1, 0, 0, 0) := by decide +kernel
theorem t98_7 : g_at 98 7 = some (.invokevirtual 160, 68, 1, 0) := by decide +kernel
theorem t98_10 : g_at 98 10 = some (.ifCond .ne (5), 15, 0, 0) := by decide +kernel
theorem t98_13 : g_at 98 13 = some (.iconst (-1), 0, 0, (-1)) := by decide +kernel
theorem t98_14 : g_at 98 14 = some (.ireturn, 0, 0, 0) := by decide +kernel
theorem t98_15 : g_at 98 15 = some (.aload_n 0, 0, 0, 0) := by decide +kernel
theorem t98_16 : g_at 98 16 = some (.iload_n 1, 0, 0, 0) := by decide +kernel
theorem t98_17 : g_at 98 17 = some (.aload_n 0, 0, 0, 0) := by decide +kernel
theorem t98_18 : g_at 98 18 = some (.getfield 22, 4, 11, 0) := by decide +kernel
theorem t98_21 : g_at 98 21 = some (.iconst 0, 0, 0, 0) := by decide +kernel
theorem t98_22 : g_at 98 22 = some (.iaload, 0, 0, 0) := by decide +kernel
theorem t98_23 : g_at 98 23 = some (.invokevirtual 163, 70, 2, 0) := by decide +kernel
theorem t98_26 : g_at 98 26 = some (.ifCond .eq (6), 32, 0, 0) := by decide +kernel
theorem t98_29 : g_at 98 29 = some (.bipush (-2), 0, 0, (-2)) := by decide +kernel
theorem t98_31 : g_at 98 31 = some (.ireturn, 0, 0, 0) := by decide +kernel
theorem t98_32 : g_at 98 32 = some (.aload_n 0, 0, 0, 0) := by decide +kernel
theorem t98_33 : g_at 98 33 = some (.invokevirtual 180, 97, 0, 0) := by decide +kernel
theorem t98_36 : g_at 98 36 = some (.aload_n 0, 0, 0, 0) := by decide +kernel
theorem t98_37 : g_at 98 37 = some (.getfield 22, 4, 11, 0) := by decide +kernel
theorem t98_40 : g_at 98 40 = some (.iconst 0, 0, 0, 0) := by decide +kernel
theorem t98_41 : g_at 98 41 = some (.dup2, 0, 0, 0) := by decide +kernel
theorem t98_42 : g_at 98 42 = some (.iaload, 0, 0, 0) := by decide +kernel
theorem t98_43 : g_at 98 43 = some (.iconst 1, 0, 0, 1) := by decide +kernel
theorem t98_44 : g_at 98 44 = some (.iload_n 1, 0, 0, 0) := by decide +kernel
theorem t98_45 : g_at 98 45 = some (.ishl, 0, 0, 0) := by decide +kernel
theorem t98_46 : g_at 98 46 = some (.ixor, 0, 0, 0) := by decide +kernel
theorem t98_47 : g_at 98 47 = some (.iastore, 0, 0, 0) := by decide +kernel
theorem t98_48 : g_at 98 48 = some (.aload_n 0, 0, 0, 0) := by decide +kernel
theorem t98_49 : g_at 98 49 = some (.getfield 22, 4, 11, 0) := by decide +kernel
theorem t98_52 : g_at 98 52 = some (.iconst 0, 0, 0, 0) := by decide +kernel
theorem t98_53 : g_at 98 53 = some (.iaload, 0, 0, 0) := by decide +kernel
theorem t98_54 : g_at 98 54 = some (.ireturn, 0, 0, 0) := by decide +kernel
theorem t99_0 : g_at 99 0 = some (.aload_n 0, 0, 0, 0) := by decide +kernel
theorem t99_1 : g_at 99 1 = some (.iload_n 1, 0, 0, 0) := by decide +kernel
theorem t99_2 : g_at 99 2 = some (.invokevirtual 80, 64, 1, 0) := by decide +kernel
theorem t99_5 : g_at 99 5 = some (.ifCond .ne (5), 10, 0, 0) := by decide +kernel
theorem t99_8 : g_at 99 8 = some (.iconst (-1), 0, 0, (-1)) := by decide +kernel
theorem t99_9 : g_at 99 9 = some (.ireturn, 0, 0, 0) := by decide +kernel
theorem t99_10 : g_at 99 10 = some (.aload_n 0, 0, 0, 0) := by decide +kernel
theorem t99_11 : g_at 99 11 = some (.invokevirtual 149, 95, 0, 0) := by decide +kernel
theorem t99_14 : g_at 99 14 = some (.aload_n 0, 0, 0, 0) := by decide +kernel
theorem t99_15 : g_at 99 15 = some (.dup, 0, 0, 0) := by decide +kernel
theorem t99_16 : g_at 99 16 = some (.getfield 102, 3, 5, 0) := by decide +kernel
theorem t99_19 : g_at 99 19 = some (.iconst 1, 0, 0, 1) := by decide +kernel
theorem t99_20 : g_at 99 20 = some (.iload_n 1, 0, 0, 0) := by decide +kernel
theorem t99_21 : g_at 99 21 = some (.ishl, 0, 0, 0) := by decide +kernel
theorem t99_22 : g_at 99 22 = some (.ixor, 0, 0, 0) := by decide +kernel
theorem t99_23 : g_at 99 23 = some (.putfield 102, 3, 5, 0) := by decide +kernel
theorem t99_26 : g_at 99 26 = some (.aload_n 0, 0, 0, 0) := by decide +kernel
theorem t99_27 : g_at 99 27 = some (.getfield 102, 3, 5, 0) := by decide +kernel
theorem t99_30 : g_at 99 30 = some (.iload_n 1, 0, 0, 0) := by decide +kernel
theorem t99_31 : g_at 99 31 = some (.invokestatic 98, 19, 2, 0) := by decide +kernel
theorem t99_34 : g_at 99 34 = some (.ireturn, 0, 0, 0) := by decide +kernel
theorem t100_0 : g_at 100 0 = some (.aload_n 0, 0, 0, 0) := by decide +kernel
theorem t100_1 : g_at 100 1 = some (.iconst 0, 0, 0, 0) := by decide +kernel
theorem t100_2 : g_at 100 2 = some (.putfield 62, 4, 0, 0) := by decide +kernel
theorem t100_5 : g_at 100 5 = some (.aload_n 0, 0, 0, 0) := by decide +kernel
theorem t100_6 : g_at 100 6 = some (.iload_n 1, 0, 0, 0) := by decide +kernel
theorem t100_7 : g_at 100 7 = some (.invokevirtual 160, 68, 1, 0) := by decide +kernel
theorem t100_10 : g_at 100 10 = some (.ifCond .ne (5), 15, 0, 0) := by decide +kernel
theorem t100_13 : g_at 100 13 = some (.iconst (-1), 0, 0, (-1)) := by decide +kernel
theorem t100_14 : g_at 100 14 = some (.ireturn, 0, 0, 0) := by decide +kernel
theorem t100_15 : g_at 100 15 = some (.aload_n 0, 0, 0, 0) := by decide +kernel
theorem t100_16 : g_at 100 16 = some (.invokevirtual 180, 97, 0, 0) := by decide +kernel
theorem t100_19 : g_at 100 19 = some (.aload_n 0, 0, 0, 0) := by decide +kernel
theorem t100_20 : g_at 100 20 = some (.getfield 22, 4, 11, 0) := by decide +kernel
theorem t100_23 : g_at 100 23 = some (.iconst 1, 0, 0, 1) := by decide +kernel
theorem t100_24 : g_at 100 24 = some (.dup2, 0, 0, 0) := by decide +kernel
theorem t100_25 : g_at 100 25 = some (.iaload, 0, 0, 0) := by decide +kernel
theorem t100_26 : g_at 100 26 = some (.iconst 1, 0, 0, 1) := by decide +kernel
theorem t100_27 : g_at 100 27 = some (.iload_n 1, 0, 0, 0) := by decide +kernel
theorem t100_28 : g_at 100 28 = some (.ishl, 0, 0, 0) := by decide +kernel
theorem t100_29 : g_at 100 29 = some (.ixor, 0, 0, 0) := by decide +kernel
theorem t100_30 : g_at 100 30 = some (.iastore, 0, 0, 0) := by decide +kernel
theorem t100_31 : g_at 100 31 = some (.aload_n 0, 0, 0, 0) := by decide +kernel
theorem t100_32 : g_at 100 32 = some (.getfield 22, 4, 11, 0) := by decide +kernel
theorem t100_35 : g_at 100 35 = some (.iconst 1, 0, 0, 1) := by decide +kernel
theorem t100_36 : g_at 100 36 = some (.iaload, 0, 0, 0) := by decide +kernel
theorem t100_37 : g_at 100 37 = some (.iload_n 1, 0, 0, 0) := by decide +kernel
theorem t100_38 : g_at 100 38 = some (.ishr, 0, 0, 0) := by decide +kernel
theorem t100_39 : g_at 100 39 = some (.iconst 1, 0, 0, 1) := by decide +kernel
theorem t100_40 : g_at 100 40 = some (.iand, 0, 0, 0) := by decide +kernel
theorem t100_41 : g_at 100 41 = some (.ireturn, 0, 0, 0) := by decide +kernel
theorem t101_0 : g_at 101 0 = some (.iload_n 0, 0, 0, 0) := by decide +kernel
theorem t101_1 : g_at 101 1 = some (.iconst 1, 0, 0, 1) := by decide +kernel
theorem t101_2 : g_at 101 2 = some (.if_icmp .lt (13), 15, 0, 0) := by decide +kernel
theorem t101_5 : g_at 101 5 = some (.iload_n 0, 0, 0, 0) := by decide +kernel
theorem t101_6 : g_at 101 6 = some (.bipush (9), 0, 0, 9) := by decide +kernel
theorem t101_8 : g_at 101 8 = some (.if_icmp .gt (7), 15, 0, 0) := by decide +kernel
theorem t101_11 : g_at 101 11 = some (.iconst 1, 0, 0, 1) := by decide +kernel
theorem t101_12 : g_at 101 12 = some (.goto (4), 16, 0, 0) := by decide +kernel
theorem t101_15 : g_at 101 15 = some (.iconst 0, 0, 0, 0) := by decide +kernel
theorem t101_16 : g_at 101 16 = some (.ireturn, 0, 0, 0) := by decide +kernel
theorem t102_0 : g_at 102 0 = some (.iload_n 1, 0, 0, 0) := by decide +kernel
theorem t102_1 : g_at 102 1 = some (.invokestatic 152, 101, 1, 0) := by decide +kernel
theorem t102_4 : g_at 102 4 = some (.ifCond .eq (17), 21, 0, 0) := by decide +kernel
theorem t102_7 : g_at 102 7 = some (.iload_n 2, 0, 0, 0) := by decide +kernel
theorem t102_8 : g_at 102 8 = some (.invokestatic 152, 101, 1, 0) := by decide +kernel
theorem t102_11 : g_at 102 11 = some (.ifCond .eq (10), 21, 0, 0) := by decide +kernel
theorem t102_14 : g_at 102 14 = some (.iload_n 3, 0, 0, 0) := by decide +kernel
theorem t102_15 : g_at 102 15 = some (.invokestatic 152, 101, 1, 0) := by decide +kernel
theorem t102_18 : g_at 102 18 = some (.ifCond .ne (5), 23, 0, 0) := by decide +kernel
theorem t102_21 : g_at 102 21 = some (.iconst (-1), 0, 0, (-1)) := by decide +kernel
theorem t102_22 : g_at 102 22 = some (.ireturn, 0, 0, 0) := by decide +kernel
theorem t102_23 : g_at 102 23 = some (.aload_n 0, 0, 0, 0) := by decide +kernel
theorem t102_24 : g_at 102 24 = some (.invokevirtual 149, 95, 0, 0) := by decide +kernel
theorem t102_27 : g_at 102 27 = some (.aload_n 0, 0, 0, 0) := by decide +kernel
theorem t102_28 : g_at 102 28 = some (.iload_n 1, 0, 0, 0) := by decide +kernel
theorem t102_29 : g_at 102 29 = some (.iload_n 2, 0, 0, 0) := by decide +kernel
theorem t102_30 : g_at 102 30 = some (.iload_n 3, 0, 0, 0) := by decide +kernel
theorem t102_31 : g_at 102 31 = some (.invokevirtual 155, 3, 3, 0) := by decide +kernel
theorem t102_34 : g_at 102 34 = some (.iload_n 1, 0, 0, 0) := by decide +kernel
theorem t102_35 : g_at 102 35 = some (.iload_n 2, 0, 0, 0) := by decide +kernel
theorem t102_36 : g_at 102 36 = some (.iadd, 0, 0, 0) := by decide +kernel
theorem t102_37 : g_at 102 37 = some (.iload_n 3, 0, 0, 0) := by decide +kernel
theorem t102_38 : g_at 102 38 = some (.iadd, 0, 0, 0) := by decide +kernel
theorem t102_39 : g_at 102 39 = some (.ireturn, 0, 0, 0) := by decide +kernel
theorem t103_0 : g_at 103 0 = some (.aload_n 0, 0, 0, 0) := by decide +kernel
theorem t103_1 : g_at 103 1 = some (.iconst 0, 0, 0, 0) := by decide +kernel
theorem t103_2 : g_at 103 2 = some (.putfield 62, 4, 0, 0) := by decide +kernel
theorem t103_5 : g_at 103 5 = some (.iload_n 1, 0, 0, 0) := by decide +kernel
theorem t103_6 : g_at 103 6 = some (.iconst 1, 0, 0, 1) := by decide +kernel
theorem t103_7 : g_at 103 7 = some (.bipush (9), 0, 0, 9) := by decide +kernel
theorem t103_9 : g_at 103 9 = some (.invokestatic 66, 10, 3, 0) := by decide +kernel
theorem t103_12 : g_at 103 12 = some (.ifCond .eq (23), 35, 0, 0) := by decide +kernel
theorem t103_15 : g_at 103 15 = some (.iload_n 2, 0, 0, 0) := by decide +kernel
theorem t103_16 : g_at 103 16 = some (.iconst 1, 0, 0, 1) := by decide +kernel
theorem t103_17 : g_at 103 17 = some (.bipush (9), 0, 0, 9) := by decide +kernel
theorem t103_19 : g_at 103 19 = some (.invokestatic 66, 10, 3, 0) := by decide +kernel
theorem t103_22 : g_at 103 22 = some (.ifCond .eq (13), 35, 0, 0) := by decide +kernel
theorem t103_25 : g_at 103 25 = some (.iload_n 3, 0, 0, 0) := by decide +kernel
theorem t103_26 : g_at 103 26 = some (.iconst 1, 0, 0, 1) := by decide +kernel
theorem t103_27 : g_at 103 27 = some (.bipush (9), 0, 0, 9) := by decide +kernel
theorem t103_29 : g_at 103 29 = some (.invokestatic 66, 10, 3, 0) := by decide +kernel
theorem t103_32 : g_at 103 32 = some (.ifCond .ne (5), 37, 0, 0) := by decide +kernel
theorem t103_35 : g_at 103 35 = some (.iconst (-1), 0, 0, (-1)) := by decide +kernel
theorem t103_36 : g_at 103 36 = some (.ireturn, 0, 0, 0) := by decide +kernel
theorem t103_37 : g_at 103 37 = some (.aload_n 0, 0, 0, 0) := by decide +kernel
theorem t103_38 : g_at 103 38 = some (.invokevirtual 180, 97, 0, 0) := by decide +kernel
theorem t103_41 : g_at 103 41 = some (.aload_n 0, 0, 0, 0) := by decide +kernel
theorem t103_42 : g_at 103 42 = some (.getfield 22, 4, 11, 0) := by decide +kernel
theorem t103_45 : g_at 103 45 = some (.iconst 2, 0, 0, 2) := by decide +kernel
theorem t103_46 : g_at 103 46 = some (.iload_n 1, 0, 0, 0) := by decide +kernel
theorem t103_47 : g_at 103 47 = some (.iastore, 0, 0, 0) := by decide +kernel
theorem t103_48 : g_at 103 48 = some (.aload_n 0, 0, 0, 0) := by decide +kernel
theorem t103_49 : g_at 103 49 = some (.getfield 22, 4, 11, 0) := by decide +kernel
theorem t103_52 : g_at 103 52 = some (.iconst 3, 0, 0, 3) := by decide +kernel
theorem t103_53 : g_at 103 53 = some (.iload_n 2, 0, 0, 0) := by decide +kernel
theorem t103_54 : g_at 103 54 = some (.iastore, 0, 0, 0) := by decide +kernel
theorem t103_55 : g_at 103 55 = some (.aload_n 0, 0, 0, 0) := by decide +kernel
theorem t103_56 : g_at 103 56 = some (.getfield 22, 4, 11, 0) := by decide +kernel
theorem t103_59 : g_at 103 59 = some (.iconst 4, 0, 0, 4) := by decide +kernel
theorem t103_60 : g_at 103 60 = some (.iload_n 3, 0, 0, 0) := by decide +kernel
theorem t103_61 : g_at 103 61 = some (.iastore, 0, 0, 0) := by decide +kernel
theorem t103_62 : g_at 103 62 = some (.iload_n 1, 0, 0, 0) := by decide +kernel
theorem t103_63 : g_at 103 63 = some (.iload_n 2, 0, 0, 0) := by decide +kernel
theorem t103_64 : g_at 103 64 = some (.iadd, 0, 0, 0) := by decide +kernel
theorem t103_65 : g_at 103 65 = some (.iload_n 3, 0, 0, 0) := by decide +kernel
theorem t103_66 : g_at 103 66 = some (.iadd, 0, 0, 0) := by decide +kernel
theorem t103_67 : g_at 103 67 = some (.ireturn, 0, 0, 0) := by decide +kernel
theorem t104_0 : g_at 104 0 = some (.aload_n 0, 0, 0, 0) := by decide +kernel
theorem t104_1 : g_at 104 1 = some (.iload_n 1, 0, 0, 0) := by decide +kernel
theorem t104_2 : g_at 104 2 = some (.invokevirtual 80, 64, 1, 0) := by decide +kernel
theorem t104_5 : g_at 104 5 = some (.ifCond .ne (5), 10, 0, 0) := by decide +kernel
theorem t104_8 : g_at 104 8 = some (.iconst (-1), 0, 0, (-1)) := by decide +kernel
theorem t104_9 : g_at 104 9 = some (.ireturn, 0, 0, 0) := by decide +kernel
theorem t104_10 : g_at 104 10 = some (.aload_n 0, 0, 0, 0) := by decide +kernel
theorem t104_11 : g_at 104 11 = some (.getfield 159, 3, 8, 0) := by decide +kernel
theorem t104_14 : g_at 104 14 = some (.bipush (12), 0, 0, 12) := by decide +kernel
theorem t104_16 : g_at 104 16 = some (.if_icmp .lt (6), 22, 0, 0) := by decide +kernel
theorem t104_19 : g_at 104 19 = some (.bipush (-3), 0, 0, (-3)) := by decide +kernel
theorem t104_21 : g_at 104 21 = some (.ireturn, 0, 0, 0) := by decide +kernel
theorem t104_22 : g_at 104 22 = some (.aload_n 0, 0, 0, 0) := by decide +kernel
theorem t104_23 : g_at 104 23 = some (.getfield 37, 3, 7, 0) := by decide +kernel
theorem t104_26 : g_at 104 26 = some (.aload_n 0, 0, 0, 0) := by decide +kernel
theorem t104_27 : g_at 104 27 = some (.getfield 159, 3, 8, 0) := by decide +kernel
theorem t104_30 : g_at 104 30 = some (.iload_n 1, 0, 0, 0) := by decide +kernel
theorem t104_31 : g_at 104 31 = some (.iastore, 0, 0, 0) := by decide +kernel
theorem t104_32 : g_at 104 32 = some (.aload_n 0, 0, 0, 0) := by decide +kernel
theorem t104_33 : g_at 104 33 = some (.dup, 0, 0, 0) := by decide +kernel
theorem t104_34 : g_at 104 34 = some (.getfield 159, 3, 8, 0) := by decide +kernel
theorem t104_37 : g_at 104 37 = some (.iconst 1, 0, 0, 1) := by decide +kernel
theorem t104_38 : g_at 104 38 = some (.iadd, 0, 0, 0) := by decide +kernel
theorem t104_39 : g_at 104 39 = some (.putfield 159, 3, 8, 0) := by decide +kernel
theorem t104_42 : g_at 104 42 = some (.aload_n 0, 0, 0, 0) := by decide +kernel
theorem t104_43 : g_at 104 43 = some (.getfield 159, 3, 8, 0) := by decide +kernel
theorem t104_46 : g_at 104 46 = some (.ireturn, 0, 0, 0) := by decide +kernel
theorem t105_0 : g_at 105 0 = some (.aload_n 0, 0, 0, 0) := by decide +kernel
theorem t105_1 : g_at 105 1 = some (.iconst 0, 0, 0, 0) := by decide +kernel
theorem t105_2 : g_at 105 2 = some (.putfield 62, 4, 0, 0) := by decide +kernel
theorem t105_5 : g_at 105 5 = some (.aload_n 0, 0, 0, 0) := by decide +kernel
theorem t105_6 : g_at 105 6 = some (.iload_n 1, 0, 0, 0) := by decide +kernel
theorem t105_7 : g_at 105 7 = some (.invokevirtual 160, 68, 1, 0) := by decide +kernel
theorem t105_10 : g_at 105 10 = some (.ifCond .ne (5), 15, 0, 0) := by decide +kernel
theorem t105_13 : g_at 105 13 = some (.iconst (-1), 0, 0, (-1)) := by decide +kernel
theorem t105_14 : g_at 105 14 = some (.ireturn, 0, 0, 0) := by decide +kernel
theorem t105_15 : g_at 105 15 = some (.aload_n 0, 0, 0, 0) := by decide +kernel
theorem t105_16 : g_at 105 16 = some (.getfield 141, 4, 17, 0) := by decide +kernel
theorem t105_19 : g_at 105 19 = some (.bipush (12), 0, 0, 12) := by decide +kernel
theorem t105_21 : g_at 105 21 = some (.if_icmp .ne (6), 27, 0, 0) := by decide +kernel
theorem t105_24 : g_at 105 24 = some (.bipush (-3), 0, 0, (-3)) := by decide +kernel
theorem t105_26 : g_at 105 26 = some (.ireturn, 0, 0, 0) := by decide +kernel
theorem t105_27 : g_at 105 27 = some (.aload_n 0, 0, 0, 0) := by decide +kernel
theorem t105_28 : g_at 105 28 = some (.getfield 35, 4, 16, 0) := by decide +kernel
theorem t105_31 : g_at 105 31 = some (.aload_n 0, 0, 0, 0) := by decide +kernel
theorem t105_32 : g_at 105 32 = some (.getfield 141, 4, 17, 0) := by decide +kernel
theorem t105_35 : g_at 105 35 = some (.iload_n 1, 0, 0, 0) := by decide +kernel
theorem t105_36 : g_at 105 36 = some (.iastore, 0, 0, 0) := by decide +kernel
theorem t105_37 : g_at 105 37 = some (.aload_n 0, 0, 0, 0) := by decide +kernel
theorem t105_38 : g_at 105 38 = some (.dup, 0, 0, 0) := by decide +kernel
theorem t105_39 : g_at 105 39 = some (.getfield 141, 4, 17, 0) := by decide +kernel
theorem t105_42 : g_at 105 42 = some (.iconst 1, 0, 0, 1) := by decide +kernel
theorem t105_43 : g_at 105 43 = some (.iadd, 0, 0, 0) := by decide +kernel
theorem t105_44 : g_at 105 44 = some (.putfield 141, 4, 17, 0) := by decide +kernel
theorem t105_47 : g_at 105 47 = some (.aload_n 0, 0, 0, 0) := by decide +kernel
theorem t105_48 : g_at 105 48 = some (.getfield 141, 4, 17, 0) := by decide +kernel
theorem t105_51 : g_at 105 51 = some (.ireturn, 0, 0, 0) := by decide +kernel
theorem t106_0 : g_at 106 0 = some (.aload_n 0, 0, 0, 0) := by decide +kernel
theorem t106_1 : g_at 106 1 = some (.getfield 159, 3, 8, 0) := by decide +kernel
theorem t106_4 : g_at 106 4 = some (.ifCond .eq (16), 20, 0, 0) := by decide +kernel
theorem t106_7 : g_at 106 7 = some (.aload_n 0, 0, 0, 0) := by decide +kernel
theorem t106_8 : g_at 106 8 = some (.aload_n 0, 0, 0, 0) := by decide +kernel
theorem t106_9 : g_at 106 9 = some (.getfield 37, 3, 7, 0) := by decide +kernel
theorem t106_12 : g_at 106 12 = some (.iconst 0, 0, 0, 0) := by decide +kernel
theorem t106_13 : g_at 106 13 = some (.iaload, 0, 0, 0) := by decide +kernel
theorem t106_14 : g_at 106 14 = some (.invokevirtual 105, 66, 1, 0) := by decide +kernel
theorem t106_17 : g_at 106 17 = some (.ifCond .eq (6), 23, 0, 0) := by decide +kernel
theorem t106_20 : g_at 106 20 = some (.bipush (-2), 0, 0, (-2)) := by decide +kernel
theorem t106_22 : g_at 106 22 = some (.ireturn, 0, 0, 0) := by decide +kernel
theorem t106_23 : g_at 106 23 = some (.aload_n 0, 0, 0, 0) := by decide +kernel
theorem t106_24 : g_at 106 24 = some (.invokevirtual 149, 95, 0, 0) := by decide +kernel
theorem t106_27 : g_at 106 27 = some (.iconst 0, 0, 0, 0) := by decide +kernel
theorem t106_28 : g_at 106 28 = some (.istore_n 1, 0, 0, 0) := by decide +kernel
theorem t106_29 : g_at 106 29 = some (.iload_n 1, 0, 0, 0) := by decide +kernel
theorem t106_30 : g_at 106 30 = some (.aload_n 0, 0, 0, 0) := by decide +kernel
theorem t106_31 : g_at 106 31 = some (.getfield 159, 3, 8, 0) := by decide +kernel
theorem t106_34 : g_at 106 34 = some (.if_icmp .ge (39), 73, 0, 0) := by decide +kernel
theorem t106_37 : g_at 106 37 = some (.aload_n 0, 0, 0, 0) := by decide +kernel
theorem t106_38 : g_at 106 38 = some (.aload_n 0, 0, 0, 0) := by decide +kernel
theorem t106_39 : g_at 106 39 = some (.getfield 37, 3, 7, 0) := by decide +kernel
theorem t106_42 : g_at 106 42 = some (.iload_n 1, 0, 0, 0) := by decide +kernel
theorem t106_43 : g_at 106 43 = some (.iaload, 0, 0, 0) := by decide +kernel
theorem t106_44 : g_at 106 44 = some (.invokevirtual 105, 66, 1, 0) := by decide +kernel
theorem t106_47 : g_at 106 47 = some (.ifCond .ne (26), 73, 0, 0) := by decide +kernel
theorem t106_50 : g_at 106 50 = some (.aload_n 0, 0, 0, 0) := by decide +kernel
theorem t106_51 : g_at 106 51 = some (.dup, 0, 0, 0) := by decide +kernel
theorem t106_52 : g_at 106 52 = some (.getfield 95, 3, 4, 0) := by decide +kernel
theorem t106_55 : g_at 106 55 = some (.iconst 1, 0, 0, 1) := by decide +kernel
theorem t106_56 : g_at 106 56 = some (.aload_n 0, 0, 0, 0) := by decide +kernel
theorem t106_57 : g_at 106 57 = some (.getfield 37, 3, 7, 0) := by decide +kernel
theorem t106_60 : g_at 106 60 = some (.iload_n 1, 0, 0, 0) := by decide +kernel
theorem t106_61 : g_at 106 61 = some (.iaload, 0, 0, 0) := by decide +kernel
theorem t106_62 : g_at 106 62 = some (.ishl, 0, 0, 0) := by decide +kernel
theorem t106_63 : g_at 106 63 = some (.ixor, 0, 0, 0) := by decide +kernel
theorem t106_64 : g_at 106 64 = some (.putfield 95, 3, 4, 0) := by decide +kernel
theorem t106_67 : g_at 106 67 = some (.iinc 1 (1), 0, 0, 1) := by decide +kernel
theorem t106_70 : g_at 106 70 = some (.goto (-41), 29, 0, 0) := by decide +kernel
theorem t106_73 : g_at 106 73 = some (.aload_n 0, 0, 0, 0) := by decide +kernel
theorem t106_74 : g_at 106 74 = some (.dup, 0, 0, 0) := by decide +kernel
theorem t106_75 : g_at 106 75 = some (.getfield 159, 3, 8, 0) := by decide +kernel
theorem t106_78 : g_at 106 78 = some (.iload_n 1, 0, 0, 0) := by decide +kernel
theorem t106_79 : g_at 106 79 = some (.isub, 0, 0, 0) := by decide +kernel
theorem t106_80 : g_at 106 80 = some (.putfield 159, 3, 8, 0) := by decide +kernel
theorem t106_83 : g_at 106 83 = some (.iconst 0, 0, 0, 0) := by decide +kernel
theorem t106_84 : g_at 106 84 = some (.istore_n 2, 0, 0, 0) := by decide +kernel
theorem t106_85 : g_at 106 85 = some (.iload_n 2, 0, 0, 0) := by decide +kernel
theorem t106_86 : g_at 106 86 = some (.aload_n 0, 0, 0, 0) := by decide +kernel
theorem t106_87 : g_at 106 87 = some (.getfield 159, 3, 8, 0) := by decide +kernel
theorem t106_90 : g_at 106 90 = some (.if_icmp .ge (23), 113, 0, 0) := by decide +kernel
theorem t106_93 : g_at 106 93 = some (.aload_n 0, 0, 0, 0) := by decide +kernel
theorem t106_94 : g_at 106 94 = some (.getfield 37, 3, 7, 0) := by decide +kernel
theorem t106_97 : g_at 106 97 = some (.iload_n 2, 0, 0, 0) := by decide +kernel
theorem t106_98 : g_at 106 98 = some (.aload_n 0, 0, 0, 0) := by decide +kernel
theorem t106_99 : g_at 106 99 = some (.getfield 37, 3, 7, 0) := by decide +kernel
theorem t106_102 : g_at 106 102 = some (.iload_n 2, 0, 0, 0) := by decide +kernel
theorem t106_103 : g_at 106 103 = some (.iload_n 1, 0, 0, 0) := by decide +kernel
theorem t106_104 : g_at 106 104 = some (.iadd, 0, 0, 0) := by decide +kernel
theorem t106_105 : g_at 106 105 = some (.iaload, 0, 0, 0) := by decide +kernel
theorem t106_106 : g_at 106 106 = some (.iastore, 0, 0, 0) := by decide +kernel
theorem t106_107 : g_at 106 107 = some (.iinc 2 (1), 0, 0, 1) := by decide +kernel
theorem t106_110 : g_at 106 110 = some (.goto (-25), 85, 0, 0) := by decide +kernel
theorem t106_113 : g_at 106 113 = some (.iload_n 1, 0, 0, 0) := by decide +kernel
theorem t106_114 : g_at 106 114 = some (.ireturn, 0, 0, 0) := by decide +kernel
theorem t107_0 : g_at 107 0 = some (.aload_n 0, 0, 0, 0) := by decide +kernel
theorem t107_1 : g_at 107 1 = some (.iconst 0, 0, 0, 0) := by decide +kernel
theorem t107_2 : g_at 107 2 = some (.putfield 62, 4, 0, 0) := by decide +kernel
theorem t107_5 : g_at 107 5 = some (.aload_n 0, 0, 0, 0) := by decide +kernel
theorem t107_6 : g_at 107 6 = some (.getfield 141, 4, 17, 0) := by decide +kernel
theorem t107_9 : g_at 107 9 = some (.ifCond .eq (22), 31, 0, 0) := by decide +kernel
theorem t107_12 : g_at 107 12 = some (.aload_n 0, 0, 0, 0) := by decide +kernel
theorem t107_13 : g_at 107 13 = some (.aload_n 0, 0, 0, 0) := by decide +kernel
theorem t107_14 : g_at 107 14 = some (.getfield 35, 4, 16, 0) := by decide +kernel
theorem t107_17 : g_at 107 17 = some (.iconst 0, 0, 0, 0) := by decide +kernel
theorem t107_18 : g_at 107 18 = some (.iaload, 0, 0, 0) := by decide +kernel
theorem t107_19 : g_at 107 19 = some (.aload_n 0, 0, 0, 0) := by decide +kernel
theorem t107_20 : g_at 107 20 = some (.getfield 22, 4, 11, 0) := by decide +kernel
theorem t107_23 : g_at 107 23 = some (.iconst 0, 0, 0, 0) := by decide +kernel
theorem t107_24 : g_at 107 24 = some (.iaload, 0, 0, 0) := by decide +kernel
theorem t107_25 : g_at 107 25 = some (.invokevirtual 163, 70, 2, 0) := by decide +kernel
theorem t107_28 : g_at 107 28 = some (.ifCond .eq (6), 34, 0, 0) := by decide +kernel
theorem t107_31 : g_at 107 31 = some (.bipush (-2), 0, 0, (-2)) := by decide +kernel
theorem t107_33 : g_at 107 33 = some (.ireturn, 0, 0, 0) := by decide +kernel
theorem t107_34 : g_at 107 34 = some (.aload_n 0, 0, 0, 0) := by decide +kernel
theorem t107_35 : g_at 107 35 = some (.invokevirtual 180, 97, 0, 0) := by decide +kernel
theorem t107_38 : g_at 107 38 = some (.iconst 0, 0, 0, 0) := by decide +kernel
theorem t107_39 : g_at 107 39 = some (.istore_n 1, 0, 0, 0) := by decide +kernel
theorem t107_40 : g_at 107 40 = some (.iload_n 1, 0, 0, 0) := by decide +kernel
theorem t107_41 : g_at 107 41 = some (.aload_n 0, 0, 0, 0) := by decide +kernel
theorem t107_42 : g_at 107 42 = some (.getfield 141, 4, 17, 0) := by decide +kernel
theorem t107_45 : g_at 107 45 = some (.if_icmp .ge (45), 90, 0, 0) := by decide +kernel
theorem t107_48 : g_at 107 48 = some (.aload_n 0, 0, 0, 0) := by decide +kernel
theorem t107_49 : g_at 107 49 = some (.aload_n 0, 0, 0, 0) := by decide +kernel
theorem t107_50 : g_at 107 50 = some (.getfield 35, 4, 16, 0) := by decide +kernel
theorem t107_53 : g_at 107 53 = some (.iload_n 1, 0, 0, 0) := by decide +kernel
theorem t107_54 : g_at 107 54 = some (.iaload, 0, 0, 0) := by decide +kernel
theorem t107_55 : g_at 107 55 = some (.aload_n 0, 0, 0, 0) := by decide +kernel
theorem t107_56 : g_at 107 56 = some (.getfield 22, 4, 11, 0) := by decide +kernel
theorem t107_59 : g_at 107 59 = some (.iconst 0, 0, 0, 0) := by decide +kernel
theorem t107_60 : g_at 107 60 = some (.iaload, 0, 0, 0) := by decide +kernel
theorem t107_61 : g_at 107 61 = some (.invokevirtual 163, 70, 2, 0) := by decide +kernel
theorem t107_64 : g_at 107 64 = some (.ifCond .ne (26), 90, 0, 0) := by decide +kernel
theorem t107_67 : g_at 107 67 = some (.aload_n 0, 0, 0, 0) := by decide +kernel
theorem t107_68 : g_at 107 68 = some (.getfield 22, 4, 11, 0) := by decide +kernel
theorem t107_71 : g_at 107 71 = some (.iconst 0, 0, 0, 0) := by decide +kernel
theorem t107_72 : g_at 107 72 = some (.dup2, 0, 0, 0) := by decide +kernel
theorem t107_73 : g_at 107 73 = some (.iaload, 0, 0, 0) := by decide +kernel
theorem t107_74 : g_at 107 74 = some (.iconst 1, 0, 0, 1) := by decide +kernel
theorem t107_75 : g_at 107 75 = some (.aload_n 0, 0, 0, 0) := by decide +kernel
theorem t107_76 : g_at 107 76 = some (.getfield 35, 4, 16, 0) := by decide +kernel
theorem t107_79 : g_at 107 79 = some (.iload_n 1, 0, 0, 0) := by decide +kernel
theorem t107_80 : g_at 107 80 = some (.iaload, 0, 0, 0) := by decide +kernel
theorem t107_81 : g_at 107 81 = some (.ishl, 0, 0, 0) := by decide +kernel
theorem t107_82 : g_at 107 82 = some (.ixor, 0, 0, 0) := by decide +kernel
theorem t107_83 : g_at 107 83 = some (.iastore, 0, 0, 0) := by decide +kernel
theorem t107_84 : g_at 107 84 = some (.iinc 1 (1), 0, 0, 1) := by decide +kernel
theorem t107_87 : g_at 107 87 = some (.goto (-47), 40, 0, 0) := by decide +kernel
theorem t107_90 : g_at 107 90 = some (.iload_n 1, 0, 0, 0) := by decide +kernel
theorem t107_91 : g_at 107 91 = some (.istore_n 2, 0, 0, 0) := by decide +kernel
theorem t107_92 : g_at 107 92 = some (.iload_n 2, 0, 0, 0) := by decide +kernel
theorem t107_93 : g_at 107 93 = some (.aload_n 0, 0, 0, 0) := by decide +kernel
theorem t107_94 : g_at 107 94 = some (.getfield 141, 4, 17, 0) := by decide +kernel
theorem t107_97 : g_at 107 97 = some (.if_icmp .ge (23), 120, 0, 0) := by decide +kernel
theorem t107_100 : g_at 107 100 = some (.aload_n 0, 0, 0, 0) := by decide +kernel
theorem t107_101 : g_at 107 101 = some (.getfield 35, 4, 16, 0) := by decide +kernel
theorem t107_104 : g_at 107 104 = some (.iload_n 2, 0, 0, 0) := by decide +kernel
theorem t107_105 : g_at 107 105 = some (.iload_n 1, 0, 0, 0) := by decide +kernel
theorem t107_106 : g_at 107 106 = some (.isub, 0, 0, 0) := by decide +kernel
theorem t107_107 : g_at 107 107 = some (.aload_n 0, 0, 0, 0) := by decide +kernel
theorem t107_108 : g_at 107 108 = some (.getfield 35, 4, 16, 0) := by decide +kernel
theorem t107_111 : g_at 107 111 = some (.iload_n 2, 0, 0, 0) := by decide +kernel
theorem t107_112 : g_at 107 112 = some (.iaload, 0, 0, 0) := by decide +kernel
theorem t107_113 : g_at 107 113 = some (.iastore, 0, 0, 0) := by decide +kernel
theorem t107_114 : g_at 107 114 = some (.iinc 2 (1), 0, 0, 1) := by decide +kernel
theorem t107_117 : g_at 107 117 = some (.goto (-25), 92, 0, 0) := by decide +kernel
theorem t107_120 : g_at 107 120 = some (.aload_n 0, 0, 0, 0) := by decide +kernel
theorem t107_121 : g_at 107 121 = some (.dup, 0, 0, 0) := by decide +kernel
theorem t107_122 : g_at 107 122 = some (.getfield 141, 4, 17, 0) := by decide +kernel
theorem t107_125 : g_at 107 125 = some (.iload_n 1, 0, 0, 0) := by decide +kernel
theorem t107_126 : g_at 107 126 = some (.isub, 0, 0, 0) := by decide +kernel
theorem t107_127 : g_at 107 127 = some (.putfield 141, 4, 17, 0) := by decide +kernel
theorem t107_130 : g_at 107 130 = some (.iload_n 1, 0, 0, 0) := by decide +kernel
theorem t107_131 : g_at 107 131 = some (.ireturn, 0, 0, 0) := by decide +kernel
theorem t108_0 : g_at 108 0 = some (.aload_n 0, 0, 0, 0) := by decide +kernel
theorem t108_1 : g_at 108 1 = some (.getfield 159, 3, 8, 0) := by decide +kernel
theorem t108_4 : g_at 108 4 = some (.istore_n 1, 0, 0, 0) := by decide +kernel
theorem t108_5 : g_at 108 5 = some (.aload_n 0, 0, 0, 0) := by decide +kernel
theorem t108_6 : g_at 108 6 = some (.iconst 0, 0, 0, 0) := by decide +kernel
theorem t108_7 : g_at 108 7 = some (.putfield 159, 3, 8, 0) := by decide +kernel
theorem t108_10 : g_at 108 10 = some (.iload_n 1, 0, 0, 0) := by decide +kernel
theorem t108_11 : g_at 108 11 = some (.ireturn, 0, 0, 0) := by decide +kernel
theorem t109_0 : g_at 109 0 = some (.aload_n 0, 0, 0, 0) := by decide +kernel
theorem t109_1 : g_at 109 1 = some (.iconst 0, 0, 0, 0) := by decide +kernel
theorem t109_2 : g_at 109 2 = some (.putfield 62, 4, 0, 0) := by decide +kernel
theorem t109_5 : g_at 109 5 = some (.aload_n 0, 0, 0, 0) := by decide +kernel
theorem t109_6 : g_at 109 6 = some (.getfield 141, 4, 17, 0) := by decide +kernel
theorem t109_9 : g_at 109 9 = some (.istore_n 1, 0, 0, 0) := by decide +kernel
theorem t109_10 : g_at 109 10 = some (.aload_n 0, 0, 0, 0) := by decide +kernel
theorem t109_11 : g_at 109 11 = some (.iconst 0, 0, 0, 0) := by decide +kernel
theorem t109_12 : g_at 109 12 = some (.putfield 141, 4, 17, 0) := by decide +kernel
theorem t109_15 : g_at 109 15 = some (.iload_n 1, 0, 0, 0) := by decide +kernel
theorem t109_16 : g_at 109 16 = some (.ireturn, 0, 0, 0) := by decide +kernel
theorem t110_0 : g_at 110 0 = some (.aload_n 0, 0, 0, 0) := by decide +kernel
theorem t110_1 : g_at 110 1 = some (.iload_n 1, 0, 0, 0) := by decide +kernel
theorem t110_2 : g_at 110 2 = some (.sipush (255), 0, 0, 255) := by decide +kernel
theorem t110_5 : g_at 110 5 = some (.iand, 0, 0, 0) := by decide +kernel
theorem t110_6 : g_at 110 6 = some (.putfield 95, 3, 4, 0) := by decide +kernel
theorem t110_9 : g_at 110 9 = some (.aload_n 0, 0, 0, 0) := by decide +kernel
theorem t110_10 : g_at 110 10 = some (.iload_n 1, 0, 0, 0) := by decide +kernel
theorem t110_11 : g_at 110 11 = some (.bipush (8), 0, 0, 8) := by decide +kernel
theorem t110_13 : g_at 110 13 = some (.ishr, 0, 0, 0) := by decide +kernel
theorem t110_14 : g_at 110 14 = some (.sipush (255), 0, 0, 255) := by decide +kernel
theorem t110_17 : g_at 110 17 = some (.iand, 0, 0, 0) := by decide +kernel
theorem t110_18 : g_at 110 18 = some (.putfield 102, 3, 5, 0) := by decide +kernel
theorem t110_21 : g_at 110 21 = some (.aload_n 0, 0, 0, 0) := by decide +kernel
theorem t110_22 : g_at 110 22 = some (.iload_n 1, 0, 0, 0) := by decide +kernel
theorem t110_23 : g_at 110 23 = some (.bipush (16), 0, 0, 16) := by decide +kernel
theorem t110_25 : g_at 110 25 = some (.ishr, 0, 0, 0) := by decide +kernel
theorem t110_26 : g_at 110 26 = some (.bipush (15), 0, 0, 15) := by decide +kernel
theorem t110_28 : g_at 110 28 = some (.iand, 0, 0, 0) := by decide +kernel
theorem t110_29 : g_at 110 29 = some (.iload_n 1, 0, 0, 0) := by decide +kernel
theorem t110_30 : g_at 110 30 = some (.bipush (20), 0, 0, 20) := by decide +kernel
theorem t110_32 : g_at 110 32 = some (.ishr, 0, 0, 0) := by decide +kernel
theorem t110_33 : g_at 110 33 = some (.bipush (15), 0, 0, 15) := by decide +kernel
theorem t110_35 : g_at 110 35 = some (.iand, 0, 0, 0) := by decide +kernel
theorem t110_36 : g_at 110 36 = some (.iload_n 1, 0, 0, 0) := by decide +kernel
theorem t110_37 : g_at 110 37 = some (.bipush (24), 0, 0, 24) := by decide +kernel
theorem t110_39 : g_at 110 39 = some (.ishr, 0, 0, 0) := by decide +kernel
theorem t110_40 : g_at 110 40 = some (.bipush (15), 0, 0, 15) := by decide +kernel
theorem t110_42 : g_at 110 42 = some (.iand, 0, 0, 0) := by decide +kernel
theorem t110_43 : g_at 110 43 = some (.invokevirtual 155, 3, 3, 0) := by decide +kernel
theorem t110_46 : g_at 110 46 = some (.return_, 0, 0, 0) := by decide +kernel
theorem t111_0 : g_at 111 0 = some (.aload_n 0, 0, 0, 0) := by decide +kernel
theorem t111_1 : g_at 111 1 = some (.getfield 146, 3, 10, 0) := by decide +kernel
theorem t111_4 : g_at 111 4 = some (.ifCond .ne (6), 10, 0, 0) := by decide +kernel
theorem t111_7 : g_at 111 7 = some (.bipush (-2), 0, 0, (-2)) := by decide +kernel
theorem t111_9 : g_at 111 9 = some (.ireturn, 0, 0, 0) := by decide +kernel
theorem t111_10 : g_at 111 10 = some (.aload_n 0, 0, 0, 0) := by decide +kernel
theorem t111_11 : g_at 111 11 = some (.dup, 0, 0, 0) := by decide +kernel
theorem t111_12 : g_at 111 12 = some (.getfield 146, 3, 10, 0) := by decide +kernel
theorem t111_15 : g_at 111 15 = some (.iconst 1, 0, 0, 1) := by decide +kernel
theorem t111_16 : g_at 111 16 = some (.isub, 0, 0, 0) := by decide +kernel
theorem t111_17 : g_at 111 17 = some (.putfield 146, 3, 10, 0) := by decide +kernel
theorem t111_20 : g_at 111 20 = some (.aload_n 0, 0, 0, 0) := by decide +kernel
theorem t111_21 : g_at 111 21 = some (.aload_n 0, 0, 0, 0) := by decide +kernel
theorem t111_22 : g_at 111 22 = some (.getfield 40, 3, 9, 0) := by decide +kernel
theorem t111_25 : g_at 111 25 = some (.aload_n 0, 0, 0, 0) := by decide +kernel
theorem t111_26 : g_at 111 26 = some (.getfield 146, 3, 10, 0) := by decide +kernel
theorem t111_29 : g_at 111 29 = some (.iaload, 0, 0, 0) := by decide +kernel
theorem t111_30 : g_at 111 30 = some (.invokevirtual 162, 110, 1, 0) := by decide +kernel
theorem t111_33 : g_at 111 33 = some (.aload_n 0, 0, 0, 0) := by decide +kernel
theorem t111_34 : g_at 111 34 = some (.getfield 146, 3, 10, 0) := by decide +kernel
theorem t111_37 : g_at 111 37 = some (.ireturn, 0, 0, 0) := by decide +kernel
theorem t112_0 : g_at 112 0 = some (.aload_n 0, 0, 0, 0) := by decide +kernel
theorem t112_1 : g_at 112 1 = some (.iconst 0, 0, 0, 0) := by decide +kernel
theorem t112_2 : g_at 112 2 = some (.putfield 62, 4, 0, 0) := by decide +kernel
theorem t112_5 : g_at 112 5 = some (.aload_n 0, 0, 0, 0) := by decide +kernel
theorem t112_6 : g_at 112 6 = some (.getfield 147, 4, 13, 0) := by decide +kernel
theorem t112_9 : g_at 112 9 = some (.ifCond .ne (6), 15, 0, 0) := by decide +kernel
theorem t112_12 : g_at 112 12 = some (.bipush (-2), 0, 0, (-2)) := by decide +kernel
theorem t112_14 : g_at 112 14 = some (.ireturn, 0, 0, 0) := by decide +kernel
theorem t112_15 : g_at 112 15 = some (.aload_n 0, 0, 0, 0) := by decide +kernel
theorem t112_16 : g_at 112 16 = some (.dup, 0, 0, 0) := by decide +kernel
theorem t112_17 : g_at 112 17 = some (.getfield 147, 4, 13, 0) := by decide +kernel
theorem t112_20 : g_at 112 20 = some (.iconst 1, 0, 0, 1) := by decide +kernel
theorem t112_21 : g_at 112 21 = some (.isub, 0, 0, 0) := by decide +kernel
theorem t112_22 : g_at 112 22 = some (.putfield 147, 4, 13, 0) := by decide +kernel
theorem t112_25 : g_at 112 25 = some (.iconst 0, 0, 0, 0) := by decide +kernel
theorem t112_26 : g_at 112 26 = some (.istore_n 1, 0, 0, 0) := by decide +kernel
theorem t112_27 : g_at 112 27 = some (.iload_n 1, 0, 0, 0) := by decide +kernel
theorem t112_28 : g_at 112 28 = some (.iconst 5, 0, 0, 5) := by decide +kernel
theorem t112_29 : g_at 112 29 = some (.if_icmp .ge (28), 57, 0, 0) := by decide +kernel
theorem t112_32 : g_at 112 32 = some (.aload_n 0, 0, 0, 0) := by decide +kernel
theorem t112_33 : g_at 112 33 = some (.getfield 22, 4, 11, 0) := by decide +kernel
theorem t112_36 : g_at 112 36 = some (.iload_n 1, 0, 0, 0) := by decide +kernel
theorem t112_37 : g_at 112 37 = some (.aload_n 0, 0, 0, 0) := by decide +kernel
theorem t112_38 : g_at 112 38 = some (.getfield 25, 4, 12, 0) := by decide +kernel
theorem t112_41 : g_at 112 41 = some (.iconst 5, 0, 0, 5) := by decide +kernel
theorem t112_42 : g_at 112 42 = some (.aload_n 0, 0, 0, 0) := by decide +kernel
theorem t112_43 : g_at 112 43 = some (.getfield 147, 4, 13, 0) := by decide +kernel
theorem t112_46 : g_at 112 46 = some (.imul, 0, 0, 0) := by decide +kernel
theorem t112_47 : g_at 112 47 = some (.iload_n 1, 0, 0, 0) := by decide +kernel
theorem t112_48 : g_at 112 48 = some (.iadd, 0, 0, 0) := by decide +kernel
theorem t112_49 : g_at 112 49 = some (.iaload, 0, 0, 0) := by decide +kernel
theorem t112_50 : g_at 112 50 = some (.iastore, 0, 0, 0) := by decide +kernel
theorem t112_51 : g_at 112 51 = some (.iinc 1 (1), 0, 0, 1) := by decide +kernel
theorem t112_54 : g_at 112 54 = some (.goto (-27), 27, 0, 0) := by decide +kernel
theorem t112_57 : g_at 112 57 = some (.aload_n 0, 0, 0, 0) := by decide +kernel
theorem t112_58 : g_at 112 58 = some (.getfield 147, 4, 13, 0) := by decide +kernel
theorem t112_61 : g_at 112 61 = some (.ireturn, 0, 0, 0) := by decide +kernel
theorem t113_0 : g_at 113 0 = some (.iconst 0, 0, 0, 0) := by decide +kernel
theorem t113_1 : g_at 113 1 = some (.istore_n 2, 0, 0, 0) := by decide +kernel
theorem t113_2 : g_at 113 2 = some (.iload_n 2, 0, 0, 0) := by decide +kernel
theorem t113_3 : g_at 113 3 = some (.aload_n 0, 0, 0, 0) := by decide +kernel
theorem t113_4 : g_at 113 4 = some (.getfield 26, 3, 2, 0) := by decide +kernel
theorem t113_7 : g_at 113 7 = some (.getfield 112, 1, 3, 0) := by decide +kernel
theorem t113_10 : g_at 113 10 = some (.if_icmp .ge (68), 78, 0, 0) := by decide +kernel
theorem t113_13 : g_at 113 13 = some (.aload_n 0, 0, 0, 0) := by decide +kernel
theorem t113_14 : g_at 113 14 = some (.getfield 102, 3, 5, 0) := by decide +kernel
theorem t113_17 : g_at 113 17 = some (.iload_n 2, 0, 0, 0) := by decide +kernel
theorem t113_18 : g_at 113 18 = some (.invokestatic 98, 19, 2, 0) := by decide +kernel
theorem t113_21 : g_at 113 21 = some (.ifCond .ne (51), 72, 0, 0) := by decide +kernel
theorem t113_24 : g_at 113 24 = some (.aload_n 0, 0, 0, 0) := by decide +kernel
theorem t113_25 : g_at 113 25 = some (.getfield 26, 3, 2, 0) := by decide +kernel
theorem t113_28 : g_at 113 28 = some (.iload_n 1, 0, 0, 0) := by decide +kernel
theorem t113_29 : g_at 113 29 = some (.iload_n 2, 0, 0, 0) := by decide +kernel
theorem t113_30 : g_at 113 30 = some (.invokevirtual 225, 65, 2, 0) := by decide +kernel
theorem t113_33 : g_at 113 33 = some (.ifCond .ne (39), 72, 0, 0) := by decide +kernel
theorem t113_36 : g_at 113 36 = some (.aload_n 0, 0, 0, 0) := by decide +kernel
theorem t113_37 : g_at 113 37 = some (.getfield 49, 3, 15, 0) := by decide +kernel
theorem t113_40 : g_at 113 40 = some (.iload_n 1, 0, 0, 0) := by decide +kernel
theorem t113_41 : g_at 113 41 = some (.iconst 1, 0, 0, 1) := by decide +kernel
theorem t113_42 : g_at 113 42 = some (.iload_n 2, 0, 0, 0) := by decide +kernel
theorem t113_43 : g_at 113 43 = some (.ishl, 0, 0, 0) := by decide +kernel
theorem t113_44 : g_at 113 44 = some (.ixor, 0, 0, 0) := by decide +kernel
theorem t113_45 : g_at 113 45 = some (.iaload, 0, 0, 0) := by decide +kernel
theorem t113_46 : g_at 113 46 = some (.aload_n 0, 0, 0, 0) := by decide +kernel
theorem t113_47 : g_at 113 47 = some (.getfield 33, 3, 6, 0) := by decide +kernel
theorem t113_50 : g_at 113 50 = some (.aload_n 0, 0, 0, 0) := by decide +kernel
theorem t113_51 : g_at 113 51 = some (.getfield 26, 3, 2, 0) := by decide +kernel
theorem t113_54 : g_at 113 54 = some (.getfield 83, 1, 6, 0) := by decide +kernel
theorem t113_57 : g_at 113 57 = some (.iload_n 2, 0, 0, 0) := by decide +kernel
theorem t113_58 : g_at 113 58 = some (.iaload, 0, 0, 0) := by decide +kernel
theorem t113_59 : g_at 113 59 = some (.iaload, 0, 0, 0) := by decide +kernel
theorem t113_60 : g_at 113 60 = some (.iadd, 0, 0, 0) := by decide +kernel
theorem t113_61 : g_at 113 61 = some (.aload_n 0, 0, 0, 0) := by decide +kernel
theorem t113_62 : g_at 113 62 = some (.getfield 49, 3, 15, 0) := by decide +kernel
theorem t113_65 : g_at 113 65 = some (.iload_n 1, 0, 0, 0) := by decide +kernel
theorem t113_66 : g_at 113 66 = some (.iaload, 0, 0, 0) := by decide +kernel
theorem t113_67 : g_at 113 67 = some (.if_icmp .ne (5), 72, 0, 0) := by decide +kernel
theorem t113_70 : g_at 113 70 = some (.iload_n 2, 0, 0, 0) := by decide +kernel
theorem t113_71 : g_at 113 71 = some (.ireturn, 0, 0, 0) := by decide +kernel
theorem t113_72 : g_at 113 72 = some (.iinc 2 (1), 0, 0, 1) := by decide +kernel
theorem t113_75 : g_at 113 75 = some (.goto (-73), 2, 0, 0) := by decide +kernel
theorem t113_78 : g_at 113 78 = some (.bipush (-9), 0, 0, (-9)) := by decide +kernel
theorem t113_80 : g_at 113 80 = some (.ireturn, 0, 0, 0) := by decide +kernel
theorem t114_0 : g_at 114 0 = some (.aload_n 0, 0, 0, 0) := by decide +kernel
theorem t114_1 : g_at 114 1 = some (.getfield 49, 3, 15, 0) := by decide +kernel
theorem t114_4 : g_at 114 4 = some (.aload_n 0, 0, 0, 0) := by decide +kernel
theorem t114_5 : g_at 114 5 = some (.getfield 95, 3, 4, 0) := by decide +kernel
theorem t114_8 : g_at 114 8 = some (.iaload, 0, 0, 0) := by decide +kernel
theorem t114_9 : g_at 114 9 = some (.istore_n 2, 0, 0, 0) := by decide +kernel
theorem t114_10 : g_at 114 10 = some (.iload_n 2, 0, 0, 0) := by decide +kernel
theorem t114_11 : g_at 114 11 = some (.iconst (-1), 0, 0, (-1)) := by decide +kernel
theorem t114_12 : g_at 114 12 = some (.if_icmp .ne (6), 18, 0, 0) := by decide +kernel
theorem t114_15 : g_at 114 15 = some (.bipush (-9), 0, 0, (-9)) := by decide +kernel
theorem t114_17 : g_at 114 17 = some (.ireturn, 0, 0, 0) := by decide +kernel
theorem t114_18 : g_at 114 18 = some (.iload_n 1, 0, 0, 0) := by decide +kernel
theorem t114_19 : g_at 114 19 = some (.ifCond .ge (5), 24, 0, 0) := by decide +kernel
theorem t114_22 : g_at 114 22 = some (.iload_n 2, 0, 0, 0) := by decide +kernel
theorem t114_23 : g_at 114 23 = some (.ireturn, 0, 0, 0) := by decide +kernel
theorem t114_24 : g_at 114 24 = some (.aload_n 0, 0, 0, 0) := by decide +kernel
theorem t114_25 : g_at 114 25 = some (.getfield 95, 3, 4, 0) := by decide +kernel
theorem t114_28 : g_at 114 28 = some (.istore_n 3, 0, 0, 0) := by decide +kernel
theorem t114_29 : g_at 114 29 = some (.iconst 0, 0, 0, 0) := by decide +kernel
theorem t114_30 : g_at 114 30 = some (.istore 4, 0, 0, 0) := by decide +kernel
theorem t114_32 : g_at 114 32 = some (.iload 4, 0, 0, 0) := by decide +kernel
theorem t114_34 : g_at 114 34 = some (.sipush (256), 0, 0, 256) := by decide +kernel
theorem t114_37 : g_at 114 37 = some (.if_icmp .ge (57), 94, 0, 0) := by decide +kernel
theorem t114_40 : g_at 114 40 = some (.iload 4, 0, 0, 0) := by decide +kernel
theorem t114_42 : g_at 114 42 = some (.iload_n 1, 0, 0, 0) := by decide +kernel
theorem t114_43 : g_at 114 43 = some (.if_icmp .gt (51), 94, 0, 0) := by decide +kernel
theorem t114_46 : g_at 114 46 = some (.aload_n 0, 0, 0, 0) := by decide +kernel
theorem t114_47 : g_at 114 47 = some (.getfield 49, 3, 15, 0) := by decide +kernel
theorem t114_50 : g_at 114 50 = some (.iload_n 3, 0, 0, 0) := by decide +kernel
theorem t114_51 : g_at 114 51 = some (.iaload, 0, 0, 0) := by decide +kernel
theorem t114_52 : g_at 114 52 = some (.ifCond .le (42), 94, 0, 0) := by decide +kernel
theorem t114_55 : g_at 114 55 = some (.aload_n 0, 0, 0, 0) := by decide +kernel
theorem t114_56 : g_at 114 56 = some (.iload_n 3, 0, 0, 0) := by decide +kernel
theorem t114_57 : g_at 114 57 = some (.invokevirtual 233, 113, 1, 0) := by decide +kernel
theorem t114_60 : g_at 114 60 = some (.istore 5, 0, 0, 0) := by decide +kernel
theorem t114_62 : g_at 114 62 = some (.iload 5, 0, 0, 0) := by decide +kernel
theorem t114_64 : g_at 114 64 = some (.bipush (-9), 0, 0, (-9)) := by decide +kernel
theorem t114_66 : g_at 114 66 = some (.if_icmp .ne (6), 72, 0, 0) := by decide +kernel
theorem t114_69 : g_at 114 69 = some (.bipush (-9), 0, 0, (-9)) := by decide +kernel
theorem t114_71 : g_at 114 71 = some (.ireturn, 0, 0, 0) := by decide +kernel
theorem t114_72 : g_at 114 72 = some (.iload 4, 0, 0, 0) := by decide +kernel
theorem t114_74 : g_at 114 74 = some (.iload_n 1, 0, 0, 0) := by decide +kernel
theorem t114_75 : g_at 114 75 = some (.if_icmp .ne (6), 81, 0, 0) := by decide +kernel
theorem t114_78 : g_at 114 78 = some (.iload 5, 0, 0, 0) := by decide +kernel
theorem t114_80 : g_at 114 80 = some (.ireturn, 0, 0, 0) := by decide +kernel
theorem t114_81 : g_at 114 81 = some (.iload_n 3, 0, 0, 0) := by decide +kernel
theorem t114_82 : g_at 114 82 = some (.iconst 1, 0, 0, 1) := by decide +kernel
theorem t114_83 : g_at 114 83 = some (.iload 5, 0, 0, 0) := by decide +kernel
theorem t114_85 : g_at 114 85 = some (.ishl, 0, 0, 0) := by decide +kernel
theorem t114_86 : g_at 114 86 = some (.ixor, 0, 0, 0) := by decide +kernel
theorem t114_87 : g_at 114 87 = some (.istore_n 3, 0, 0, 0) := by decide +kernel
theorem t114_88 : g_at 114 88 = some (.iinc 4 (1), 0, 0, 1) := by decide +kernel
theorem t114_91 : g_at 114 91 = some (.goto (-59), 32, 0, 0) := by decide +kernel
theorem t114_94 : g_at 114 94 = some (.bipush (-9), 0, 0, (-9)) := by decide +kernel
theorem t114_96 : g_at 114 96 = some (.ireturn, 0, 0, 0) := by decide +kernel
theorem t115_0 : g_at 115 0 = some (.iload_n 1, 0, 0, 0) := by decide +kernel
theorem t115_1 : g_at 115 1 = some (.aload_n 0, 0, 0, 0) := by decide +kernel
theorem t115_2 : g_at 115 2 = some (.getfield 26, 3, 2, 0) := by decide +kernel
theorem t115_5 : g_at 115 5 = some (.invokevirtual 166, 35, 0, 0) := by decide +kernel
theorem t115_8 : g_at 115 8 = some (.iconst (-1), 0, 0, (-1)) := by decide +kernel
theorem t115_9 : g_at 115 9 = some (.ixor, 0, 0, 0) := by decide +kernel
theorem t115_10 : g_at 115 10 = some (.iand, 0, 0, 0) := by decide +kernel
theorem t115_11 : g_at 115 11 = some (.ifCond .ne (16), 27, 0, 0) := by decide +kernel
theorem t115_14 : g_at 115 14 = some (.iload_n 2, 0, 0, 0) := by decide +kernel
theorem t115_15 : g_at 115 15 = some (.iload_n 1, 0, 0, 0) := by decide +kernel
theorem t115_16 : g_at 115 16 = some (.iconst (-1), 0, 0, (-1)) := by decide +kernel
theorem t115_17 : g_at 115 17 = some (.ixor, 0, 0, 0) := by decide +kernel
theorem t115_18 : g_at 115 18 = some (.iand, 0, 0, 0) := by decide +kernel
theorem t115_19 : g_at 115 19 = some (.ifCond .ne (8), 27, 0, 0) := by decide +kernel
theorem t115_22 : g_at 115 22 = some (.iload_n 3, 0, 0, 0) := by decide +kernel
theorem t115_23 : g_at 115 23 = some (.iconst (-1), 0, 0, (-1)) := by decide +kernel
theorem t115_24 : g_at 115 24 = some (.if_icmp .ge (5), 29, 0, 0) := by decide +kernel
theorem t115_27 : g_at 115 27 = some (.iconst (-1), 0, 0, (-1)) := by decide +kernel
theorem t115_28 : g_at 115 28 = some (.ireturn, 0, 0, 0) := by decide +kernel
theorem t115_29 : g_at 115 29 = some (.aload_n 0, 0, 0, 0) := by decide +kernel
theorem t115_30 : g_at 115 30 = some (.iload_n 1, 0, 0, 0) := by decide +kernel
theorem t115_31 : g_at 115 31 = some (.iload_n 2, 0, 0, 0) := by decide +kernel
theorem t115_32 : g_at 115 32 = some (.iconst 0, 0, 0, 0) := by decide +kernel
theorem t115_33 : g_at 115 33 = some (.iconst 0, 0, 0, 0) := by decide +kernel
theorem t115_34 : g_at 115 34 = some (.invokevirtual 169, 83, 4, 0) := by decide +kernel
theorem t115_37 : g_at 115 37 = some (.aload_n 0, 0, 0, 0) := by decide +kernel
theorem t115_38 : g_at 115 38 = some (.iload_n 3, 0, 0, 0) := by decide +kernel
theorem t115_39 : g_at 115 39 = some (.invokevirtual 173, 114, 1, 0) := by decide +kernel
theorem t115_42 : g_at 115 42 = some (.ireturn, 0, 0, 0) := by decide +kernel
theorem t116_0 : g_at 116 0 = some (.aload_n 0, 0, 0, 0) := by decide +kernel
theorem t116_1 : g_at 116 1 = some (.invokevirtual 186, 90, 0, 0) := by decide +kernel
theorem t116_4 : g_at 116 4 = some (.iconst 0, 0, 0, 0) := by decide +kernel
theorem t116_5 : g_at 116 5 = some (.istore_n 1, 0, 0, 0) := by decide +kernel
theorem t116_6 : g_at 116 6 = some (.iload_n 1, 0, 0, 0) := by decide +kernel
theorem t116_7 : g_at 116 7 = some (.aload_n 0, 0, 0, 0) := by decide +kernel
theorem t116_8 : g_at 116 8 = some (.invokevirtual 183, 89, 0, 0) := by decide +kernel
theorem t116_11 : g_at 116 11 = some (.if_icmp .ge (30), 41, 0, 0) := by decide +kernel
theorem t116_14 : g_at 116 14 = some (.aload_n 0, 0, 0, 0) := by decide +kernel
theorem t116_15 : g_at 116 15 = some (.getfield 47, 4, 22, 0) := by decide +kernel
theorem t116_18 : g_at 116 18 = some (.iload_n 1, 0, 0, 0) := by decide +kernel
theorem t116_19 : g_at 116 19 = some (.aload_n 0, 0, 0, 0) := by decide +kernel
theorem t116_20 : g_at 116 20 = some (.getfield 50, 4, 23, 0) := by decide +kernel
theorem t116_23 : g_at 116 23 = some (.iload_n 1, 0, 0, 0) := by decide +kernel
theorem t116_24 : g_at 116 24 = some (.baload, 0, 0, 0) := by decide +kernel
theorem t116_25 : g_at 116 25 = some (.ifCond .eq (7), 32, 0, 0) := by decide +kernel
theorem t116_28 : g_at 116 28 = some (.iconst 0, 0, 0, 0) := by decide +kernel
theorem t116_29 : g_at 116 29 = some (.goto (5), 34, 0, 0) := by decide +kernel
theorem t116_32 : g_at 116 32 = some (.ldc 189, 0, 0, 99999) := by decide +kernel
theorem t116_34 : g_at 116 34 = some (.iastore, 0, 0, 0) := by decide +kernel
theorem t116_35 : g_at 116 35 = some (.iinc 1 (1), 0, 0, 1) := by decide +kernel
theorem t116_38 : g_at 116 38 = some (.goto (-32), 6, 0, 0) := by decide +kernel
theorem t116_41 : g_at 116 41 = some (.iconst 1, 0, 0, 1) := by decide +kernel
theorem t116_42 : g_at 116 42 = some (.istore_n 1, 0, 0, 0) := by decide +kernel
theorem t116_43 : g_at 116 43 = some (.iload_n 1, 0, 0, 0) := by decide +kernel
theorem t116_44 : g_at 116 44 = some (.ifCond .eq (128), 172, 0, 0) := by decide +kernel
theorem t116_47 : g_at 116 47 = some (.iconst 0, 0, 0, 0) := by decide +kernel
theorem t116_48 : g_at 116 48 = some (.istore_n 1, 0, 0, 0) := by decide +kernel
theorem t116_49 : g_at 116 49 = some (.iconst 0, 0, 0, 0) := by decide +kernel
theorem t116_50 : g_at 116 50 = some (.istore_n 2, 0, 0, 0) := by decide +kernel
theorem t116_51 : g_at 116 51 = some (.iload_n 2, 0, 0, 0) := by decide +kernel
theorem t116_52 : g_at 116 52 = some (.aload_n 0, 0, 0, 0) := by decide +kernel
theorem t116_53 : g_at 116 53 = some (.invokevirtual 183, 89, 0, 0) := by decide +kernel
theorem t116_56 : g_at 116 56 = some (.if_icmp .ge (113), 169, 0, 0) := by decide +kernel
theorem t116_59 : g_at 116 59 = some (.iconst 0, 0, 0, 0) := by decide +kernel
theorem t116_60 : g_at 116 60 = some (.istore_n 3, 0, 0, 0) := by decide +kernel
theorem t116_61 : g_at 116 61 = some (.iload_n 3, 0, 0, 0) := by decide +kernel
theorem t116_62 : g_at 116 62 = some (.aload_n 0, 0, 0, 0) := by decide +kernel
theorem t116_63 : g_at 116 63 = some (.getfield 13, 4, 8, 0) := by decide +kernel
theorem t116_66 : g_at 116 66 = some (.iconst 3, 0, 0, 3) := by decide +kernel
theorem t116_67 : g_at 116 67 = some (.iaload, 0, 0, 0) := by decide +kernel
theorem t116_68 : g_at 116 68 = some (.if_icmp .ge (95), 163, 0, 0) := by decide +kernel
theorem t116_71 : g_at 116 71 = some (.aload_n 0, 0, 0, 0) := by decide +kernel
theorem t116_72 : g_at 116 72 = some (.getfield 53, 4, 24, 0) := by decide +kernel
theorem t116_75 : g_at 116 75 = some (.bipush (8), 0, 0, 8) := by decide +kernel
theorem t116_77 : g_at 116 77 = some (.iload_n 2, 0, 0, 0) := by decide +kernel
theorem t116_78 : g_at 116 78 = some (.imul, 0, 0, 0) := by decide +kernel
theorem t116_79 : g_at 116 79 = some (.iload_n 3, 0, 0, 0) := by decide +kernel
theorem t116_80 : g_at 116 80 = some (.iadd, 0, 0, 0) := by decide +kernel
theorem t116_81 : g_at 116 81 = some (.baload, 0, 0, 0) := by decide +kernel
theorem t116_82 : g_at 116 82 = some (.ifCond .eq (22), 104, 0, 0) := by decide +kernel
theorem t116_85 : g_at 116 85 = some (.aload_n 0, 0, 0, 0) := by decide +kernel
theorem t116_86 : g_at 116 86 = some (.getfield 47, 4, 22, 0) := by decide +kernel
theorem t116_89 : g_at 116 89 = some (.iload_n 2, 0, 0, 0) := by decide +kernel
theorem t116_90 : g_at 116 90 = some (.iconst 1, 0, 0, 1) := by decide +kernel
theorem t116_91 : g_at 116 91 = some (.iload_n 3, 0, 0, 0) := by decide +kernel
theorem t116_92 : g_at 116 92 = some (.ishl, 0, 0, 0) := by decide +kernel
theorem t116_93 : g_at 116 93 = some (.ixor, 0, 0, 0) := by decide +kernel
theorem t116_94 : g_at 116 94 = some (.iaload, 0, 0, 0) := by decide +kernel
theorem t116_95 : g_at 116 95 = some (.aload_n 0, 0, 0, 0) := by decide +kernel
theorem t116_96 : g_at 116 96 = some (.iload_n 3, 0, 0, 0) := by decide +kernel
theorem t116_97 : g_at 116 97 = some (.invokevirtual 190, 91, 1, 0) := by decide +kernel
theorem t116_100 : g_at 116 100 = some (.iadd, 0, 0, 0) := by decide +kernel
theorem t116_101 : g_at 116 101 = some (.goto (5), 106, 0, 0) := by decide +kernel
theorem t116_104 : g_at 116 104 = some (.ldc 189, 0, 0, 99999) := by decide +kernel
theorem t116_106 : g_at 116 106 = some (.istore 4, 0, 0, 0) := by decide +kernel
theorem t116_108 : g_at 116 108 = some (.iload_n 1, 0, 0, 0) := by decide +kernel
theorem t116_109 : g_at 116 109 = some (.ifCond .ne (14), 123, 0, 0) := by decide +kernel
theorem t116_112 : g_at 116 112 = some (.iload 4, 0, 0, 0) := by decide +kernel
theorem t116_114 : g_at 116 114 = some (.aload_n 0, 0, 0, 0) := by decide +kernel
theorem t116_115 : g_at 116 115 = some (.getfield 47, 4, 22, 0) := by decide +kernel
theorem t116_118 : g_at 116 118 = some (.iload_n 2, 0, 0, 0) := by decide +kernel
theorem t116_119 : g_at 116 119 = some (.iaload, 0, 0, 0) := by decide +kernel
theorem t116_120 : g_at 116 120 = some (.if_icmp .ge (7), 127, 0, 0) := by decide +kernel
theorem t116_123 : g_at 116 123 = some (.iconst 1, 0, 0, 1) := by decide +kernel
theorem t116_124 : g_at 116 124 = some (.goto (4), 128, 0, 0) := by decide +kernel
theorem t116_127 : g_at 116 127 = some (.iconst 0, 0, 0, 0) := by decide +kernel
theorem t116_128 : g_at 116 128 = some (.istore_n 1, 0, 0, 0) := by decide +kernel
theorem t116_129 : g_at 116 129 = some (.aload_n 0, 0, 0, 0) := by decide +kernel
theorem t116_130 : g_at 116 130 = some (.getfield 47, 4, 22, 0) := by decide +kernel
theorem t116_133 : g_at 116 133 = some (.iload_n 2, 0, 0, 0) := by decide +kernel
theorem t116_134 : g_at 116 134 = some (.iload 4, 0, 0, 0) := by decide +kernel
theorem t116_136 : g_at 116 136 = some (.aload_n 0, 0, 0, 0) := by decide +kernel
theorem t116_137 : g_at 116 137 = some (.getfield 47, 4, 22, 0) := by decide +kernel
theorem t116_140 : g_at 116 140 = some (.iload_n 2, 0, 0, 0) := by decide +kernel
theorem t116_141 : g_at 116 141 = some (.iaload, 0, 0, 0) := by decide +kernel
theorem t116_142 : g_at 116 142 = some (.if_icmp .ge (8), 150, 0, 0) := by decide +kernel
theorem t116_145 : g_at 116 145 = some (.iload 4, 0, 0, 0) := by decide +kernel
theorem t116_147 : g_at 116 147 = some (.goto (9), 156, 0, 0) := by decide +kernel
theorem t116_150 : g_at 116 150 = some (.aload_n 0, 0, 0, 0) := by decide +kernel
theorem t116_151 : g_at 116 151 = some (.getfield 47, 4, 22, 0) := by decide +kernel
theorem t116_154 : g_at 116 154 = some (.iload_n 2, 0, 0, 0) := by decide +kernel
theorem t116_155 : g_at 116 155 = some (.iaload, 0, 0, 0) := by decide +kernel
theorem t116_156 : g_at 116 156 = some (.iastore, 0, 0, 0) := by decide +kernel
theorem t116_157 : g_at 116 157 = some (.iinc 3 (1), 0, 0, 1) := by decide +kernel
theorem t116_160 : g_at 116 160 = some (.goto (-99), 61, 0, 0) := by decide +kernel
theorem t116_163 : g_at 116 163 = some (.iinc 2 (1), 0, 0, 1) := by decide +kernel
theorem t116_166 : g_at 116 166 = some (.goto (-115), 51, 0, 0) := by decide +kernel
theorem t116_169 : g_at 116 169 = some (.goto (-126), 43, 0, 0) := by decide +kernel
theorem t116_172 : g_at 116 172 = some (.return_, 0, 0, 0) := by decide +kernel
theorem t117_0 : g_at 117 0 = some (.aload_n 0, 0, 0, 0) := by decide +kernel
theorem t117_1 : g_at 117 1 = some (.invokevirtual 193, 116, 0, 0) := by decide +kernel
theorem t117_4 : g_at 117 4 = some (.aload_n 0, 0, 0, 0) := by decide +kernel
theorem t117_5 : g_at 117 5 = some (.getfield 22, 4, 11, 0) := by decide +kernel
theorem t117_8 : g_at 117 8 = some (.iconst 0, 0, 0, 0) := by decide +kernel
theorem t117_9 : g_at 117 9 = some (.iaload, 0, 0, 0) := by decide +kernel
theorem t117_10 : g_at 117 10 = some (.istore_n 2, 0, 0, 0) := by decide +kernel
theorem t117_11 : g_at 117 11 = some (.aload_n 0, 0, 0, 0) := by decide +kernel
theorem t117_12 : g_at 117 12 = some (.getfield 47, 4, 22, 0) := by decide +kernel
theorem t117_15 : g_at 117 15 = some (.iload_n 2, 0, 0, 0) := by decide +kernel
theorem t117_16 : g_at 117 16 = some (.iaload, 0, 0, 0) := by decide +kernel
theorem t117_17 : g_at 117 17 = some (.ldc 189, 0, 0, 99999) := by decide +kernel
theorem t117_19 : g_at 117 19 = some (.if_icmp .lt (6), 25, 0, 0) := by decide +kernel
theorem t117_22 : g_at 117 22 = some (.bipush (-9), 0, 0, (-9)) := by decide +kernel
theorem t117_24 : g_at 117 24 = some (.ireturn, 0, 0, 0) := by decide +kernel
theorem t117_25 : g_at 117 25 = some (.aload_n 0, 0, 0, 0) := by decide +kernel
theorem t117_26 : g_at 117 26 = some (.getfield 47, 4, 22, 0) := by decide +kernel
theorem t117_29 : g_at 117 29 = some (.iload_n 2, 0, 0, 0) := by decide +kernel
theorem t117_30 : g_at 117 30 = some (.iaload, 0, 0, 0) := by decide +kernel
theorem t117_31 : g_at 117 31 = some (.istore_n 3, 0, 0, 0) := by decide +kernel
theorem t117_32 : g_at 117 32 = some (.iconst 0, 0, 0, 0) := by decide +kernel
theorem t117_33 : g_at 117 33 = some (.istore 4, 0, 0, 0) := by decide +kernel
theorem t117_35 : g_at 117 35 = some (.iload 4, 0, 0, 0) := by decide +kernel
theorem t117_37 : g_at 117 37 = some (.iload_n 1, 0, 0, 0) := by decide +kernel
theorem t117_38 : g_at 117 38 = some (.if_icmp .gt (82), 120, 0, 0) := by decide +kernel
theorem t117_41 : g_at 117 41 = some (.aload_n 0, 0, 0, 0) := by decide +kernel
theorem t117_42 : g_at 117 42 = some (.getfield 47, 4, 22, 0) := by decide +kernel
theorem t117_45 : g_at 117 45 = some (.iload_n 2, 0, 0, 0) := by decide +kernel
theorem t117_46 : g_at 117 46 = some (.iaload, 0, 0, 0) := by decide +kernel
theorem t117_47 : g_at 117 47 = some (.ifCond .ne (6), 53, 0, 0) := by decide +kernel
theorem t117_50 : g_at 117 50 = some (.bipush (-9), 0, 0, (-9)) := by decide +kernel
theorem t117_52 : g_at 117 52 = some (.ireturn, 0, 0, 0) := by decide +kernel
theorem t117_53 : g_at 117 53 = some (.iconst 0, 0, 0, 0) := by decide +kernel
theorem t117_54 : g_at 117 54 = some (.istore 5, 0, 0, 0) := by decide +kernel
theorem t117_56 : g_at 117 56 = some (.aload_n 0, 0, 0, 0) := by decide +kernel
theorem t117_57 : g_at 117 57 = some (.getfield 53, 4, 24, 0) := by decide +kernel
theorem t117_60 : g_at 117 60 = some (.bipush (8), 0, 0, 8) := by decide +kernel
theorem t117_62 : g_at 117 62 = some (.iload_n 2, 0, 0, 0) := by decide +kernel
theorem t117_63 : g_at 117 63 = some (.imul, 0, 0, 0) := by decide +kernel
theorem t117_64 : g_at 117 64 = some (.iload 5, 0, 0, 0) := by decide +kernel
theorem t117_66 : g_at 117 66 = some (.iadd, 0, 0, 0) := by decide +kernel
theorem t117_67 : g_at 117 67 = some (.baload, 0, 0, 0) := by decide +kernel
theorem t117_68 : g_at 117 68 = some (.ifCond .eq (30), 98, 0, 0) := by decide +kernel
theorem t117_71 : g_at 117 71 = some (.aload_n 0, 0, 0, 0) := by decide +kernel
theorem t117_72 : g_at 117 72 = some (.getfield 47, 4, 22, 0) := by decide +kernel
theorem t117_75 : g_at 117 75 = some (.iload_n 2, 0, 0, 0) := by decide +kernel
theorem t117_76 : g_at 117 76 = some (.iconst 1, 0, 0, 1) := by decide +kernel
theorem t117_77 : g_at 117 77 = some (.iload 5, 0, 0, 0) := by decide +kernel
theorem t117_79 : g_at 117 79 = some (.ishl, 0, 0, 0) := by decide +kernel
theorem t117_80 : g_at 117 80 = some (.ixor, 0, 0, 0) := by decide +kernel
theorem t117_81 : g_at 117 81 = some (.iaload, 0, 0, 0) := by decide +kernel
theorem t117_82 : g_at 117 82 = some (.aload_n 0, 0, 0, 0) := by decide +kernel
theorem t117_83 : g_at 117 83 = some (.iload 5, 0, 0, 0) := by decide +kernel
theorem t117_85 : g_at 117 85 = some (.invokevirtual 190, 91, 1, 0) := by decide +kernel
theorem t117_88 : g_at 117 88 = some (.iadd, 0, 0, 0) := by decide +kernel
theorem t117_89 : g_at 117 89 = some (.aload_n 0, 0, 0, 0) := by decide +kernel
theorem t117_90 : g_at 117 90 = some (.getfield 47, 4, 22, 0) := by decide +kernel
theorem t117_93 : g_at 117 93 = some (.iload_n 2, 0, 0, 0) := by decide +kernel
theorem t117_94 : g_at 117 94 = some (.iaload, 0, 0, 0) := by decide +kernel
theorem t117_95 : g_at 117 95 = some (.if_icmp .eq (9), 104, 0, 0) := by decide +kernel
theorem t117_98 : g_at 117 98 = some (.iinc 5 (1), 0, 0, 1) := by decide +kernel
theorem t117_101 : g_at 117 101 = some (.goto (-45), 56, 0, 0) := by decide +kernel
theorem t117_104 : g_at 117 104 = some (.iload_n 2, 0, 0, 0) := by decide +kernel
theorem t117_105 : g_at 117 105 = some (.iconst 1, 0, 0, 1) := by decide +kernel
theorem t117_106 : g_at 117 106 = some (.iload 5, 0, 0, 0) := by decide +kernel
theorem t117_108 : g_at 117 108 = some (.ishl, 0, 0, 0) := by decide +kernel
theorem t117_109 : g_at 117 109 = some (.ixor, 0, 0, 0) := by decide +kernel
theorem t117_110 : g_at 117 110 = some (.istore_n 2, 0, 0, 0) := by decide +kernel
theorem t117_111 : g_at 117 111 = some (.iload 5, 0, 0, 0) := by decide +kernel
theorem t117_113 : g_at 117 113 = some (.istore_n 3, 0, 0, 0) := by decide +kernel
theorem t117_114 : g_at 117 114 = some (.iinc 4 (1), 0, 0, 1) := by decide +kernel
theorem t117_117 : g_at 117 117 = some (.goto (-82), 35, 0, 0) := by decide +kernel
theorem t117_120 : g_at 117 120 = some (.iload_n 3, 0, 0, 0) := by decide +kernel
theorem t117_121 : g_at 117 121 = some (.ireturn, 0, 0, 0) := by decide +kernel
theorem t118_0 : g_at 118 0 = some (.aload_n 0, 0, 0, 0) := by decide +kernel
theorem t118_1 : g_at 118 1 = some (.iconst 0, 0, 0, 0) := by decide +kernel
theorem t118_2 : g_at 118 2 = some (.putfield 62, 4, 0, 0) := by decide +kernel
theorem t118_5 : g_at 118 5 = some (.iload_n 1, 0, 0, 0) := by decide +kernel
theorem t118_6 : g_at 118 6 = some (.iconst 0, 0, 0, 0) := by decide +kernel
theorem t118_7 : g_at 118 7 = some (.aload_n 0, 0, 0, 0) := by decide +kernel
theorem t118_8 : g_at 118 8 = some (.invokevirtual 183, 89, 0, 0) := by decide +kernel
theorem t118_11 : g_at 118 11 = some (.iconst 1, 0, 0, 1) := by decide +kernel
theorem t118_12 : g_at 118 12 = some (.isub, 0, 0, 0) := by decide +kernel
theorem t118_13 : g_at 118 13 = some (.invokestatic 66, 10, 3, 0) := by decide +kernel
theorem t118_16 : g_at 118 16 = some (.ifCond .eq (20), 36, 0, 0) := by decide +kernel
theorem t118_19 : g_at 118 19 = some (.iload_n 2, 0, 0, 0) := by decide +kernel
theorem t118_20 : g_at 118 20 = some (.ifCond .lt (16), 36, 0, 0) := by decide +kernel
theorem t118_23 : g_at 118 23 = some (.iload_n 2, 0, 0, 0) := by decide +kernel
theorem t118_24 : g_at 118 24 = some (.iload_n 1, 0, 0, 0) := by decide +kernel
theorem t118_25 : g_at 118 25 = some (.iconst (-1), 0, 0, (-1)) := by decide +kernel
theorem t118_26 : g_at 118 26 = some (.ixor, 0, 0, 0) := by decide +kernel
theorem t118_27 : g_at 118 27 = some (.iand, 0, 0, 0) := by decide +kernel
theorem t118_28 : g_at 118 28 = some (.ifCond .ne (8), 36, 0, 0) := by decide +kernel
theorem t118_31 : g_at 118 31 = some (.iload_n 3, 0, 0, 0) := by decide +kernel
theorem t118_32 : g_at 118 32 = some (.iconst (-1), 0, 0, (-1)) := by decide +kernel
theorem t118_33 : g_at 118 33 = some (.if_icmp .ge (5), 38, 0, 0) := by decide +kernel
theorem t118_36 : g_at 118 36 = some (.iconst (-1), 0, 0, (-1)) := by decide +kernel
theorem t118_37 : g_at 118 37 = some (.ireturn, 0, 0, 0) := by decide +kernel
theorem t118_38 : g_at 118 38 = some (.iconst 0, 0, 0, 0) := by decide +kernel
theorem t118_39 : g_at 118 39 = some (.istore 4, 0, 0, 0) := by decide +kernel
theorem t118_41 : g_at 118 41 = some (.iload 4, 0, 0, 0) := by decide +kernel
theorem t118_43 : g_at 118 43 = some (.aload_n 0, 0, 0, 0) := by decide +kernel
theorem t118_44 : g_at 118 44 = some (.invokevirtual 183, 89, 0, 0) := by decide +kernel
theorem t118_47 : g_at 118 47 = some (.if_icmp .ge (29), 76, 0, 0) := by decide +kernel
theorem t118_50 : g_at 118 50 = some (.aload_n 0, 0, 0, 0) := by decide +kernel
theorem t118_51 : g_at 118 51 = some (.getfield 50, 4, 23, 0) := by decide +kernel
theorem t118_54 : g_at 118 54 = some (.iload 4, 0, 0, 0) := by decide +kernel
theorem t118_56 : g_at 118 56 = some (.iload 4, 0, 0, 0) := by decide +kernel
theorem t118_58 : g_at 118 58 = some (.iload_n 1, 0, 0, 0) := by decide +kernel
theorem t118_59 : g_at 118 59 = some (.iand, 0, 0, 0) := by decide +kernel
theorem t118_60 : g_at 118 60 = some (.iload_n 2, 0, 0, 0) := by decide +kernel
theorem t118_61 : g_at 118 61 = some (.if_icmp .ne (7), 68, 0, 0) := by decide +kernel
theorem t118_64 : g_at 118 64 = some (.iconst 1, 0, 0, 1) := by decide +kernel
theorem t118_65 : g_at 118 65 = some (.goto (4), 69, 0, 0) := by decide +kernel
theorem t118_68 : g_at 118 68 = some (.iconst 0, 0, 0, 0) := by decide +kernel
theorem t118_69 : g_at 118 69 = some (.bastore, 0, 0, 0) := by decide +kernel
theorem t118_70 : g_at 118 70 = some (.iinc 4 (1), 0, 0, 1) := by decide +kernel
theorem t118_73 : g_at 118 73 = some (.goto (-32), 41, 0, 0) := by decide +kernel
theorem t118_76 : g_at 118 76 = some (.aload_n 0, 0, 0, 0) := by decide +kernel
theorem t118_77 : g_at 118 77 = some (.iload_n 3, 0, 0, 0) := by decide +kernel
theorem t118_78 : g_at 118 78 = some (.invokevirtual 196, 117, 1, 0) := by decide +kernel
theorem t118_81 : g_at 118 81 = some (.ireturn, 0, 0, 0) := by decide +kernel
theorem t119_0 : g_at 119 0 = some (.aload_n 0, 0, 0, 0) := by decide +kernel
theorem t119_1 : g_at 119 1 = some (.iload_n 1, 0, 0, 0) := by decide +kernel
theorem t119_2 : g_at 119 2 = some (.invokevirtual 115, 74, 1, 0) := by decide +kernel
theorem t119_5 : g_at 119 5 = some (.ifCond .eq (8), 13, 0, 0) := by decide +kernel
theorem t119_8 : g_at 119 8 = some (.iload_n 2, 0, 0, 0) := by decide +kernel
theorem t119_9 : g_at 119 9 = some (.iconst (-1), 0, 0, (-1)) := by decide +kernel
theorem t119_10 : g_at 119 10 = some (.if_icmp .ge (5), 15, 0, 0) := by decide +kernel
theorem t119_13 : g_at 119 13 = some (.iconst (-1), 0, 0, (-1)) := by decide +kernel
theorem t119_14 : g_at 119 14 = some (.ireturn, 0, 0, 0) := by decide +kernel
theorem t119_15 : g_at 119 15 = some (.aload_n 0, 0, 0, 0) := by decide +kernel
theorem t119_16 : g_at 119 16 = some (.iconst 0, 0, 0, 0) := by decide +kernel
theorem t119_17 : g_at 119 17 = some (.iconst 0, 0, 0, 0) := by decide +kernel
theorem t119_18 : g_at 119 18 = some (.iconst 1, 0, 0, 1) := by decide +kernel
theorem t119_19 : g_at 119 19 = some (.iload_n 1, 0, 0, 0) := by decide +kernel
theorem t119_20 : g_at 119 20 = some (.ishl, 0, 0, 0) := by decide +kernel
theorem t119_21 : g_at 119 21 = some (.iconst 0, 0, 0, 0) := by decide +kernel
theorem t119_22 : g_at 119 22 = some (.invokevirtual 169, 83, 4, 0) := by decide +kernel
theorem t119_25 : g_at 119 25 = some (.aload_n 0, 0, 0, 0) := by decide +kernel
theorem t119_26 : g_at 119 26 = some (.iload_n 2, 0, 0, 0) := by decide +kernel
theorem t119_27 : g_at 119 27 = some (.invokevirtual 173, 114, 1, 0) := by decide +kernel
theorem t119_30 : g_at 119 30 = some (.ireturn, 0, 0, 0) := by decide +kernel
theorem t120_0 : g_at 120 0 = some (.aload_n 0, 0, 0, 0) := by decide +kernel
theorem t120_1 : g_at 120 1 = some (.iconst 0, 0, 0, 0) := by decide +kernel
theorem t120_2 : g_at 120 2 = some (.putfield 62, 4, 0, 0) := by decide +kernel
theorem t120_5 : g_at 120 5 = some (.aload_n 0, 0, 0, 0) := by decide +kernel
theorem t120_6 : g_at 120 6 = some (.iload_n 1, 0, 0, 0) := by decide +kernel
theorem t120_7 : g_at 120 7 = some (.invokevirtual 167, 77, 1, 0) := by decide +kernel
theorem t120_10 : g_at 120 10 = some (.ifCond .eq (8), 18, 0, 0) := by decide +kernel
theorem t120_13 : g_at 120 13 = some (.iload_n 2, 0, 0, 0) := by decide +kernel
theorem t120_14 : g_at 120 14 = some (.iconst (-1), 0, 0, (-1)) := by decide +kernel
theorem t120_15 : g_at 120 15 = some (.if_icmp .ge (5), 20, 0, 0) := by decide +kernel
theorem t120_18 : g_at 120 18 = some (.iconst (-1), 0, 0, (-1)) := by decide +kernel
theorem t120_19 : g_at 120 19 = some (.ireturn, 0, 0, 0) := by decide +kernel
theorem t120_20 : g_at 120 20 = some (.iconst 0, 0, 0, 0) := by decide +kernel
theorem t120_21 : g_at 120 21 = some (.istore_n 3, 0, 0, 0) := by decide +kernel
theorem t120_22 : g_at 120 22 = some (.iload_n 3, 0, 0, 0) := by decide +kernel
theorem t120_23 : g_at 120 23 = some (.aload_n 0, 0, 0, 0) := by decide +kernel
theorem t120_24 : g_at 120 24 = some (.invokevirtual 183, 89, 0, 0) := by decide +kernel
theorem t120_27 : g_at 120 27 = some (.if_icmp .ge (52), 79, 0, 0) := by decide +kernel
theorem t120_30 : g_at 120 30 = some (.aload_n 0, 0, 0, 0) := by decide +kernel
theorem t120_31 : g_at 120 31 = some (.getfield 50, 4, 23, 0) := by decide +kernel
theorem t120_34 : g_at 120 34 = some (.iload_n 3, 0, 0, 0) := by decide +kernel
theorem t120_35 : g_at 120 35 = some (.aload_n 0, 0, 0, 0) := by decide +kernel
theorem t120_36 : g_at 120 36 = some (.aload_n 0, 0, 0, 0) := by decide +kernel
theorem t120_37 : g_at 120 37 = some (.getfield 13, 4, 8, 0) := by decide +kernel
theorem t120_40 : g_at 120 40 = some (.iload_n 3, 0, 0, 0) := by decide +kernel
theorem t120_41 : g_at 120 41 = some (.invokevirtual 135, 61, 2, 0) := by decide +kernel
theorem t120_44 : g_at 120 44 = some (.iload_n 1, 0, 0, 0) := by decide +kernel
theorem t120_45 : g_at 120 45 = some (.invokestatic 111, 53, 2, 0) := by decide +kernel
theorem t120_48 : g_at 120 48 = some (.ifCond .ne (23), 71, 0, 0) := by decide +kernel
theorem t120_51 : g_at 120 51 = some (.aload_n 0, 0, 0, 0) := by decide +kernel
theorem t120_52 : g_at 120 52 = some (.aload_n 0, 0, 0, 0) := by decide +kernel
theorem t120_53 : g_at 120 53 = some (.getfield 13, 4, 8, 0) := by decide +kernel
theorem t120_56 : g_at 120 56 = some (.iload_n 3, 0, 0, 0) := by decide +kernel
theorem t120_57 : g_at 120 57 = some (.invokevirtual 138, 62, 2, 0) := by decide +kernel
theorem t120_60 : g_at 120 60 = some (.iload_n 1, 0, 0, 0) := by decide +kernel
theorem t120_61 : g_at 120 61 = some (.invokestatic 111, 53, 2, 0) := by decide +kernel
theorem t120_64 : g_at 120 64 = some (.ifCond .eq (7), 71, 0, 0) := by decide +kernel
theorem t120_67 : g_at 120 67 = some (.iconst 1, 0, 0, 1) := by decide +kernel
theorem t120_68 : g_at 120 68 = some (.goto (4), 72, 0, 0) := by decide +kernel
theorem t120_71 : g_at 120 71 = some (.iconst 0, 0, 0, 0) := by decide +kernel
theorem t120_72 : g_at 120 72 = some (.bastore, 0, 0, 0) := by decide +kernel
theorem t120_73 : g_at 120 73 = some (.iinc 3 (1), 0, 0, 1) := by decide +kernel
theorem t120_76 : g_at 120 76 = some (.goto (-54), 22, 0, 0) := by decide +kernel
theorem t120_79 : g_at 120 79 = some (.aload_n 0, 0, 0, 0) := by decide +kernel
theorem t120_80 : g_at 120 80 = some (.iload_n 2, 0, 0, 0) := by decide +kernel
theorem t120_81 : g_at 120 81 = some (.invokevirtual 196, 117, 1, 0) := by decide +kernel
theorem t120_84 : g_at 120 84 = some (.ireturn, 0, 0, 0) := by decide +kernel
theorem t121_0 : g_at 121 0 = some (.iload_n 1, 0, 0, 0) := by decide +kernel
theorem t121_1 : g_at 121 1 = some (.iconst (-1), 0, 0, (-1)) := by decide +kernel
theorem t121_2 : g_at 121 2 = some (.if_icmp .ge (5), 7, 0, 0) := by decide +kernel
theorem t121_5 : g_at 121 5 = some (.iconst (-1), 0, 0, (-1)) := by decide +kernel
theorem t121_6 : g_at 121 6 = some (.ireturn, 0, 0, 0) := by decide +kernel
theorem t121_7 : g_at 121 7 = some (.aload_n 0, 0, 0, 0) := by decide +kernel
theorem t121_8 : g_at 121 8 = some (.iconst 0, 0, 0, 0) := by decide +kernel
theorem t121_9 : g_at 121 9 = some (.iconst 0, 0, 0, 0) := by decide +kernel
theorem t121_10 : g_at 121 10 = some (.iconst 0, 0, 0, 0) := by decide +kernel
theorem t121_11 : g_at 121 11 = some (.aload_n 0, 0, 0, 0) := by decide +kernel
theorem t121_12 : g_at 121 12 = some (.getfield 26, 3, 2, 0) := by decide +kernel
theorem t121_15 : g_at 121 15 = some (.getfield 130, 1, 2, 0) := by decide +kernel
theorem t121_18 : g_at 121 18 = some (.invokevirtual 169, 83, 4, 0) := by decide +kernel
theorem t121_21 : g_at 121 21 = some (.aload_n 0, 0, 0, 0) := by decide +kernel
theorem t121_22 : g_at 121 22 = some (.iload_n 1, 0, 0, 0) := by decide +kernel
theorem t121_23 : g_at 121 23 = some (.invokevirtual 173, 114, 1, 0) := by decide +kernel
theorem t121_26 : g_at 121 26 = some (.ireturn, 0, 0, 0) := by decide +kernel
theorem t122_0 : g_at 122 0 = some (.aload_n 0, 0, 0, 0) := by decide +kernel
theorem t122_1 : g_at 122 1 = some (.iconst 0, 0, 0, 0) := by decide +kernel
theorem t122_2 : g_at 122 2 = some (.putfield 62, 4, 0, 0) := by decide +kernel
theorem t122_5 : g_at 122 5 = some (.iload_n 1, 0, 0, 0) := by decide +kernel
theorem t122_6 : g_at 122 6 = some (.iconst (-1), 0, 0, (-1)) := by decide +kernel
theorem t122_7 : g_at 122 7 = some (.if_icmp .ge (5), 12, 0, 0) := by decide +kernel
theorem t122_10 : g_at 122 10 = some (.iconst (-1), 0, 0, (-1)) := by decide +kernel
theorem t122_11 : g_at 122 11 = some (.ireturn, 0, 0, 0) := by decide +kernel
theorem t122_12 : g_at 122 12 = some (.iconst 0, 0, 0, 0) := by decide +kernel
theorem t122_13 : g_at 122 13 = some (.istore_n 2, 0, 0, 0) := by decide +kernel
theorem t122_14 : g_at 122 14 = some (.iload_n 2, 0, 0, 0) := by decide +kernel
theorem t122_15 : g_at 122 15 = some (.aload_n 0, 0, 0, 0) := by decide +kernel
theorem t122_16 : g_at 122 16 = some (.invokevirtual 183, 89, 0, 0) := by decide +kernel
theorem t122_19 : g_at 122 19 = some (.if_icmp .ge (41), 60, 0, 0) := by decide +kernel
theorem t122_22 : g_at 122 22 = some (.aload_n 0, 0, 0, 0) := by decide +kernel
theorem t122_23 : g_at 122 23 = some (.getfield 50, 4, 23, 0) := by decide +kernel
theorem t122_26 : g_at 122 26 = some (.iload_n 2, 0, 0, 0) := by decide +kernel
theorem t122_27 : g_at 122 27 = some (.aload_n 0, 0, 0, 0) := by decide +kernel
theorem t122_28 : g_at 122 28 = some (.getfield 13, 4, 8, 0) := by decide +kernel
theorem t122_31 : g_at 122 31 = some (.iconst 2, 0, 0, 2) := by decide +kernel
theorem t122_32 : g_at 122 32 = some (.iaload, 0, 0, 0) := by decide +kernel
theorem t122_33 : g_at 122 33 = some (.aload_n 0, 0, 0, 0) := by decide +kernel
theorem t122_34 : g_at 122 34 = some (.aload_n 0, 0, 0, 0) := by decide +kernel
theorem t122_35 : g_at 122 35 = some (.getfield 13, 4, 8, 0) := by decide +kernel
theorem t122_38 : g_at 122 38 = some (.iload_n 2, 0, 0, 0) := by decide +kernel
theorem t122_39 : g_at 122 39 = some (.invokevirtual 135, 61, 2, 0) := by decide +kernel
theorem t122_42 : g_at 122 42 = some (.iconst (-1), 0, 0, (-1)) := by decide +kernel
theorem t122_43 : g_at 122 43 = some (.ixor, 0, 0, 0) := by decide +kernel
theorem t122_44 : g_at 122 44 = some (.iand, 0, 0, 0) := by decide +kernel
theorem t122_45 : g_at 122 45 = some (.ifCond .ne (7), 52, 0, 0) := by decide +kernel
theorem t122_48 : g_at 122 48 = some (.iconst 1, 0, 0, 1) := by decide +kernel
theorem t122_49 : g_at 122 49 = some (.goto (4), 53, 0, 0) := by decide +kernel
theorem t122_52 : g_at 122 52 = some (.iconst 0, 0, 0, 0) := by decide +kernel
theorem t122_53 : g_at 122 53 = some (.bastore, 0, 0, 0) := by decide +kernel
theorem t122_54 : g_at 122 54 = some (.iinc 2 (1), 0, 0, 1) := by decide +kernel
theorem t122_57 : g_at 122 57 = some (.goto (-43), 14, 0, 0) := by decide +kernel
theorem t122_60 : g_at 122 60 = some (.aload_n 0, 0, 0, 0) := by decide +kernel
theorem t122_61 : g_at 122 61 = some (.iload_n 1, 0, 0, 0) := by decide +kernel
theorem t122_62 : g_at 122 62 = some (.invokevirtual 196, 117, 1, 0) := by decide +kernel
theorem t122_65 : g_at 122 65 = some (.ireturn, 0, 0, 0) := by decide +kernel
theorem t123_0 : g_at 123 0 = some (.iconst 0, 0, 0, 0) := by decide +kernel
theorem t123_1 : g_at 123 1 = some (.istore_n 2, 0, 0, 0) := by decide +kernel
theorem t123_2 : g_at 123 2 = some (.iconst 0, 0, 0, 0) := by decide +kernel
theorem t123_3 : g_at 123 3 = some (.istore_n 3, 0, 0, 0) := by decide +kernel
theorem t123_4 : g_at 123 4 = some (.iload_n 3, 0, 0, 0) := by decide +kernel
theorem t123_5 : g_at 123 5 = some (.aload_n 0, 0, 0, 0) := by decide +kernel
theorem t123_6 : g_at 123 6 = some (.getfield 51, 1, 3, 0) := by decide +kernel
theorem t123_9 : g_at 123 9 = some (.if_icmp .ge (25), 34, 0, 0) := by decide +kernel
theorem t123_12 : g_at 123 12 = some (.aload_n 0, 0, 0, 0) := by decide +kernel
theorem t123_13 : g_at 123 13 = some (.getfield 15, 1, 6, 0) := by decide +kernel
theorem t123_16 : g_at 123 16 = some (.iload_n 3, 0, 0, 0) := by decide +kernel
theorem t123_17 : g_at 123 17 = some (.iaload, 0, 0, 0) := by decide +kernel
theorem t123_18 : g_at 123 18 = some (.iload_n 1, 0, 0, 0) := by decide +kernel
theorem t123_19 : g_at 123 19 = some (.if_icmp .ne (9), 28, 0, 0) := by decide +kernel
theorem t123_22 : g_at 123 22 = some (.iload_n 2, 0, 0, 0) := by decide +kernel
theorem t123_23 : g_at 123 23 = some (.iconst 1, 0, 0, 1) := by decide +kernel
theorem t123_24 : g_at 123 24 = some (.iload_n 3, 0, 0, 0) := by decide +kernel
theorem t123_25 : g_at 123 25 = some (.ishl, 0, 0, 0) := by decide +kernel
theorem t123_26 : g_at 123 26 = some (.ior, 0, 0, 0) := by decide +kernel
theorem t123_27 : g_at 123 27 = some (.istore_n 2, 0, 0, 0) := by decide +kernel
theorem t123_28 : g_at 123 28 = some (.iinc 3 (1), 0, 0, 1) := by decide +kernel
theorem t123_31 : g_at 123 31 = some (.goto (-27), 4, 0, 0) := by decide +kernel
theorem t123_34 : g_at 123 34 = some (.iload_n 2, 0, 0, 0) := by decide +kernel
theorem t123_35 : g_at 123 35 = some (.ireturn, 0, 0, 0) := by decide +kernel
theorem t124_0 : g_at 124 0 = some (.iconst 1, 0, 0, 1) := by decide +kernel
theorem t124_1 : g_at 124 1 = some (.istore_n 2, 0, 0, 0) := by decide +kernel
theorem t124_2 : g_at 124 2 = some (.iconst 0, 0, 0, 0) := by decide +kernel
theorem t124_3 : g_at 124 3 = some (.istore_n 3, 0, 0, 0) := by decide +kernel
theorem t124_4 : g_at 124 4 = some (.iload_n 3, 0, 0, 0) := by decide +kernel
theorem t124_5 : g_at 124 5 = some (.iload_n 1, 0, 0, 0) := by decide +kernel
theorem t124_6 : g_at 124 6 = some (.if_icmp .ge (13), 19, 0, 0) := by decide +kernel
theorem t124_9 : g_at 124 9 = some (.iload_n 2, 0, 0, 0) := by decide +kernel
theorem t124_10 : g_at 124 10 = some (.iload_n 0, 0, 0, 0) := by decide +kernel
theorem t124_11 : g_at 124 11 = some (.imul, 0, 0, 0) := by decide +kernel
theorem t124_12 : g_at 124 12 = some (.istore_n 2, 0, 0, 0) := by decide +kernel
theorem t124_13 : g_at 124 13 = some (.iinc 3 (1), 0, 0, 1) := by decide +kernel
theorem t124_16 : g_at 124 16 = some (.goto (-12), 4, 0, 0) := by decide +kernel
theorem t124_19 : g_at 124 19 = some (.iload_n 2, 0, 0, 0) := by decide +kernel
theorem t124_20 : g_at 124 20 = some (.ireturn, 0, 0, 0) := by decide +kernel
theorem t125_0 : g_at 125 0 = some (.aload_n 0, 0, 0, 0) := by decide +kernel
theorem t125_1 : g_at 125 1 = some (.getfield 26, 3, 2, 0) := by decide +kernel
theorem t125_4 : g_at 125 4 = some (.getfield 118, 1, 10, 0) := by decide +kernel
theorem t125_7 : g_at 125 7 = some (.aload_n 0, 0, 0, 0) := by decide +kernel
theorem t125_8 : g_at 125 8 = some (.getfield 95, 3, 4, 0) := by decide +kernel
theorem t125_11 : g_at 125 11 = some (.iaload, 0, 0, 0) := by decide +kernel
theorem t125_12 : g_at 125 12 = some (.aload_n 0, 0, 0, 0) := by decide +kernel
theorem t125_13 : g_at 125 13 = some (.getfield 26, 3, 2, 0) := by decide +kernel
theorem t125_16 : g_at 125 16 = some (.getfield 130, 1, 2, 0) := by decide +kernel
theorem t125_19 : g_at 125 19 = some (.iand, 0, 0, 0) := by decide +kernel
theorem t125_20 : g_at 125 20 = some (.istore_n 3, 0, 0, 0) := by decide +kernel
theorem t125_21 : g_at 125 21 = some (.iconst 0, 0, 0, 0) := by decide +kernel
theorem t125_22 : g_at 125 22 = some (.istore 4, 0, 0, 0) := by decide +kernel
theorem t125_24 : g_at 125 24 = some (.iconst 0, 0, 0, 0) := by decide +kernel
theorem t125_25 : g_at 125 25 = some (.istore 5, 0, 0, 0) := by decide +kernel
theorem t125_27 : g_at 125 27 = some (.iload 5, 0, 0, 0) := by decide +kernel
theorem t125_29 : g_at 125 29 = some (.iload_n 1, 0, 0, 0) := by decide +kernel
theorem t125_30 : g_at 125 30 = some (.if_icmp .gt (72), 102, 0, 0) := by decide +kernel
theorem t125_33 : g_at 125 33 = some (.iload 5, 0, 0, 0) := by decide +kernel
theorem t125_35 : g_at 125 35 = some (.iload_n 1, 0, 0, 0) := by decide +kernel
theorem t125_36 : g_at 125 36 = some (.iconst (-1), 0, 0, (-1)) := by decide +kernel
theorem t125_37 : g_at 125 37 = some (.ixor, 0, 0, 0) := by decide +kernel
theorem t125_38 : g_at 125 38 = some (.iand, 0, 0, 0) := by decide +kernel
theorem t125_39 : g_at 125 39 = some (.ifCond .ne (57), 96, 0, 0) := by decide +kernel
theorem t125_42 : g_at 125 42 = some (.aload_n 0, 0, 0, 0) := by decide +kernel
theorem t125_43 : g_at 125 43 = some (.getfield 26, 3, 2, 0) := by decide +kernel
theorem t125_46 : g_at 125 46 = some (.getfield 118, 1, 10, 0) := by decide +kernel
theorem t125_49 : g_at 125 49 = some (.aload_n 0, 0, 0, 0) := by decide +kernel
theorem t125_50 : g_at 125 50 = some (.getfield 95, 3, 4, 0) := by decide +kernel
theorem t125_53 : g_at 125 53 = some (.iload 5, 0, 0, 0) := by decide +kernel
theorem t125_55 : g_at 125 55 = some (.iconst (-1), 0, 0, (-1)) := by decide +kernel
theorem t125_56 : g_at 125 56 = some (.ixor, 0, 0, 0) := by decide +kernel
theorem t125_57 : g_at 125 57 = some (.iand, 0, 0, 0) := by decide +kernel
theorem t125_58 : g_at 125 58 = some (.iaload, 0, 0, 0) := by decide +kernel
theorem t125_59 : g_at 125 59 = some (.iload_n 3, 0, 0, 0) := by decide +kernel
theorem t125_60 : g_at 125 60 = some (.iand, 0, 0, 0) := by decide +kernel
theorem t125_61 : g_at 125 61 = some (.iload_n 3, 0, 0, 0) := by decide +kernel
theorem t125_62 : g_at 125 62 = some (.if_icmp .ne (34), 96, 0, 0) := by decide +kernel
theorem t125_65 : g_at 125 65 = some (.iload 4, 0, 0, 0) := by decide +kernel
theorem t125_67 : g_at 125 67 = some (.iload_n 2, 0, 0, 0) := by decide +kernel
theorem t125_68 : g_at 125 68 = some (.iload 5, 0, 0, 0) := by decide +kernel
theorem t125_70 : g_at 125 70 = some (.invokestatic 179, 26, 1, 0) := by decide +kernel
theorem t125_73 : g_at 125 73 = some (.invokestatic 184, 124, 2, 0) := by decide +kernel
theorem t125_76 : g_at 125 76 = some (.bipush (10), 0, 0, 10) := by decide +kernel
theorem t125_78 : g_at 125 78 = some (.iload_n 2, 0, 0, 0) := by decide +kernel
theorem t125_79 : g_at 125 79 = some (.isub, 0, 0, 0) := by decide +kernel
theorem t125_80 : g_at 125 80 = some (.iload_n 1, 0, 0, 0) := by decide +kernel
theorem t125_81 : g_at 125 81 = some (.iload 5, 0, 0, 0) := by decide +kernel
theorem t125_83 : g_at 125 83 = some (.iconst (-1), 0, 0, (-1)) := by decide +kernel
theorem t125_84 : g_at 125 84 = some (.ixor, 0, 0, 0) := by decide +kernel
theorem t125_85 : g_at 125 85 = some (.iand, 0, 0, 0) := by decide +kernel
theorem t125_86 : g_at 125 86 = some (.invokestatic 179, 26, 1, 0) := by decide +kernel
theorem t125_89 : g_at 125 89 = some (.invokestatic 184, 124, 2, 0) := by decide +kernel
theorem t125_92 : g_at 125 92 = some (.imul, 0, 0, 0) := by decide +kernel
theorem t125_93 : g_at 125 93 = some (.iadd, 0, 0, 0) := by decide +kernel
theorem t125_94 : g_at 125 94 = some (.istore 4, 0, 0, 0) := by decide +kernel
theorem t125_96 : g_at 125 96 = some (.iinc 5 (1), 0, 0, 1) := by decide +kernel
theorem t125_99 : g_at 125 99 = some (.goto (-72), 27, 0, 0) := by decide +kernel
theorem t125_102 : g_at 125 102 = some (.iload 4, 0, 0, 0) := by decide +kernel
theorem t125_104 : g_at 125 104 = some (.ireturn, 0, 0, 0) := by decide +kernel
theorem t126_0 : g_at 126 0 = some (.iload_n 0, 0, 0, 0) := by decide +kernel
theorem t126_1 : g_at 126 1 = some (.istore_n 2, 0, 0, 0) := by decide +kernel
theorem t126_2 : g_at 126 2 = some (.iload_n 1, 0, 0, 0) := by decide +kernel
theorem t126_3 : g_at 126 3 = some (.istore_n 3, 0, 0, 0) := by decide +kernel
theorem t126_4 : g_at 126 4 = some (.iconst 0, 0, 0, 0) := by decide +kernel
theorem t126_5 : g_at 126 5 = some (.istore 4, 0, 0, 0) := by decide +kernel
theorem t126_7 : g_at 126 7 = some (.iload 4, 0, 0, 0) := by decide +kernel
theorem t126_9 : g_at 126 9 = some (.bipush (100), 0, 0, 100) := by decide +kernel
theorem t126_11 : g_at 126 11 = some (.if_icmp .ge (23), 34, 0, 0) := by decide +kernel
theorem t126_14 : g_at 126 14 = some (.iload_n 3, 0, 0, 0) := by decide +kernel
theorem t126_15 : g_at 126 15 = some (.ifCond .eq (19), 34, 0, 0) := by decide +kernel
theorem t126_18 : g_at 126 18 = some (.iload_n 2, 0, 0, 0) := by decide +kernel
theorem t126_19 : g_at 126 19 = some (.iload_n 3, 0, 0, 0) := by decide +kernel
theorem t126_20 : g_at 126 20 = some (.irem, 0, 0, 0) := by decide +kernel
theorem t126_21 : g_at 126 21 = some (.istore 5, 0, 0, 0) := by decide +kernel
theorem t126_23 : g_at 126 23 = some (.iload_n 3, 0, 0, 0) := by decide +kernel
theorem t126_24 : g_at 126 24 = some (.istore_n 2, 0, 0, 0) := by decide +kernel
theorem t126_25 : g_at 126 25 = some (.iload 5, 0, 0, 0) := by decide +kernel
theorem t126_27 : g_at 126 27 = some (.istore_n 3, 0, 0, 0) := by decide +kernel
theorem t126_28 : g_at 126 28 = some (.iinc 4 (1), 0, 0, 1) := by decide +kernel
theorem t126_31 : g_at 126 31 = some (.goto (-24), 7, 0, 0) := by decide +kernel
theorem t126_34 : g_at 126 34 = some (.iload_n 2, 0, 0, 0) := by decide +kernel
theorem t126_35 : g_at 126 35 = some (.ireturn, 0, 0, 0) := by decide +kernel
theorem t127_0 : g_at 127 0 = some (.iload_n 1, 0, 0, 0) := by decide +kernel
theorem t127_1 : g_at 127 1 = some (.ifCond .lt (18), 19, 0, 0) := by decide +kernel
theorem t127_4 : g_at 127 4 = some (.iload_n 1, 0, 0, 0) := by decide +kernel
theorem t127_5 : g_at 127 5 = some (.bipush (10), 0, 0, 10) := by decide +kernel
theorem t127_7 : g_at 127 7 = some (.if_icmp .gt (12), 19, 0, 0) := by decide +kernel
theorem t127_10 : g_at 127 10 = some (.iload_n 2, 0, 0, 0) := by decide +kernel
theorem t127_11 : g_at 127 11 = some (.ifCond .lt (8), 19, 0, 0) := by decide +kernel
theorem t127_14 : g_at 127 14 = some (.iload_n 2, 0, 0, 0) := by decide +kernel
theorem t127_15 : g_at 127 15 = some (.iconst 1, 0, 0, 1) := by decide +kernel
theorem t127_16 : g_at 127 16 = some (.if_icmp .le (5), 21, 0, 0) := by decide +kernel
theorem t127_19 : g_at 127 19 = some (.iconst (-1), 0, 0, (-1)) := by decide +kernel
theorem t127_20 : g_at 127 20 = some (.ireturn, 0, 0, 0) := by decide +kernel
theorem t127_21 : g_at 127 21 = some (.aload_n 0, 0, 0, 0) := by decide +kernel
theorem t127_22 : g_at 127 22 = some (.getfield 95, 3, 4, 0) := by decide +kernel
theorem t127_25 : g_at 127 25 = some (.aload_n 0, 0, 0, 0) := by decide +kernel
theorem t127_26 : g_at 127 26 = some (.getfield 26, 3, 2, 0) := by decide +kernel
theorem t127_29 : g_at 127 29 = some (.iconst 0, 0, 0, 0) := by decide +kernel
theorem t127_30 : g_at 127 30 = some (.invokevirtual 176, 123, 1, 0) := by decide +kernel
theorem t127_33 : g_at 127 33 = some (.iand, 0, 0, 0) := by decide +kernel
theorem t127_34 : g_at 127 34 = some (.istore_n 3, 0, 0, 0) := by decide +kernel
theorem t127_35 : g_at 127 35 = some (.bipush (10), 0, 0, 10) := by decide +kernel
theorem t127_37 : g_at 127 37 = some (.iload_n 3, 0, 0, 0) := by decide +kernel
theorem t127_38 : g_at 127 38 = some (.invokestatic 179, 26, 1, 0) := by decide +kernel
theorem t127_41 : g_at 127 41 = some (.invokestatic 184, 124, 2, 0) := by decide +kernel
theorem t127_44 : g_at 127 44 = some (.istore 4, 0, 0, 0) := by decide +kernel
theorem t127_46 : g_at 127 46 = some (.aload_n 0, 0, 0, 0) := by decide +kernel
theorem t127_47 : g_at 127 47 = some (.iload_n 3, 0, 0, 0) := by decide +kernel
theorem t127_48 : g_at 127 48 = some (.iload_n 1, 0, 0, 0) := by decide +kernel
theorem t127_49 : g_at 127 49 = some (.invokevirtual 187, 125, 2, 0) := by decide +kernel
theorem t127_52 : g_at 127 52 = some (.istore 5, 0, 0, 0) := by decide +kernel
theorem t127_54 : g_at 127 54 = some (.iload 4, 0, 0, 0) := by decide +kernel
theorem t127_56 : g_at 127 56 = some (.iload 5, 0, 0, 0) := by decide +kernel
theorem t127_58 : g_at 127 58 = some (.invokestatic 190, 126, 2, 0) := by decide +kernel
theorem t127_61 : g_at 127 61 = some (.istore 6, 0, 0, 0) := by decide +kernel
theorem t127_63 : g_at 127 63 = some (.iload 6, 0, 0, 0) := by decide +kernel
theorem t127_65 : g_at 127 65 = some (.ifCond .ne (5), 70, 0, 0) := by decide +kernel
theorem t127_68 : g_at 127 68 = some (.iconst (-1), 0, 0, (-1)) := by decide +kernel
theorem t127_69 : g_at 127 69 = some (.ireturn, 0, 0, 0) := by decide +kernel
theorem t127_70 : g_at 127 70 = some (.iload_n 2, 0, 0, 0) := by decide +kernel
theorem t127_71 : g_at 127 71 = some (.ifCond .ne (8), 79, 0, 0) := by decide +kernel
theorem t127_74 : g_at 127 74 = some (.iload 5, 0, 0, 0) := by decide +kernel
theorem t127_76 : g_at 127 76 = some (.goto (5), 81, 0, 0) := by decide +kernel
theorem t127_79 : g_at 127 79 = some (.iload 4, 0, 0, 0) := by decide +kernel
theorem t127_81 : g_at 127 81 = some (.iload 6, 0, 0, 0) := by decide +kernel
theorem t127_83 : g_at 127 83 = some (.idiv, 0, 0, 0) := by decide +kernel
theorem t127_84 : g_at 127 84 = some (.ireturn, 0, 0, 0) := by decide +kernel
theorem t128_0 : g_at 128 0 = some (.iload_n 0, 0, 0, 0) := by decide +kernel
theorem t128_1 : g_at 128 1 = some (.istore_n 2, 0, 0, 0) := by decide +kernel
theorem t128_2 : g_at 128 2 = some (.iload_n 1, 0, 0, 0) := by decide +kernel
theorem t128_3 : g_at 128 3 = some (.istore_n 3, 0, 0, 0) := by decide +kernel
theorem t128_4 : g_at 128 4 = some (.iload_n 3, 0, 0, 0) := by decide +kernel
theorem t128_5 : g_at 128 5 = some (.ifCond .eq (16), 21, 0, 0) := by decide +kernel
theorem t128_8 : g_at 128 8 = some (.iload_n 2, 0, 0, 0) := by decide +kernel
theorem t128_9 : g_at 128 9 = some (.iload_n 3, 0, 0, 0) := by decide +kernel
theorem t128_10 : g_at 128 10 = some (.irem, 0, 0, 0) := by decide +kernel
theorem t128_11 : g_at 128 11 = some (.istore 4, 0, 0, 0) := by decide +kernel
theorem t128_13 : g_at 128 13 = some (.iload_n 3, 0, 0, 0) := by decide +kernel
theorem t128_14 : g_at 128 14 = some (.istore_n 2, 0, 0, 0) := by decide +kernel
theorem t128_15 : g_at 128 15 = some (.iload 4, 0, 0, 0) := by decide +kernel
theorem t128_17 : g_at 128 17 = some (.istore_n 3, 0, 0, 0) := by decide +kernel
theorem t128_18 : g_at 128 18 = some (.goto (-14), 4, 0, 0) := by decide +kernel
theorem t128_21 : g_at 128 21 = some (.iload_n 2, 0, 0, 0) := by decide +kernel
theorem t128_22 : g_at 128 22 = some (.ireturn, 0, 0, 0) := by decide +kernel
theorem t129_0 : g_at 129 0 = some (.aload_n 0, 0, 0, 0) := by decide +kernel
theorem t129_1 : g_at 129 1 = some (.iconst 0, 0, 0, 0) := by decide +kernel
theorem t129_2 : g_at 129 2 = some (.putfield 62, 4, 0, 0) := by decide +kernel
theorem t129_5 : g_at 129 5 = some (.iload_n 1, 0, 0, 0) := by decide +kernel
theorem t129_6 : g_at 129 6 = some (.iconst 0, 0, 0, 0) := by decide +kernel
theorem t129_7 : g_at 129 7 = some (.bipush (10), 0, 0, 10) := by decide +kernel
theorem t129_9 : g_at 129 9 = some (.invokestatic 66, 10, 3, 0) := by decide +kernel
theorem t129_12 : g_at 129 12 = some (.ifCond .eq (12), 24, 0, 0) := by decide +kernel
theorem t129_15 : g_at 129 15 = some (.iload_n 2, 0, 0, 0) := by decide +kernel
theorem t129_16 : g_at 129 16 = some (.iconst 0, 0, 0, 0) := by decide +kernel
theorem t129_17 : g_at 129 17 = some (.iconst 1, 0, 0, 1) := by decide +kernel
theorem t129_18 : g_at 129 18 = some (.invokestatic 66, 10, 3, 0) := by decide +kernel
theorem t129_21 : g_at 129 21 = some (.ifCond .ne (5), 26, 0, 0) := by decide +kernel
theorem t129_24 : g_at 129 24 = some (.iconst (-1), 0, 0, (-1)) := by decide +kernel
theorem t129_25 : g_at 129 25 = some (.ireturn, 0, 0, 0) := by decide +kernel
theorem t129_26 : g_at 129 26 = some (.iconst 0, 0, 0, 0) := by decide +kernel
theorem t129_27 : g_at 129 27 = some (.istore_n 3, 0, 0, 0) := by decide +kernel
theorem t129_28 : g_at 129 28 = some (.iconst 1, 0, 0, 1) := by decide +kernel
theorem t129_29 : g_at 129 29 = some (.istore 4, 0, 0, 0) := by decide +kernel
theorem t129_31 : g_at 129 31 = some (.iconst 0, 0, 0, 0) := by decide +kernel
theorem t129_32 : g_at 129 32 = some (.istore 5, 0, 0, 0) := by decide +kernel
theorem t129_34 : g_at 129 34 = some (.iload 5, 0, 0, 0) := by decide +kernel
theorem t129_36 : g_at 129 36 = some (.aload_n 0, 0, 0, 0) := by decide +kernel
theorem t129_37 : g_at 129 37 = some (.getfield 13, 4, 8, 0) := by decide +kernel
theorem t129_40 : g_at 129 40 = some (.iconst 3, 0, 0, 3) := by decide +kernel
theorem t129_41 : g_at 129 41 = some (.iaload, 0, 0, 0) := by decide +kernel
theorem t129_42 : g_at 129 42 = some (.if_icmp .ge (49), 91, 0, 0) := by decide +kernel
theorem t129_45 : g_at 129 45 = some (.aload_n 0, 0, 0, 0) := by decide +kernel
theorem t129_46 : g_at 129 46 = some (.getfield 22, 4, 11, 0) := by decide +kernel
theorem t129_49 : g_at 129 49 = some (.iconst 0, 0, 0, 0) := by decide +kernel
theorem t129_50 : g_at 129 50 = some (.iaload, 0, 0, 0) := by decide +kernel
theorem t129_51 : g_at 129 51 = some (.iload 5, 0, 0, 0) := by decide +kernel
theorem t129_53 : g_at 129 53 = some (.invokestatic 111, 53, 2, 0) := by decide +kernel
theorem t129_56 : g_at 129 56 = some (.ifCond .eq (29), 85, 0, 0) := by decide +kernel
theorem t129_59 : g_at 129 59 = some (.aload_n 0, 0, 0, 0) := by decide +kernel
theorem t129_60 : g_at 129 60 = some (.getfield 13, 4, 8, 0) := by decide +kernel
theorem t129_63 : g_at 129 63 = some (.iconst 4, 0, 0, 4) := by decide +kernel
theorem t129_64 : g_at 129 64 = some (.iload 5, 0, 0, 0) := by decide +kernel
theorem t129_66 : g_at 129 66 = some (.iadd, 0, 0, 0) := by decide +kernel
theorem t129_67 : g_at 129 67 = some (.iaload, 0, 0, 0) := by decide +kernel
theorem t129_68 : g_at 129 68 = some (.ifCond .ne (17), 85, 0, 0) := by decide +kernel
theorem t129_71 : g_at 129 71 = some (.iload_n 3, 0, 0, 0) := by decide +kernel
theorem t129_72 : g_at 129 72 = some (.iconst 1, 0, 0, 1) := by decide +kernel
theorem t129_73 : g_at 129 73 = some (.iload 5, 0, 0, 0) := by decide +kernel
theorem t129_75 : g_at 129 75 = some (.ishl, 0, 0, 0) := by decide +kernel
theorem t129_76 : g_at 129 76 = some (.ior, 0, 0, 0) := by decide +kernel
theorem t129_77 : g_at 129 77 = some (.istore_n 3, 0, 0, 0) := by decide +kernel
theorem t129_78 : g_at 129 78 = some (.iload 4, 0, 0, 0) := by decide +kernel
theorem t129_80 : g_at 129 80 = some (.bipush (10), 0, 0, 10) := by decide +kernel
theorem t129_82 : g_at 129 82 = some (.imul, 0, 0, 0) := by decide +kernel
theorem t129_83 : g_at 129 83 = some (.istore 4, 0, 0, 0) := by decide +kernel
theorem t129_85 : g_at 129 85 = some (.iinc 5 (1), 0, 0, 1) := by decide +kernel
theorem t129_88 : g_at 129 88 = some (.goto (-54), 34, 0, 0) := by decide +kernel
theorem t129_91 : g_at 129 91 = some (.aload_n 0, 0, 0, 0) := by decide +kernel
theorem t129_92 : g_at 129 92 = some (.aload_n 0, 0, 0, 0) := by decide +kernel
theorem t129_93 : g_at 129 93 = some (.getfield 13, 4, 8, 0) := by decide +kernel
theorem t129_96 : g_at 129 96 = some (.aload_n 0, 0, 0, 0) := by decide +kernel
theorem t129_97 : g_at 129 97 = some (.getfield 22, 4, 11, 0) := by decide +kernel
theorem t129_100 : g_at 129 100 = some (.iconst 0, 0, 0, 0) := by decide +kernel
theorem t129_101 : g_at 129 101 = some (.iaload, 0, 0, 0) := by decide +kernel
theorem t129_102 : g_at 129 102 = some (.invokevirtual 135, 61, 2, 0) := by decide +kernel
theorem t129_105 : g_at 129 105 = some (.aload_n 0, 0, 0, 0) := by decide +kernel
theorem t129_106 : g_at 129 106 = some (.getfield 13, 4, 8, 0) := by decide +kernel
theorem t129_109 : g_at 129 109 = some (.iconst 2, 0, 0, 2) := by decide +kernel
theorem t129_110 : g_at 129 110 = some (.iaload, 0, 0, 0) := by decide +kernel
theorem t129_111 : g_at 129 111 = some (.iand, 0, 0, 0) := by decide +kernel
theorem t129_112 : g_at 129 112 = some (.istore 5, 0, 0, 0) := by decide +kernel
theorem t129_114 : g_at 129 114 = some (.iconst 0, 0, 0, 0) := by decide +kernel
theorem t129_115 : g_at 129 115 = some (.istore 6, 0, 0, 0) := by decide +kernel
theorem t129_117 : g_at 129 117 = some (.iconst 0, 0, 0, 0) := by decide +kernel
theorem t129_118 : g_at 129 118 = some (.istore 7, 0, 0, 0) := by decide +kernel
theorem t129_120 : g_at 129 120 = some (.iload 7, 0, 0, 0) := by decide +kernel
theorem t129_122 : g_at 129 122 = some (.aload_n 0, 0, 0, 0) := by decide +kernel
theorem t129_123 : g_at 129 123 = some (.invokevirtual 183, 89, 0, 0) := by decide +kernel
theorem t129_126 : g_at 129 126 = some (.if_icmp .ge (111), 237, 0, 0) := by decide +kernel
theorem t129_129 : g_at 129 129 = some (.iload 7, 0, 0, 0) := by decide +kernel
theorem t129_131 : g_at 129 131 = some (.iload_n 3, 0, 0, 0) := by decide +kernel
theorem t129_132 : g_at 129 132 = some (.iconst (-1), 0, 0, (-1)) := by decide +kernel
theorem t129_133 : g_at 129 133 = some (.ixor, 0, 0, 0) := by decide +kernel
theorem t129_134 : g_at 129 134 = some (.iand, 0, 0, 0) := by decide +kernel
theorem t129_135 : g_at 129 135 = some (.ifCond .ne (96), 231, 0, 0) := by decide +kernel
theorem t129_138 : g_at 129 138 = some (.iload 5, 0, 0, 0) := by decide +kernel
theorem t129_140 : g_at 129 140 = some (.aload_n 0, 0, 0, 0) := by decide +kernel
theorem t129_141 : g_at 129 141 = some (.aload_n 0, 0, 0, 0) := by decide +kernel
theorem t129_142 : g_at 129 142 = some (.getfield 13, 4, 8, 0) := by decide +kernel
theorem t129_145 : g_at 129 145 = some (.aload_n 0, 0, 0, 0) := by decide +kernel
theorem t129_146 : g_at 129 146 = some (.getfield 22, 4, 11, 0) := by decide +kernel
theorem t129_149 : g_at 129 149 = some (.iconst 0, 0, 0, 0) := by decide +kernel
theorem t129_150 : g_at 129 150 = some (.iaload, 0, 0, 0) := by decide +kernel
theorem t129_151 : g_at 129 151 = some (.iload 7, 0, 0, 0) := by decide +kernel
theorem t129_153 : g_at 129 153 = some (.iconst (-1), 0, 0, (-1)) := by decide +kernel
theorem t129_154 : g_at 129 154 = some (.ixor, 0, 0, 0) := by decide +kernel
theorem t129_155 : g_at 129 155 = some (.iand, 0, 0, 0) := by decide +kernel
theorem t129_156 : g_at 129 156 = some (.invokevirtual 135, 61, 2, 0) := by decide +kernel
theorem t129_159 : g_at 129 159 = some (.iconst (-1), 0, 0, (-1)) := by decide +kernel
theorem t129_160 : g_at 129 160 = some (.ixor, 0, 0, 0) := by decide +kernel
theorem t129_161 : g_at 129 161 = some (.iand, 0, 0, 0) := by decide +kernel
theorem t129_162 : g_at 129 162 = some (.ifCond .ne (69), 231, 0, 0) := by decide +kernel
theorem t129_165 : g_at 129 165 = some (.iconst 1, 0, 0, 1) := by decide +kernel
theorem t129_166 : g_at 129 166 = some (.istore 8, 0, 0, 0) := by decide +kernel
theorem t129_168 : g_at 129 168 = some (.iconst 0, 0, 0, 0) := by decide +kernel
theorem t129_169 : g_at 129 169 = some (.istore 9, 0, 0, 0) := by decide +kernel
theorem t129_171 : g_at 129 171 = some (.iload 9, 0, 0, 0) := by decide +kernel
theorem t129_173 : g_at 129 173 = some (.aload_n 0, 0, 0, 0) := by decide +kernel
theorem t129_174 : g_at 129 174 = some (.getfield 13, 4, 8, 0) := by decide +kernel
theorem t129_177 : g_at 129 177 = some (.iconst 3, 0, 0, 3) := by decide +kernel
theorem t129_178 : g_at 129 178 = some (.iaload, 0, 0, 0) := by decide +kernel
theorem t129_179 : g_at 129 179 = some (.if_icmp .ge (45), 224, 0, 0) := by decide +kernel
theorem t129_182 : g_at 129 182 = some (.iload 8, 0, 0, 0) := by decide +kernel
theorem t129_184 : g_at 129 184 = some (.iload_n 3, 0, 0, 0) := by decide +kernel
theorem t129_185 : g_at 129 185 = some (.iload 9, 0, 0, 0) := by decide +kernel
theorem t129_187 : g_at 129 187 = some (.invokestatic 111, 53, 2, 0) := by decide +kernel
theorem t129_190 : g_at 129 190 = some (.ifCond .ne (7), 197, 0, 0) := by decide +kernel
theorem t129_193 : g_at 129 193 = some (.iconst 1, 0, 0, 1) := by decide +kernel
theorem t129_194 : g_at 129 194 = some (.goto (21), 215, 0, 0) := by decide +kernel
theorem t129_197 : g_at 129 197 = some (.iload 7, 0, 0, 0) := by decide +kernel
theorem t129_199 : g_at 129 199 = some (.iload 9, 0, 0, 0) := by decide +kernel
theorem t129_201 : g_at 129 201 = some (.invokestatic 111, 53, 2, 0) := by decide +kernel
theorem t129_204 : g_at 129 204 = some (.ifCond .eq (7), 211, 0, 0) := by decide +kernel
theorem t129_207 : g_at 129 207 = some (.iload_n 1, 0, 0, 0) := by decide +kernel
theorem t129_208 : g_at 129 208 = some (.goto (7), 215, 0, 0) := by decide +kernel
theorem t129_211 : g_at 129 211 = some (.bipush (10), 0, 0, 10) := by decide +kernel
theorem t129_213 : g_at 129 213 = some (.iload_n 1, 0, 0, 0) := by decide +kernel
theorem t129_214 : g_at 129 214 = some (.isub, 0, 0, 0) := by decide +kernel
theorem t129_215 : g_at 129 215 = some (.imul, 0, 0, 0) := by decide +kernel
theorem t129_216 : g_at 129 216 = some (.istore 8, 0, 0, 0) := by decide +kernel
theorem t129_218 : g_at 129 218 = some (.iinc 9 (1), 0, 0, 1) := by decide +kernel
theorem t129_221 : g_at 129 221 = some (.goto (-50), 171, 0, 0) := by decide +kernel
theorem t129_224 : g_at 129 224 = some (.iload 6, 0, 0, 0) := by decide +kernel
theorem t129_226 : g_at 129 226 = some (.iload 8, 0, 0, 0) := by decide +kernel
theorem t129_228 : g_at 129 228 = some (.iadd, 0, 0, 0) := by decide +kernel
theorem t129_229 : g_at 129 229 = some (.istore 6, 0, 0, 0) := by decide +kernel
theorem t129_231 : g_at 129 231 = some (.iinc 7 (1), 0, 0, 1) := by decide +kernel
theorem t129_234 : g_at 129 234 = some (.goto (-114), 120, 0, 0) := by decide +kernel
theorem t129_237 : g_at 129 237 = some (.iload 6, 0, 0, 0) := by decide +kernel
theorem t129_239 : g_at 129 239 = some (.iload 4, 0, 0, 0) := by decide +kernel
theorem t129_241 : g_at 129 241 = some (.invokestatic 199, 128, 2, 0) := by decide +kernel
theorem t129_244 : g_at 129 244 = some (.istore 7, 0, 0, 0) := by decide +kernel
theorem t129_246 : g_at 129 246 = some (.iload_n 2, 0, 0, 0) := by decide +kernel
theorem t129_247 : g_at 129 247 = some (.ifCond .ne (11), 258, 0, 0) := by decide +kernel
theorem t129_250 : g_at 129 250 = some (.iload 6, 0, 0, 0) := by decide +kernel
theorem t129_252 : g_at 129 252 = some (.iload 7, 0, 0, 0) := by decide +kernel
theorem t129_254 : g_at 129 254 = some (.idiv, 0, 0, 0) := by decide +kernel
theorem t129_255 : g_at 129 255 = some (.goto (8), 263, 0, 0) := by decide +kernel
theorem t129_258 : g_at 129 258 = some (.iload 4, 0, 0, 0) := by decide +kernel
theorem t129_260 : g_at 129 260 = some (.iload 7, 0, 0, 0) := by decide +kernel
theorem t129_262 : g_at 129 262 = some (.idiv, 0, 0, 0) := by decide +kernel
theorem t129_263 : g_at 129 263 = some (.ireturn, 0, 0, 0) := by decide +kernel
theorem t130_0 : g_at 130 0 = some (.aload_n 0, 0, 0, 0) := by decide +kernel
theorem t130_1 : g_at 130 1 = some (.iload_n 1, 0, 0, 0) := by decide +kernel
theorem t130_2 : g_at 130 2 = some (.invokevirtual 115, 74, 1, 0) := by decide +kernel
theorem t130_5 : g_at 130 5 = some (.ifCond .eq (12), 17, 0, 0) := by decide +kernel
theorem t130_8 : g_at 130 8 = some (.iload_n 2, 0, 0, 0) := by decide +kernel
theorem t130_9 : g_at 130 9 = some (.ifCond .lt (8), 17, 0, 0) := by decide +kernel
theorem t130_12 : g_at 130 12 = some (.iload_n 2, 0, 0, 0) := by decide +kernel
theorem t130_13 : g_at 130 13 = some (.iconst 1, 0, 0, 1) := by decide +kernel
theorem t130_14 : g_at 130 14 = some (.if_icmp .le (5), 19, 0, 0) := by decide +kernel
theorem t130_17 : g_at 130 17 = some (.iconst (-1), 0, 0, (-1)) := by decide +kernel
theorem t130_18 : g_at 130 18 = some (.ireturn, 0, 0, 0) := by decide +kernel
theorem t130_19 : g_at 130 19 = some (.aload_n 0, 0, 0, 0) := by decide +kernel
theorem t130_20 : g_at 130 20 = some (.getfield 193, 3, 14, 0) := by decide +kernel
theorem t130_23 : g_at 130 23 = some (.bipush (6), 0, 0, 6) := by decide +kernel
theorem t130_25 : g_at 130 25 = some (.if_icmp .lt (6), 31, 0, 0) := by decide +kernel
theorem t130_28 : g_at 130 28 = some (.bipush (-3), 0, 0, (-3)) := by decide +kernel
theorem t130_30 : g_at 130 30 = some (.ireturn, 0, 0, 0) := by decide +kernel
theorem t130_31 : g_at 130 31 = some (.aload_n 0, 0, 0, 0) := by decide +kernel
theorem t130_32 : g_at 130 32 = some (.getfield 46, 3, 13, 0) := by decide +kernel
theorem t130_35 : g_at 130 35 = some (.aload_n 0, 0, 0, 0) := by decide +kernel
theorem t130_36 : g_at 130 36 = some (.getfield 193, 3, 14, 0) := by decide +kernel
theorem t130_39 : g_at 130 39 = some (.iconst 2, 0, 0, 2) := by decide +kernel
theorem t130_40 : g_at 130 40 = some (.iload_n 1, 0, 0, 0) := by decide +kernel
theorem t130_41 : g_at 130 41 = some (.imul, 0, 0, 0) := by decide +kernel
theorem t130_42 : g_at 130 42 = some (.iload_n 2, 0, 0, 0) := by decide +kernel
theorem t130_43 : g_at 130 43 = some (.iadd, 0, 0, 0) := by decide +kernel
theorem t130_44 : g_at 130 44 = some (.iastore, 0, 0, 0) := by decide +kernel
theorem t130_45 : g_at 130 45 = some (.aload_n 0, 0, 0, 0) := by decide +kernel
theorem t130_46 : g_at 130 46 = some (.dup, 0, 0, 0) := by decide +kernel
theorem t130_47 : g_at 130 47 = some (.getfield 193, 3, 14, 0) := by decide +kernel
theorem t130_50 : g_at 130 50 = some (.iconst 1, 0, 0, 1) := by decide +kernel
theorem t130_51 : g_at 130 51 = some (.iadd, 0, 0, 0) := by decide +kernel
theorem t130_52 : g_at 130 52 = some (.putfield 193, 3, 14, 0) := by decide +kernel
theorem t130_55 : g_at 130 55 = some (.aload_n 0, 0, 0, 0) := by decide +kernel
theorem t130_56 : g_at 130 56 = some (.getfield 193, 3, 14, 0) := by decide +kernel
theorem t130_59 : g_at 130 59 = some (.ireturn, 0, 0, 0) := by decide +kernel
theorem t131_0 : g_at 131 0 = some (.aload_n 0, 0, 0, 0) := by decide +kernel
theorem t131_1 : g_at 131 1 = some (.iconst 0, 0, 0, 0) := by decide +kernel
theorem t131_2 : g_at 131 2 = some (.putfield 62, 4, 0, 0) := by decide +kernel
theorem t131_5 : g_at 131 5 = some (.aload_n 0, 0, 0, 0) := by decide +kernel
theorem t131_6 : g_at 131 6 = some (.iload_n 1, 0, 0, 0) := by decide +kernel
theorem t131_7 : g_at 131 7 = some (.invokevirtual 167, 77, 1, 0) := by decide +kernel
theorem t131_10 : g_at 131 10 = some (.ifCond .eq (12), 22, 0, 0) := by decide +kernel
theorem t131_13 : g_at 131 13 = some (.iload_n 2, 0, 0, 0) := by decide +kernel
theorem t131_14 : g_at 131 14 = some (.iconst 0, 0, 0, 0) := by decide +kernel
theorem t131_15 : g_at 131 15 = some (.iconst 1, 0, 0, 1) := by decide +kernel
theorem t131_16 : g_at 131 16 = some (.invokestatic 66, 10, 3, 0) := by decide +kernel
theorem t131_19 : g_at 131 19 = some (.ifCond .ne (5), 24, 0, 0) := by decide +kernel
theorem t131_22 : g_at 131 22 = some (.iconst (-1), 0, 0, (-1)) := by decide +kernel
theorem t131_23 : g_at 131 23 = some (.ireturn, 0, 0, 0) := by decide +kernel
theorem t131_24 : g_at 131 24 = some (.aload_n 0, 0, 0, 0) := by decide +kernel
theorem t131_25 : g_at 131 25 = some (.getfield 144, 4, 20, 0) := by decide +kernel
theorem t131_28 : g_at 131 28 = some (.bipush (6), 0, 0, 6) := by decide +kernel
theorem t131_30 : g_at 131 30 = some (.if_icmp .ne (6), 36, 0, 0) := by decide +kernel
theorem t131_33 : g_at 131 33 = some (.bipush (-3), 0, 0, (-3)) := by decide +kernel
theorem t131_35 : g_at 131 35 = some (.ireturn, 0, 0, 0) := by decide +kernel
theorem t131_36 : g_at 131 36 = some (.aload_n 0, 0, 0, 0) := by decide +kernel
theorem t131_37 : g_at 131 37 = some (.getfield 38, 4, 18, 0) := by decide +kernel
theorem t131_40 : g_at 131 40 = some (.aload_n 0, 0, 0, 0) := by decide +kernel
theorem t131_41 : g_at 131 41 = some (.getfield 144, 4, 20, 0) := by decide +kernel
theorem t131_44 : g_at 131 44 = some (.iload_n 1, 0, 0, 0) := by decide +kernel
theorem t131_45 : g_at 131 45 = some (.iastore, 0, 0, 0) := by decide +kernel
theorem t131_46 : g_at 131 46 = some (.aload_n 0, 0, 0, 0) := by decide +kernel
theorem t131_47 : g_at 131 47 = some (.getfield 41, 4, 19, 0) := by decide +kernel
theorem t131_50 : g_at 131 50 = some (.aload_n 0, 0, 0, 0) := by decide +kernel
theorem t131_51 : g_at 131 51 = some (.getfield 144, 4, 20, 0) := by decide +kernel
theorem t131_54 : g_at 131 54 = some (.iload_n 2, 0, 0, 0) := by decide +kernel
theorem t131_55 : g_at 131 55 = some (.iastore, 0, 0, 0) := by decide +kernel
theorem t131_56 : g_at 131 56 = some (.aload_n 0, 0, 0, 0) := by decide +kernel
theorem t131_57 : g_at 131 57 = some (.dup, 0, 0, 0) := by decide +kernel
theorem t131_58 : g_at 131 58 = some (.getfield 144, 4, 20, 0) := by decide +kernel
theorem t131_61 : g_at 131 61 = some (.iconst 1, 0, 0, 1) := by decide +kernel
theorem t131_62 : g_at 131 62 = some (.iadd, 0, 0, 0) := by decide +kernel
theorem t131_63 : g_at 131 63 = some (.putfield 144, 4, 20, 0) := by decide +kernel
theorem t131_66 : g_at 131 66 = some (.aload_n 0, 0, 0, 0) := by decide +kernel
theorem t131_67 : g_at 131 67 = some (.getfield 144, 4, 20, 0) := by decide +kernel
theorem t131_70 : g_at 131 70 = some (.ireturn, 0, 0, 0) := by decide +kernel
theorem t132_0 : g_at 132 0 = some (.aload_n 0, 0, 0, 0) := by decide +kernel
theorem t132_1 : g_at 132 1 = some (.getfield 193, 3, 14, 0) := by decide +kernel
theorem t132_4 : g_at 132 4 = some (.istore_n 1, 0, 0, 0) := by decide +kernel
theorem t132_5 : g_at 132 5 = some (.aload_n 0, 0, 0, 0) := by decide +kernel
theorem t132_6 : g_at 132 6 = some (.iconst 0, 0, 0, 0) := by decide +kernel
theorem t132_7 : g_at 132 7 = some (.putfield 193, 3, 14, 0) := by decide +kernel
theorem t132_10 : g_at 132 10 = some (.iload_n 1, 0, 0, 0) := by decide +kernel
theorem t132_11 : g_at 132 11 = some (.ireturn, 0, 0, 0) := by decide +kernel
theorem t133_0 : g_at 133 0 = some (.aload_n 0, 0, 0, 0) := by decide +kernel
theorem t133_1 : g_at 133 1 = some (.iconst 0, 0, 0, 0) := by decide +kernel
theorem t133_2 : g_at 133 2 = some (.putfield 62, 4, 0, 0) := by decide +kernel
theorem t133_5 : g_at 133 5 = some (.aload_n 0, 0, 0, 0) := by decide +kernel
theorem t133_6 : g_at 133 6 = some (.getfield 144, 4, 20, 0) := by decide +kernel
theorem t133_9 : g_at 133 9 = some (.istore_n 1, 0, 0, 0) := by decide +kernel
theorem t133_10 : g_at 133 10 = some (.aload_n 0, 0, 0, 0) := by decide +kernel
theorem t133_11 : g_at 133 11 = some (.iconst 0, 0, 0, 0) := by decide +kernel
theorem t133_12 : g_at 133 12 = some (.putfield 144, 4, 20, 0) := by decide +kernel
theorem t133_15 : g_at 133 15 = some (.iload_n 1, 0, 0, 0) := by decide +kernel
theorem t133_16 : g_at 133 16 = some (.ireturn, 0, 0, 0) := by decide +kernel
theorem t134_0 : g_at 134 0 = some (.aload_n 0, 0, 0, 0) := by decide +kernel
theorem t134_1 : g_at 134 1 = some (.getfield 26, 3, 2, 0) := by decide +kernel
theorem t134_4 : g_at 134 4 = some (.getfield 118, 1, 10, 0) := by decide +kernel
theorem t134_7 : g_at 134 7 = some (.aload_n 0, 0, 0, 0) := by decide +kernel
theorem t134_8 : g_at 134 8 = some (.getfield 95, 3, 4, 0) := by decide +kernel
theorem t134_11 : g_at 134 11 = some (.iconst 1, 0, 0, 1) := by decide +kernel
theorem t134_12 : g_at 134 12 = some (.iload_n 1, 0, 0, 0) := by decide +kernel
theorem t134_13 : g_at 134 13 = some (.ishl, 0, 0, 0) := by decide +kernel
theorem t134_14 : g_at 134 14 = some (.ixor, 0, 0, 0) := by decide +kernel
theorem t134_15 : g_at 134 15 = some (.iaload, 0, 0, 0) := by decide +kernel
theorem t134_16 : g_at 134 16 = some (.istore_n 2, 0, 0, 0) := by decide +kernel
theorem t134_17 : g_at 134 17 = some (.iconst 0, 0, 0, 0) := by decide +kernel
theorem t134_18 : g_at 134 18 = some (.istore_n 3, 0, 0, 0) := by decide +kernel
theorem t134_19 : g_at 134 19 = some (.iload_n 3, 0, 0, 0) := by decide +kernel
theorem t134_20 : g_at 134 20 = some (.aload_n 0, 0, 0, 0) := by decide +kernel
theorem t134_21 : g_at 134 21 = some (.getfield 193, 3, 14, 0) := by decide +kernel
theorem t134_24 : g_at 134 24 = some (.if_icmp .ge (34), 58, 0, 0) := by decide +kernel
theorem t134_27 : g_at 134 27 = some (.iload_n 2, 0, 0, 0) := by decide +kernel
theorem t134_28 : g_at 134 28 = some (.aload_n 0, 0, 0, 0) := by decide +kernel
theorem t134_29 : g_at 134 29 = some (.getfield 46, 3, 13, 0) := by decide +kernel
theorem t134_32 : g_at 134 32 = some (.iload_n 3, 0, 0, 0) := by decide +kernel
theorem t134_33 : g_at 134 33 = some (.iaload, 0, 0, 0) := by decide +kernel
theorem t134_34 : g_at 134 34 = some (.iconst 2, 0, 0, 2) := by decide +kernel
theorem t134_35 : g_at 134 35 = some (.idiv, 0, 0, 0) := by decide +kernel
theorem t134_36 : g_at 134 36 = some (.invokestatic 98, 19, 2, 0) := by decide +kernel
theorem t134_39 : g_at 134 39 = some (.aload_n 0, 0, 0, 0) := by decide +kernel
theorem t134_40 : g_at 134 40 = some (.getfield 46, 3, 13, 0) := by decide +kernel
theorem t134_43 : g_at 134 43 = some (.iload_n 3, 0, 0, 0) := by decide +kernel
theorem t134_44 : g_at 134 44 = some (.iaload, 0, 0, 0) := by decide +kernel
theorem t134_45 : g_at 134 45 = some (.iconst 2, 0, 0, 2) := by decide +kernel
theorem t134_46 : g_at 134 46 = some (.irem, 0, 0, 0) := by decide +kernel
theorem t134_47 : g_at 134 47 = some (.if_icmp .eq (5), 52, 0, 0) := by decide +kernel
theorem t134_50 : g_at 134 50 = some (.iconst 0, 0, 0, 0) := by decide +kernel
theorem t134_51 : g_at 134 51 = some (.ireturn, 0, 0, 0) := by decide +kernel
theorem t134_52 : g_at 134 52 = some (.iinc 3 (1), 0, 0, 1) := by decide +kernel
theorem t134_55 : g_at 134 55 = some (.goto (-36), 19, 0, 0) := by decide +kernel
theorem t134_58 : g_at 134 58 = some (.iconst 1, 0, 0, 1) := by decide +kernel
theorem t134_59 : g_at 134 59 = some (.ireturn, 0, 0, 0) := by decide +kernel
theorem t135_0 : g_at 135 0 = some (.iconst 0, 0, 0, 0) := by decide +kernel
theorem t135_1 : g_at 135 1 = some (.istore_n 1, 0, 0, 0) := by decide +kernel
theorem t135_2 : g_at 135 2 = some (.iconst 0, 0, 0, 0) := by decide +kernel
theorem t135_3 : g_at 135 3 = some (.istore_n 2, 0, 0, 0) := by decide +kernel
theorem t135_4 : g_at 135 4 = some (.iload_n 2, 0, 0, 0) := by decide +kernel
theorem t135_5 : g_at 135 5 = some (.aload_n 0, 0, 0, 0) := by decide +kernel
theorem t135_6 : g_at 135 6 = some (.getfield 26, 3, 2, 0) := by decide +kernel
theorem t135_9 : g_at 135 9 = some (.getfield 112, 1, 3, 0) := by decide +kernel
theorem t135_12 : g_at 135 12 = some (.if_icmp .ge (23), 35, 0, 0) := by decide +kernel
theorem t135_15 : g_at 135 15 = some (.aload_n 0, 0, 0, 0) := by decide +kernel
theorem t135_16 : g_at 135 16 = some (.iload_n 2, 0, 0, 0) := by decide +kernel
theorem t135_17 : g_at 135 17 = some (.invokevirtual 196, 134, 1, 0) := by decide +kernel
theorem t135_20 : g_at 135 20 = some (.ifCond .eq (9), 29, 0, 0) := by decide +kernel
theorem t135_23 : g_at 135 23 = some (.iload_n 1, 0, 0, 0) := by decide +kernel
theorem t135_24 : g_at 135 24 = some (.iconst 1, 0, 0, 1) := by decide +kernel
theorem t135_25 : g_at 135 25 = some (.iload_n 2, 0, 0, 0) := by decide +kernel
theorem t135_26 : g_at 135 26 = some (.ishl, 0, 0, 0) := by decide +kernel
theorem t135_27 : g_at 135 27 = some (.ior, 0, 0, 0) := by decide +kernel
theorem t135_28 : g_at 135 28 = some (.istore_n 1, 0, 0, 0) := by decide +kernel
theorem t135_29 : g_at 135 29 = some (.iinc 2 (1), 0, 0, 1) := by decide +kernel
theorem t135_32 : g_at 135 32 = some (.goto (-28), 4, 0, 0) := by decide +kernel
theorem t135_35 : g_at 135 35 = some (.iload_n 1, 0, 0, 0) := by decide +kernel
theorem t135_36 : g_at 135 36 = some (.ireturn, 0, 0, 0) := by decide +kernel
theorem t136_0 : g_at 136 0 = some (.iconst 0, 0, 0, 0) := by decide +kernel
theorem t136_1 : g_at 136 1 = some (.istore_n 1, 0, 0, 0) := by decide +kernel
theorem t136_2 : g_at 136 2 = some (.iconst 0, 0, 0, 0) := by decide +kernel
theorem t136_3 : g_at 136 3 = some (.istore_n 2, 0, 0, 0) := by decide +kernel
theorem t136_4 : g_at 136 4 = some (.iload_n 2, 0, 0, 0) := by decide +kernel
theorem t136_5 : g_at 136 5 = some (.aload_n 0, 0, 0, 0) := by decide +kernel
theorem t136_6 : g_at 136 6 = some (.getfield 13, 4, 8, 0) := by decide +kernel
theorem t136_9 : g_at 136 9 = some (.iconst 3, 0, 0, 3) := by decide +kernel
theorem t136_10 : g_at 136 10 = some (.iaload, 0, 0, 0) := by decide +kernel
theorem t136_11 : g_at 136 11 = some (.if_icmp .ge (97), 108, 0, 0) := by decide +kernel
theorem t136_14 : g_at 136 14 = some (.aload_n 0, 0, 0, 0) := by decide +kernel
theorem t136_15 : g_at 136 15 = some (.aload_n 0, 0, 0, 0) := by decide +kernel
theorem t136_16 : g_at 136 16 = some (.getfield 13, 4, 8, 0) := by decide +kernel
theorem t136_19 : g_at 136 19 = some (.aload_n 0, 0, 0, 0) := by decide +kernel
theorem t136_20 : g_at 136 20 = some (.getfield 22, 4, 11, 0) := by decide +kernel
theorem t136_23 : g_at 136 23 = some (.iconst 0, 0, 0, 0) := by decide +kernel
theorem t136_24 : g_at 136 24 = some (.iaload, 0, 0, 0) := by decide +kernel
theorem t136_25 : g_at 136 25 = some (.iconst 1, 0, 0, 1) := by decide +kernel
theorem t136_26 : g_at 136 26 = some (.iload_n 2, 0, 0, 0) := by decide +kernel
theorem t136_27 : g_at 136 27 = some (.ishl, 0, 0, 0) := by decide +kernel
theorem t136_28 : g_at 136 28 = some (.ixor, 0, 0, 0) := by decide +kernel
theorem t136_29 : g_at 136 29 = some (.invokevirtual 135, 61, 2, 0) := by decide +kernel
theorem t136_32 : g_at 136 32 = some (.istore_n 3, 0, 0, 0) := by decide +kernel
theorem t136_33 : g_at 136 33 = some (.iconst 1, 0, 0, 1) := by decide +kernel
theorem t136_34 : g_at 136 34 = some (.istore 4, 0, 0, 0) := by decide +kernel
theorem t136_36 : g_at 136 36 = some (.iconst 0, 0, 0, 0) := by decide +kernel
theorem t136_37 : g_at 136 37 = some (.istore 5, 0, 0, 0) := by decide +kernel
theorem t136_39 : g_at 136 39 = some (.iload 5, 0, 0, 0) := by decide +kernel
theorem t136_41 : g_at 136 41 = some (.aload_n 0, 0, 0, 0) := by decide +kernel
theorem t136_42 : g_at 136 42 = some (.getfield 144, 4, 20, 0) := by decide +kernel
theorem t136_45 : g_at 136 45 = some (.if_icmp .ge (42), 87, 0, 0) := by decide +kernel
theorem t136_48 : g_at 136 48 = some (.iload 4, 0, 0, 0) := by decide +kernel
theorem t136_50 : g_at 136 50 = some (.ifCond .eq (28), 78, 0, 0) := by decide +kernel
theorem t136_53 : g_at 136 53 = some (.iload_n 3, 0, 0, 0) := by decide +kernel
theorem t136_54 : g_at 136 54 = some (.aload_n 0, 0, 0, 0) := by decide +kernel
theorem t136_55 : g_at 136 55 = some (.getfield 38, 4, 18, 0) := by decide +kernel
theorem t136_58 : g_at 136 58 = some (.iload 5, 0, 0, 0) := by decide +kernel
theorem t136_60 : g_at 136 60 = some (.iaload, 0, 0, 0) := by decide +kernel
theorem t136_61 : g_at 136 61 = some (.ishr, 0, 0, 0) := by decide +kernel
theorem t136_62 : g_at 136 62 = some (.iconst 1, 0, 0, 1) := by decide +kernel
theorem t136_63 : g_at 136 63 = some (.iand, 0, 0, 0) := by decide +kernel
theorem t136_64 : g_at 136 64 = some (.aload_n 0, 0, 0, 0) := by decide +kernel
theorem t136_65 : g_at 136 65 = some (.getfield 41, 4, 19, 0) := by decide +kernel
theorem t136_68 : g_at 136 68 = some (.iload 5, 0, 0, 0) := by decide +kernel
theorem t136_70 : g_at 136 70 = some (.iaload, 0, 0, 0) := by decide +kernel
theorem t136_71 : g_at 136 71 = some (.if_icmp .ne (7), 78, 0, 0) := by decide +kernel
theorem t136_74 : g_at 136 74 = some (.iconst 1, 0, 0, 1) := by decide +kernel
theorem t136_75 : g_at 136 75 = some (.goto (4), 79, 0, 0) := by decide +kernel
theorem t136_78 : g_at 136 78 = some (.iconst 0, 0, 0, 0) := by decide +kernel
theorem t136_79 : g_at 136 79 = some (.istore 4, 0, 0, 0) := by decide +kernel
theorem t136_81 : g_at 136 81 = some (.iinc 5 (1), 0, 0, 1) := by decide +kernel
theorem t136_84 : g_at 136 84 = some (.goto (-45), 39, 0, 0) := by decide +kernel
theorem t136_87 : g_at 136 87 = some (.iload_n 1, 0, 0, 0) := by decide +kernel
theorem t136_88 : g_at 136 88 = some (.iload 4, 0, 0, 0) := by decide +kernel
theorem t136_90 : g_at 136 90 = some (.ifCond .eq (9), 99, 0, 0) := by decide +kernel
theorem t136_93 : g_at 136 93 = some (.iconst 1, 0, 0, 1) := by decide +kernel
theorem t136_94 : g_at 136 94 = some (.iload_n 2, 0, 0, 0) := by decide +kernel
theorem t136_95 : g_at 136 95 = some (.ishl, 0, 0, 0) := by decide +kernel
theorem t136_96 : g_at 136 96 = some (.goto (4), 100, 0, 0) := by decide +kernel
theorem t136_99 : g_at 136 99 = some (.iconst 0, 0, 0, 0) := by decide +kernel
theorem t136_100 : g_at 136 100 = some (.ior, 0, 0, 0) := by decide +kernel
theorem t136_101 : g_at 136 101 = some (.istore_n 1, 0, 0, 0) := by decide +kernel
theorem t136_102 : g_at 136 102 = some (.iinc 2 (1), 0, 0, 1) := by decide +kernel
theorem t136_105 : g_at 136 105 = some (.goto (-101), 4, 0, 0) := by decide +kernel
theorem t136_108 : g_at 136 108 = some (.iload_n 1, 0, 0, 0) := by decide +kernel
theorem t136_109 : g_at 136 109 = some (.ireturn, 0, 0, 0) := by decide +kernel
theorem t137_0 : g_at 137 0 = some (.aload_n 0, 0, 0, 0) := by decide +kernel
theorem t137_1 : g_at 137 1 = some (.iconst 0, 0, 0, 0) := by decide +kernel
theorem t137_2 : g_at 137 2 = some (.putfield 62, 4, 0, 0) := by decide +kernel
theorem t137_5 : g_at 137 5 = some (.aload_n 0, 0, 0, 0) := by decide +kernel
theorem t137_6 : g_at 137 6 = some (.invokevirtual 202, 136, 0, 0) := by decide +kernel
theorem t137_9 : g_at 137 9 = some (.ireturn, 0, 0, 0) := by decide +kernel
theorem t138_0 : g_at 138 0 = some (.iconst 0, 0, 0, 0) := by decide +kernel
theorem t138_1 : g_at 138 1 = some (.istore_n 3, 0, 0, 0) := by decide +kernel
theorem t138_2 : g_at 138 2 = some (.iconst 0, 0, 0, 0) := by decide +kernel
theorem t138_3 : g_at 138 3 = some (.istore 4, 0, 0, 0) := by decide +kernel
theorem t138_5 : g_at 138 5 = some (.iload 4, 0, 0, 0) := by decide +kernel
theorem t138_7 : g_at 138 7 = some (.aload_n 0, 0, 0, 0) := by decide +kernel
theorem t138_8 : g_at 138 8 = some (.getfield 26, 3, 2, 0) := by decide +kernel
theorem t138_11 : g_at 138 11 = some (.getfield 112, 1, 3, 0) := by decide +kernel
theorem t138_14 : g_at 138 14 = some (.if_icmp .ge (43), 57, 0, 0) := by decide +kernel
theorem t138_17 : g_at 138 17 = some (.iload_n 2, 0, 0, 0) := by decide +kernel
theorem t138_18 : g_at 138 18 = some (.iload 4, 0, 0, 0) := by decide +kernel
theorem t138_20 : g_at 138 20 = some (.invokestatic 98, 19, 2, 0) := by decide +kernel
theorem t138_23 : g_at 138 23 = some (.iconst 1, 0, 0, 1) := by decide +kernel
theorem t138_24 : g_at 138 24 = some (.if_icmp .ne (27), 51, 0, 0) := by decide +kernel
theorem t138_27 : g_at 138 27 = some (.iload_n 3, 0, 0, 0) := by decide +kernel
theorem t138_28 : g_at 138 28 = some (.aload_n 0, 0, 0, 0) := by decide +kernel
theorem t138_29 : g_at 138 29 = some (.getfield 26, 3, 2, 0) := by decide +kernel
theorem t138_32 : g_at 138 32 = some (.getfield 118, 1, 10, 0) := by decide +kernel
theorem t138_35 : g_at 138 35 = some (.aload_n 0, 0, 0, 0) := by decide +kernel
theorem t138_36 : g_at 138 36 = some (.getfield 95, 3, 4, 0) := by decide +kernel
theorem t138_39 : g_at 138 39 = some (.iconst 1, 0, 0, 1) := by decide +kernel
theorem t138_40 : g_at 138 40 = some (.iload 4, 0, 0, 0) := by decide +kernel
theorem t138_42 : g_at 138 42 = some (.ishl, 0, 0, 0) := by decide +kernel
theorem t138_43 : g_at 138 43 = some (.ixor, 0, 0, 0) := by decide +kernel
theorem t138_44 : g_at 138 44 = some (.iaload, 0, 0, 0) := by decide +kernel
theorem t138_45 : g_at 138 45 = some (.iload_n 1, 0, 0, 0) := by decide +kernel
theorem t138_46 : g_at 138 46 = some (.invokestatic 98, 19, 2, 0) := by decide +kernel
theorem t138_49 : g_at 138 49 = some (.iadd, 0, 0, 0) := by decide +kernel
theorem t138_50 : g_at 138 50 = some (.istore_n 3, 0, 0, 0) := by decide +kernel
theorem t138_51 : g_at 138 51 = some (.iinc 4 (1), 0, 0, 1) := by decide +kernel
theorem t138_54 : g_at 138 54 = some (.goto (-49), 5, 0, 0) := by decide +kernel
theorem t138_57 : g_at 138 57 = some (.iload_n 3, 0, 0, 0) := by decide +kernel
theorem t138_58 : g_at 138 58 = some (.ireturn, 0, 0, 0) := by decide +kernel
theorem t139_0 : g_at 139 0 = some (.aload_n 0, 0, 0, 0) := by decide +kernel
theorem t139_1 : g_at 139 1 = some (.invokevirtual 199, 135, 0, 0) := by decide +kernel
theorem t139_4 : g_at 139 4 = some (.istore_n 1, 0, 0, 0) := by decide +kernel
theorem t139_5 : g_at 139 5 = some (.iload_n 1, 0, 0, 0) := by decide +kernel
theorem t139_6 : g_at 139 6 = some (.invokestatic 179, 26, 1, 0) := by decide +kernel
theorem t139_9 : g_at 139 9 = some (.istore_n 2, 0, 0, 0) := by decide +kernel
theorem t139_10 : g_at 139 10 = some (.iload_n 2, 0, 0, 0) := by decide +kernel
theorem t139_11 : g_at 139 11 = some (.iconst 1, 0, 0, 1) := by decide +kernel
theorem t139_12 : g_at 139 12 = some (.if_icmp .gt (6), 18, 0, 0) := by decide +kernel
theorem t139_15 : g_at 139 15 = some (.bipush (-9), 0, 0, (-9)) := by decide +kernel
theorem t139_17 : g_at 139 17 = some (.ireturn, 0, 0, 0) := by decide +kernel
theorem t139_18 : g_at 139 18 = some (.bipush (-9), 0, 0, (-9)) := by decide +kernel
theorem t139_20 : g_at 139 20 = some (.istore_n 3, 0, 0, 0) := by decide +kernel
theorem t139_21 : g_at 139 21 = some (.iload_n 2, 0, 0, 0) := by decide +kernel
theorem t139_22 : g_at 139 22 = some (.iconst 1, 0, 0, 1) := by decide +kernel
theorem t139_23 : g_at 139 23 = some (.iadd, 0, 0, 0) := by decide +kernel
theorem t139_24 : g_at 139 24 = some (.istore 4, 0, 0, 0) := by decide +kernel
theorem t139_26 : g_at 139 26 = some (.iconst 0, 0, 0, 0) := by decide +kernel
theorem t139_27 : g_at 139 27 = some (.istore 5, 0, 0, 0) := by decide +kernel
theorem t139_29 : g_at 139 29 = some (.iload 5, 0, 0, 0) := by decide +kernel
theorem t139_31 : g_at 139 31 = some (.aload_n 0, 0, 0, 0) := by decide +kernel
theorem t139_32 : g_at 139 32 = some (.getfield 26, 3, 2, 0) := by decide +kernel
theorem t139_35 : g_at 139 35 = some (.getfield 202, 1, 0, 0) := by decide +kernel
theorem t139_38 : g_at 139 38 = some (.if_icmp .ge (43), 81, 0, 0) := by decide +kernel
theorem t139_41 : g_at 139 41 = some (.aload_n 0, 0, 0, 0) := by decide +kernel
theorem t139_42 : g_at 139 42 = some (.iload 5, 0, 0, 0) := by decide +kernel
theorem t139_44 : g_at 139 44 = some (.iload_n 1, 0, 0, 0) := by decide +kernel
theorem t139_45 : g_at 139 45 = some (.invokevirtual 205, 138, 2, 0) := by decide +kernel
theorem t139_48 : g_at 139 48 = some (.istore 6, 0, 0, 0) := by decide +kernel
theorem t139_50 : g_at 139 50 = some (.iload 6, 0, 0, 0) := by decide +kernel
theorem t139_52 : g_at 139 52 = some (.iload_n 2, 0, 0, 0) := by decide +kernel
theorem t139_53 : g_at 139 53 = some (.iload 6, 0, 0, 0) := by decide +kernel
theorem t139_55 : g_at 139 55 = some (.isub, 0, 0, 0) := by decide +kernel
theorem t139_56 : g_at 139 56 = some (.invokestatic 208, 998, 2, 0) := by decide +kernel
theorem t139_59 : g_at 139 59 = some (.istore 7, 0, 0, 0) := by decide +kernel
theorem t139_61 : g_at 139 61 = some (.iload 7, 0, 0, 0) := by decide +kernel
theorem t139_63 : g_at 139 63 = some (.iload 4, 0, 0, 0) := by decide +kernel
theorem t139_65 : g_at 139 65 = some (.if_icmp .ge (10), 75, 0, 0) := by decide +kernel
theorem t139_68 : g_at 139 68 = some (.iload 7, 0, 0, 0) := by decide +kernel
theorem t139_70 : g_at 139 70 = some (.istore 4, 0, 0, 0) := by decide +kernel
theorem t139_72 : g_at 139 72 = some (.iload 5, 0, 0, 0) := by decide +kernel
theorem t139_74 : g_at 139 74 = some (.istore_n 3, 0, 0, 0) := by decide +kernel
theorem t139_75 : g_at 139 75 = some (.iinc 5 (1), 0, 0, 1) := by decide +kernel
theorem t139_78 : g_at 139 78 = some (.goto (-49), 29, 0, 0) := by decide +kernel
theorem t139_81 : g_at 139 81 = some (.iload_n 3, 0, 0, 0) := by decide +kernel
theorem t139_82 : g_at 139 82 = some (.ireturn, 0, 0, 0) := by decide +kernel
theorem t140_0 : g_at 140 0 = some (.iconst 0, 0, 0, 0) := by decide +kernel
theorem t140_1 : g_at 140 1 = some (.istore_n 1, 0, 0, 0) := by decide +kernel
theorem t140_2 : g_at 140 2 = some (.iload_n 0, 0, 0, 0) := by decide +kernel
theorem t140_3 : g_at 140 3 = some (.istore_n 2, 0, 0, 0) := by decide +kernel
theorem t140_4 : g_at 140 4 = some (.iload_n 2, 0, 0, 0) := by decide +kernel
theorem t140_5 : g_at 140 5 = some (.ifCond .eq (15), 20, 0, 0) := by decide +kernel
theorem t140_8 : g_at 140 8 = some (.iinc 1 (1), 0, 0, 1) := by decide +kernel
theorem t140_11 : g_at 140 11 = some (.iload_n 2, 0, 0, 0) := by decide +kernel
theorem t140_12 : g_at 140 12 = some (.iload_n 2, 0, 0, 0) := by decide +kernel
theorem t140_13 : g_at 140 13 = some (.iconst 1, 0, 0, 1) := by decide +kernel
theorem t140_14 : g_at 140 14 = some (.isub, 0, 0, 0) := by decide +kernel
theorem t140_15 : g_at 140 15 = some (.iand, 0, 0, 0) := by decide +kernel
theorem t140_16 : g_at 140 16 = some (.istore_n 2, 0, 0, 0) := by decide +kernel
theorem t140_17 : g_at 140 17 = some (.goto (-13), 4, 0, 0) := by decide +kernel
theorem t140_20 : g_at 140 20 = some (.iload_n 1, 0, 0, 0) := by decide +kernel
theorem t140_21 : g_at 140 21 = some (.ireturn, 0, 0, 0) := by decide +kernel
theorem t141_0 : g_at 141 0 = some (.aload_n 0, 0, 0, 0) := by decide +kernel
theorem t141_1 : g_at 141 1 = some (.iconst 0, 0, 0, 0) := by decide +kernel
theorem t141_2 : g_at 141 2 = some (.putfield 62, 4, 0, 0) := by decide +kernel
theorem t141_5 : g_at 141 5 = some (.aload_n 0, 0, 0, 0) := by decide +kernel
theorem t141_6 : g_at 141 6 = some (.invokevirtual 202, 136, 0, 0) := by decide +kernel
theorem t141_9 : g_at 141 9 = some (.istore_n 1, 0, 0, 0) := by decide +kernel
theorem t141_10 : g_at 141 10 = some (.iload_n 1, 0, 0, 0) := by decide +kernel
theorem t141_11 : g_at 141 11 = some (.invokestatic 205, 140, 1, 0) := by decide +kernel
theorem t141_14 : g_at 141 14 = some (.istore_n 2, 0, 0, 0) := by decide +kernel
theorem t141_15 : g_at 141 15 = some (.bipush (-9), 0, 0, (-9)) := by decide +kernel
theorem t141_17 : g_at 141 17 = some (.istore_n 3, 0, 0, 0) := by decide +kernel
theorem t141_18 : g_at 141 18 = some (.bipush (99), 0, 0, 99) := by decide +kernel
theorem t141_20 : g_at 141 20 = some (.istore 4, 0, 0, 0) := by decide +kernel
theorem t141_22 : g_at 141 22 = some (.iconst 0, 0, 0, 0) := by decide +kernel
theorem t141_23 : g_at 141 23 = some (.istore 5, 0, 0, 0) := by decide +kernel
theorem t141_25 : g_at 141 25 = some (.iload 5, 0, 0, 0) := by decide +kernel
theorem t141_27 : g_at 141 27 = some (.aload_n 0, 0, 0, 0) := by decide +kernel
theorem t141_28 : g_at 141 28 = some (.getfield 13, 4, 8, 0) := by decide +kernel
theorem t141_31 : g_at 141 31 = some (.iconst 0, 0, 0, 0) := by decide +kernel
theorem t141_32 : g_at 141 32 = some (.iaload, 0, 0, 0) := by decide +kernel
theorem t141_33 : g_at 141 33 = some (.if_icmp .ge (133), 166, 0, 0) := by decide +kernel
theorem t141_36 : g_at 141 36 = some (.iload_n 2, 0, 0, 0) := by decide +kernel
theorem t141_37 : g_at 141 37 = some (.iconst 1, 0, 0, 1) := by decide +kernel
theorem t141_38 : g_at 141 38 = some (.if_icmp .le (128), 166, 0, 0) := by decide +kernel
theorem t141_41 : g_at 141 41 = some (.iconst 0, 0, 0, 0) := by decide +kernel
theorem t141_42 : g_at 141 42 = some (.istore 6, 0, 0, 0) := by decide +kernel
theorem t141_44 : g_at 141 44 = some (.iconst 0, 0, 0, 0) := by decide +kernel
theorem t141_45 : g_at 141 45 = some (.istore 7, 0, 0, 0) := by decide +kernel
theorem t141_47 : g_at 141 47 = some (.iload 7, 0, 0, 0) := by decide +kernel
theorem t141_49 : g_at 141 49 = some (.aload_n 0, 0, 0, 0) := by decide +kernel
theorem t141_50 : g_at 141 50 = some (.getfield 13, 4, 8, 0) := by decide +kernel
theorem t141_53 : g_at 141 53 = some (.iconst 3, 0, 0, 3) := by decide +kernel
theorem t141_54 : g_at 141 54 = some (.iaload, 0, 0, 0) := by decide +kernel
theorem t141_55 : g_at 141 55 = some (.if_icmp .ge (55), 110, 0, 0) := by decide +kernel
theorem t141_58 : g_at 141 58 = some (.iload 6, 0, 0, 0) := by decide +kernel
theorem t141_60 : g_at 141 60 = some (.iload_n 1, 0, 0, 0) := by decide +kernel
theorem t141_61 : g_at 141 61 = some (.iload 7, 0, 0, 0) := by decide +kernel
theorem t141_63 : g_at 141 63 = some (.invokestatic 111, 53, 2, 0) := by decide +kernel
theorem t141_66 : g_at 141 66 = some (.ifCond .eq (34), 100, 0, 0) := by decide +kernel
theorem t141_69 : g_at 141 69 = some (.aload_n 0, 0, 0, 0) := by decide +kernel
theorem t141_70 : g_at 141 70 = some (.aload_n 0, 0, 0, 0) := by decide +kernel
theorem t141_71 : g_at 141 71 = some (.getfield 13, 4, 8, 0) := by decide +kernel
theorem t141_74 : g_at 141 74 = some (.aload_n 0, 0, 0, 0) := by decide +kernel
theorem t141_75 : g_at 141 75 = some (.getfield 22, 4, 11, 0) := by decide +kernel
theorem t141_78 : g_at 141 78 = some (.iconst 0, 0, 0, 0) := by decide +kernel
theorem t141_79 : g_at 141 79 = some (.iaload, 0, 0, 0) := by decide +kernel
theorem t141_80 : g_at 141 80 = some (.iconst 1, 0, 0, 1) := by decide +kernel
theorem t141_81 : g_at 141 81 = some (.iload 7, 0, 0, 0) := by decide +kernel
theorem t141_83 : g_at 141 83 = some (.ishl, 0, 0, 0) := by decide +kernel
theorem t141_84 : g_at 141 84 = some (.ixor, 0, 0, 0) := by decide +kernel
theorem t141_85 : g_at 141 85 = some (.invokevirtual 135, 61, 2, 0) := by decide +kernel
theorem t141_88 : g_at 141 88 = some (.iload 5, 0, 0, 0) := by decide +kernel
theorem t141_90 : g_at 141 90 = some (.invokestatic 111, 53, 2, 0) := by decide +kernel
theorem t141_93 : g_at 141 93 = some (.ifCond .eq (7), 100, 0, 0) := by decide +kernel
theorem t141_96 : g_at 141 96 = some (.iconst 1, 0, 0, 1) := by decide +kernel
theorem t141_97 : g_at 141 97 = some (.goto (4), 101, 0, 0) := by decide +kernel
theorem t141_100 : g_at 141 100 = some (.iconst 0, 0, 0, 0) := by decide +kernel
theorem t141_101 : g_at 141 101 = some (.iadd, 0, 0, 0) := by decide +kernel
theorem t141_102 : g_at 141 102 = some (.istore 6, 0, 0, 0) := by decide +kernel
theorem t141_104 : g_at 141 104 = some (.iinc 7 (1), 0, 0, 1) := by decide +kernel
theorem t141_107 : g_at 141 107 = some (.goto (-60), 47, 0, 0) := by decide +kernel
theorem t141_110 : g_at 141 110 = some (.iload 6, 0, 0, 0) := by decide +kernel
theorem t141_112 : g_at 141 112 = some (.iload_n 2, 0, 0, 0) := by decide +kernel
theorem t141_113 : g_at 141 113 = some (.iload 6, 0, 0, 0) := by decide +kernel
theorem t141_115 : g_at 141 115 = some (.isub, 0, 0, 0) := by decide +kernel
theorem t141_116 : g_at 141 116 = some (.if_icmp .le (8), 124, 0, 0) := by decide +kernel
theorem t141_119 : g_at 141 119 = some (.iload 6, 0, 0, 0) := by decide +kernel
theorem t141_121 : g_at 141 121 = some (.goto (7), 128, 0, 0) := by decide +kernel
theorem t141_124 : g_at 141 124 = some (.iload_n 2, 0, 0, 0) := by decide +kernel
theorem t141_125 : g_at 141 125 = some (.iload 6, 0, 0, 0) := by decide +kernel
theorem t141_127 : g_at 141 127 = some (.isub, 0, 0, 0) := by decide +kernel
theorem t141_128 : g_at 141 128 = some (.istore 7, 0, 0, 0) := by decide +kernel
theorem t141_130 : g_at 141 130 = some (.iload 7, 0, 0, 0) := by decide +kernel
theorem t141_132 : g_at 141 132 = some (.iload 4, 0, 0, 0) := by decide +kernel
theorem t141_134 : g_at 141 134 = some (.if_icmp .ge (8), 142, 0, 0) := by decide +kernel
theorem t141_137 : g_at 141 137 = some (.iload 5, 0, 0, 0) := by decide +kernel
theorem t141_139 : g_at 141 139 = some (.goto (4), 143, 0, 0) := by decide +kernel
theorem t141_142 : g_at 141 142 = some (.iload_n 3, 0, 0, 0) := by decide +kernel
theorem t141_143 : g_at 141 143 = some (.istore_n 3, 0, 0, 0) := by decide +kernel
theorem t141_144 : g_at 141 144 = some (.iload 7, 0, 0, 0) := by decide +kernel
theorem t141_146 : g_at 141 146 = some (.iload 4, 0, 0, 0) := by decide +kernel
theorem t141_148 : g_at 141 148 = some (.if_icmp .ge (8), 156, 0, 0) := by decide +kernel
theorem t141_151 : g_at 141 151 = some (.iload 7, 0, 0, 0) := by decide +kernel
theorem t141_153 : g_at 141 153 = some (.goto (5), 158, 0, 0) := by decide +kernel
theorem t141_156 : g_at 141 156 = some (.iload 4, 0, 0, 0) := by decide +kernel
theorem t141_158 : g_at 141 158 = some (.istore 4, 0, 0, 0) := by decide +kernel
theorem t141_160 : g_at 141 160 = some (.iinc 5 (1), 0, 0, 1) := by decide +kernel
theorem t141_163 : g_at 141 163 = some (.goto (-138), 25, 0, 0) := by decide +kernel
theorem t141_166 : g_at 141 166 = some (.iload_n 3, 0, 0, 0) := by decide +kernel
theorem t141_167 : g_at 141 167 = some (.ireturn, 0, 0, 0) := by decide +kernel
theorem t142_0 : g_at 142 0 = some (.iload_n 0, 0, 0, 0) := by decide +kernel
theorem t142_1 : g_at 142 1 = some (.ifCond .lt (12), 13, 0, 0) := by decide +kernel
theorem t142_4 : g_at 142 4 = some (.iload_n 0, 0, 0, 0) := by decide +kernel
theorem t142_5 : g_at 142 5 = some (.iconst 2, 0, 0, 2) := by decide +kernel
theorem t142_6 : g_at 142 6 = some (.if_icmp .ge (7), 13, 0, 0) := by decide +kernel
theorem t142_9 : g_at 142 9 = some (.iconst 1, 0, 0, 1) := by decide +kernel
theorem t142_10 : g_at 142 10 = some (.goto (4), 14, 0, 0) := by decide +kernel
theorem t142_13 : g_at 142 13 = some (.iconst 0, 0, 0, 0) := by decide +kernel
theorem t142_14 : g_at 142 14 = some (.ireturn, 0, 0, 0) := by decide +kernel
theorem t143_0 : g_at 143 0 = some (.iload_n 1, 0, 0, 0) := by decide +kernel
theorem t143_1 : g_at 143 1 = some (.invokestatic 213, 142, 1, 0) := by decide +kernel
theorem t143_4 : g_at 143 4 = some (.ifCond .ne (5), 9, 0, 0) := by decide +kernel
theorem t143_7 : g_at 143 7 = some (.iconst (-1), 0, 0, (-1)) := by decide +kernel
theorem t143_8 : g_at 143 8 = some (.ireturn, 0, 0, 0) := by decide +kernel
theorem t143_9 : g_at 143 9 = some (.aload_n 0, 0, 0, 0) := by decide +kernel
theorem t143_10 : g_at 143 10 = some (.getfield 43, 3, 11, 0) := by decide +kernel
theorem t143_13 : g_at 143 13 = some (.iload_n 1, 0, 0, 0) := by decide +kernel
theorem t143_14 : g_at 143 14 = some (.aload_n 0, 0, 0, 0) := by decide +kernel
theorem t143_15 : g_at 143 15 = some (.invokevirtual 216, 94, 0, 0) := by decide +kernel
theorem t143_18 : g_at 143 18 = some (.iastore, 0, 0, 0) := by decide +kernel
theorem t143_19 : g_at 143 19 = some (.aload_n 0, 0, 0, 0) := by decide +kernel
theorem t143_20 : g_at 143 20 = some (.dup, 0, 0, 0) := by decide +kernel
theorem t143_21 : g_at 143 21 = some (.getfield 219, 3, 12, 0) := by decide +kernel
theorem t143_24 : g_at 143 24 = some (.iconst 1, 0, 0, 1) := by decide +kernel
theorem t143_25 : g_at 143 25 = some (.iload_n 1, 0, 0, 0) := by decide +kernel
theorem t143_26 : g_at 143 26 = some (.ishl, 0, 0, 0) := by decide +kernel
theorem t143_27 : g_at 143 27 = some (.ior, 0, 0, 0) := by decide +kernel
theorem t143_28 : g_at 143 28 = some (.putfield 219, 3, 12, 0) := by decide +kernel
theorem t143_31 : g_at 143 31 = some (.aload_n 0, 0, 0, 0) := by decide +kernel
theorem t143_32 : g_at 143 32 = some (.getfield 95, 3, 4, 0) := by decide +kernel
theorem t143_35 : g_at 143 35 = some (.ireturn, 0, 0, 0) := by decide +kernel
theorem t144_0 : g_at 144 0 = some (.aload_n 0, 0, 0, 0) := by decide +kernel
theorem t144_1 : g_at 144 1 = some (.iconst 0, 0, 0, 0) := by decide +kernel
theorem t144_2 : g_at 144 2 = some (.putfield 62, 4, 0, 0) := by decide +kernel
theorem t144_5 : g_at 144 5 = some (.iload_n 1, 0, 0, 0) := by decide +kernel
theorem t144_6 : g_at 144 6 = some (.iconst 0, 0, 0, 0) := by decide +kernel
theorem t144_7 : g_at 144 7 = some (.iconst 1, 0, 0, 1) := by decide +kernel
theorem t144_8 : g_at 144 8 = some (.invokestatic 66, 10, 3, 0) := by decide +kernel
theorem t144_11 : g_at 144 11 = some (.ifCond .ne (5), 16, 0, 0) := by decide +kernel
theorem t144_14 : g_at 144 14 = some (.iconst (-1), 0, 0, (-1)) := by decide +kernel
theorem t144_15 : g_at 144 15 = some (.ireturn, 0, 0, 0) := by decide +kernel
theorem t144_16 : g_at 144 16 = some (.iconst 0, 0, 0, 0) := by decide +kernel
theorem t144_17 : g_at 144 17 = some (.istore_n 2, 0, 0, 0) := by decide +kernel
theorem t144_18 : g_at 144 18 = some (.iload_n 2, 0, 0, 0) := by decide +kernel
theorem t144_19 : g_at 144 19 = some (.iconst 5, 0, 0, 5) := by decide +kernel
theorem t144_20 : g_at 144 20 = some (.if_icmp .ge (25), 45, 0, 0) := by decide +kernel
theorem t144_23 : g_at 144 23 = some (.aload_n 0, 0, 0, 0) := by decide +kernel
theorem t144_24 : g_at 144 24 = some (.getfield 28, 4, 14, 0) := by decide +kernel
theorem t144_27 : g_at 144 27 = some (.iconst 5, 0, 0, 5) := by decide +kernel
theorem t144_28 : g_at 144 28 = some (.iload_n 1, 0, 0, 0) := by decide +kernel
theorem t144_29 : g_at 144 29 = some (.imul, 0, 0, 0) := by decide +kernel
theorem t144_30 : g_at 144 30 = some (.iload_n 2, 0, 0, 0) := by decide +kernel
theorem t144_31 : g_at 144 31 = some (.iadd, 0, 0, 0) := by decide +kernel
theorem t144_32 : g_at 144 32 = some (.aload_n 0, 0, 0, 0) := by decide +kernel
theorem t144_33 : g_at 144 33 = some (.getfield 22, 4, 11, 0) := by decide +kernel
theorem t144_36 : g_at 144 36 = some (.iload_n 2, 0, 0, 0) := by decide +kernel
theorem t144_37 : g_at 144 37 = some (.iaload, 0, 0, 0) := by decide +kernel
theorem t144_38 : g_at 144 38 = some (.iastore, 0, 0, 0) := by decide +kernel
theorem t144_39 : g_at 144 39 = some (.iinc 2 (1), 0, 0, 1) := by decide +kernel
theorem t144_42 : g_at 144 42 = some (.goto (-24), 18, 0, 0) := by decide +kernel
theorem t144_45 : g_at 144 45 = some (.aload_n 0, 0, 0, 0) := by decide +kernel
theorem t144_46 : g_at 144 46 = some (.getfield 31, 4, 15, 0) := by decide +kernel
theorem t144_49 : g_at 144 49 = some (.iload_n 1, 0, 0, 0) := by decide +kernel
theorem t144_50 : g_at 144 50 = some (.iconst 1, 0, 0, 1) := by decide +kernel
theorem t144_51 : g_at 144 51 = some (.bastore, 0, 0, 0) := by decide +kernel
theorem t144_52 : g_at 144 52 = some (.aload_n 0, 0, 0, 0) := by decide +kernel
theorem t144_53 : g_at 144 53 = some (.getfield 22, 4, 11, 0) := by decide +kernel
theorem t144_56 : g_at 144 56 = some (.iconst 0, 0, 0, 0) := by decide +kernel
theorem t144_57 : g_at 144 57 = some (.iaload, 0, 0, 0) := by decide +kernel
theorem t144_58 : g_at 144 58 = some (.ireturn, 0, 0, 0) := by decide +kernel
theorem t145_0 : g_at 145 0 = some (.iload_n 1, 0, 0, 0) := by decide +kernel
theorem t145_1 : g_at 145 1 = some (.invokestatic 213, 142, 1, 0) := by decide +kernel
theorem t145_4 : g_at 145 4 = some (.ifCond .ne (5), 9, 0, 0) := by decide +kernel
theorem t145_7 : g_at 145 7 = some (.iconst (-1), 0, 0, (-1)) := by decide +kernel
theorem t145_8 : g_at 145 8 = some (.ireturn, 0, 0, 0) := by decide +kernel
theorem t145_9 : g_at 145 9 = some (.aload_n 0, 0, 0, 0) := by decide +kernel
theorem t145_10 : g_at 145 10 = some (.getfield 219, 3, 12, 0) := by decide +kernel
theorem t145_13 : g_at 145 13 = some (.iload_n 1, 0, 0, 0) := by decide +kernel
theorem t145_14 : g_at 145 14 = some (.invokestatic 98, 19, 2, 0) := by decide +kernel
theorem t145_17 : g_at 145 17 = some (.ifCond .ne (6), 23, 0, 0) := by decide +kernel
theorem t145_20 : g_at 145 20 = some (.bipush (-2), 0, 0, (-2)) := by decide +kernel
theorem t145_22 : g_at 145 22 = some (.ireturn, 0, 0, 0) := by decide +kernel
theorem t145_23 : g_at 145 23 = some (.aload_n 0, 0, 0, 0) := by decide +kernel
theorem t145_24 : g_at 145 24 = some (.aload_n 0, 0, 0, 0) := by decide +kernel
theorem t145_25 : g_at 145 25 = some (.getfield 43, 3, 11, 0) := by decide +kernel
theorem t145_28 : g_at 145 28 = some (.iload_n 1, 0, 0, 0) := by decide +kernel
theorem t145_29 : g_at 145 29 = some (.iaload, 0, 0, 0) := by decide +kernel
theorem t145_30 : g_at 145 30 = some (.invokevirtual 162, 110, 1, 0) := by decide +kernel
theorem t145_33 : g_at 145 33 = some (.aload_n 0, 0, 0, 0) := by decide +kernel
theorem t145_34 : g_at 145 34 = some (.iconst 0, 0, 0, 0) := by decide +kernel
theorem t145_35 : g_at 145 35 = some (.putfield 146, 3, 10, 0) := by decide +kernel
theorem t145_38 : g_at 145 38 = some (.aload_n 0, 0, 0, 0) := by decide +kernel
theorem t145_39 : g_at 145 39 = some (.getfield 95, 3, 4, 0) := by decide +kernel
theorem t145_42 : g_at 145 42 = some (.ireturn, 0, 0, 0) := by decide +kernel
theorem t146_0 : g_at 146 0 = some (.aload_n 0, 0, 0, 0) := by decide +kernel
theorem t146_1 : g_at 146 1 = some (.iconst 0, 0, 0, 0) := by decide +kernel
theorem t146_2 : g_at 146 2 = some (.putfield 62, 4, 0, 0) := by decide +kernel
theorem t146_5 : g_at 146 5 = some (.iload_n 1, 0, 0, 0) := by decide +kernel
theorem t146_6 : g_at 146 6 = some (.iconst 0, 0, 0, 0) := by decide +kernel
theorem t146_7 : g_at 146 7 = some (.iconst 1, 0, 0, 1) := by decide +kernel
theorem t146_8 : g_at 146 8 = some (.invokestatic 66, 10, 3, 0) := by decide +kernel
theorem t146_11 : g_at 146 11 = some (.ifCond .ne (5), 16, 0, 0) := by decide +kernel
theorem t146_14 : g_at 146 14 = some (.iconst (-1), 0, 0, (-1)) := by decide +kernel
theorem t146_15 : g_at 146 15 = some (.ireturn, 0, 0, 0) := by decide +kernel
theorem t146_16 : g_at 146 16 = some (.aload_n 0, 0, 0, 0) := by decide +kernel
theorem t146_17 : g_at 146 17 = some (.getfield 31, 4, 15, 0) := by decide +kernel
theorem t146_20 : g_at 146 20 = some (.iload_n 1, 0, 0, 0) := by decide +kernel
theorem t146_21 : g_at 146 21 = some (.baload, 0, 0, 0) := by decide +kernel
theorem t146_22 : g_at 146 22 = some (.ifCond .ne (6), 28, 0, 0) := by decide +kernel
theorem t146_25 : g_at 146 25 = some (.bipush (-2), 0, 0, (-2)) := by decide +kernel
theorem t146_27 : g_at 146 27 = some (.ireturn, 0, 0, 0) := by decide +kernel
theorem t146_28 : g_at 146 28 = some (.iconst 0, 0, 0, 0) := by decide +kernel
theorem t146_29 : g_at 146 29 = some (.istore_n 2, 0, 0, 0) := by decide +kernel
theorem t146_30 : g_at 146 30 = some (.iload_n 2, 0, 0, 0) := by decide +kernel
theorem t146_31 : g_at 146 31 = some (.iconst 5, 0, 0, 5) := by decide +kernel
theorem t146_32 : g_at 146 32 = some (.if_icmp .ge (25), 57, 0, 0) := by decide +kernel
theorem t146_35 : g_at 146 35 = some (.aload_n 0, 0, 0, 0) := by decide +kernel
theorem t146_36 : g_at 146 36 = some (.getfield 22, 4, 11, 0) := by decide +kernel
theorem t146_39 : g_at 146 39 = some (.iload_n 2, 0, 0, 0) := by decide +kernel
theorem t146_40 : g_at 146 40 = some (.aload_n 0, 0, 0, 0) := by decide +kernel
theorem t146_41 : g_at 146 41 = some (.getfield 28, 4, 14, 0) := by decide +kernel
theorem t146_44 : g_at 146 44 = some (.iconst 5, 0, 0, 5) := by decide +kernel
theorem t146_45 : g_at 146 45 = some (.iload_n 1, 0, 0, 0) := by decide +kernel
theorem t146_46 : g_at 146 46 = some (.imul, 0, 0, 0) := by decide +kernel
theorem t146_47 : g_at 146 47 = some (.iload_n 2, 0, 0, 0) := by decide +kernel
theorem t146_48 : g_at 146 48 = some (.iadd, 0, 0, 0) := by decide +kernel
theorem t146_49 : g_at 146 49 = some (.iaload, 0, 0, 0) := by decide +kernel
theorem t146_50 : g_at 146 50 = some (.iastore, 0, 0, 0) := by decide +kernel
theorem t146_51 : g_at 146 51 = some (.iinc 2 (1), 0, 0, 1) := by decide +kernel
theorem t146_54 : g_at 146 54 = some (.goto (-24), 30, 0, 0) := by decide +kernel
theorem t146_57 : g_at 146 57 = some (.aload_n 0, 0, 0, 0) := by decide +kernel
theorem t146_58 : g_at 146 58 = some (.iconst 0, 0, 0, 0) := by decide +kernel
theorem t146_59 : g_at 146 59 = some (.putfield 147, 4, 13, 0) := by decide +kernel
theorem t146_62 : g_at 146 62 = some (.aload_n 0, 0, 0, 0) := by decide +kernel
theorem t146_63 : g_at 146 63 = some (.getfield 22, 4, 11, 0) := by decide +kernel
theorem t146_66 : g_at 146 66 = some (.iconst 0, 0, 0, 0) := by decide +kernel
theorem t146_67 : g_at 146 67 = some (.iaload, 0, 0, 0) := by decide +kernel
theorem t146_68 : g_at 146 68 = some (.ireturn, 0, 0, 0) := by decide +kernel
theorem t147_0 : g_at 147 0 = some (.iload_n 1, 0, 0, 0) := by decide +kernel
theorem t147_1 : g_at 147 1 = some (.tableswitch (102) (0) (7) #[47, 55, 63, 68, 73, 81, 88, 95], 0, 0, 0) := by decide +kernel
theorem t147_48 : g_at 147 48 = some (.aload_n 0, 0, 0, 0) := by decide +kernel
theorem t147_49 : g_at 147 49 = some (.getfield 26, 3, 2, 0) := by decide +kernel
theorem t147_52 : g_at 147 52 = some (.getfield 202, 1, 0, 0) := by decide +kernel
theorem t147_55 : g_at 147 55 = some (.ireturn, 0, 0, 0) := by decide +kernel
theorem t147_56 : g_at 147 56 = some (.aload_n 0, 0, 0, 0) := by decide +kernel
theorem t147_57 : g_at 147 57 = some (.getfield 26, 3, 2, 0) := by decide +kernel
theorem t147_60 : g_at 147 60 = some (.getfield 112, 1, 3, 0) := by decide +kernel
theorem t147_63 : g_at 147 63 = some (.ireturn, 0, 0, 0) := by decide +kernel
theorem t147_64 : g_at 147 64 = some (.aload_n 0, 0, 0, 0) := by decide +kernel
theorem t147_65 : g_at 147 65 = some (.getfield 159, 3, 8, 0) := by decide +kernel
theorem t147_68 : g_at 147 68 = some (.ireturn, 0, 0, 0) := by decide +kernel
theorem t147_69 : g_at 147 69 = some (.aload_n 0, 0, 0, 0) := by decide +kernel
theorem t147_70 : g_at 147 70 = some (.getfield 193, 3, 14, 0) := by decide +kernel
theorem t147_73 : g_at 147 73 = some (.ireturn, 0, 0, 0) := by decide +kernel
theorem t147_74 : g_at 147 74 = some (.aload_n 0, 0, 0, 0) := by decide +kernel
theorem t147_75 : g_at 147 75 = some (.getfield 12, 3, 0, 0) := by decide +kernel
theorem t147_78 : g_at 147 78 = some (.getfield 55, 2, 1, 0) := by decide +kernel
theorem t147_81 : g_at 147 81 = some (.ireturn, 0, 0, 0) := by decide +kernel
theorem t147_82 : g_at 147 82 = some (.aload_n 0, 0, 0, 0) := by decide +kernel
theorem t147_83 : g_at 147 83 = some (.getfield 33, 3, 6, 0) := by decide +kernel
theorem t147_86 : g_at 147 86 = some (.iconst 0, 0, 0, 0) := by decide +kernel
theorem t147_87 : g_at 147 87 = some (.iaload, 0, 0, 0) := by decide +kernel
theorem t147_88 : g_at 147 88 = some (.ireturn, 0, 0, 0) := by decide +kernel
theorem t147_89 : g_at 147 89 = some (.aload_n 0, 0, 0, 0) := by decide +kernel
theorem t147_90 : g_at 147 90 = some (.getfield 33, 3, 6, 0) := by decide +kernel
theorem t147_93 : g_at 147 93 = some (.iconst 1, 0, 0, 1) := by decide +kernel
theorem t147_94 : g_at 147 94 = some (.iaload, 0, 0, 0) := by decide +kernel
theorem t147_95 : g_at 147 95 = some (.ireturn, 0, 0, 0) := by decide +kernel
theorem t147_96 : g_at 147 96 = some (.aload_n 0, 0, 0, 0) := by decide +kernel
theorem t147_97 : g_at 147 97 = some (.getfield 33, 3, 6, 0) := by decide +kernel
theorem t147_100 : g_at 147 100 = some (.iconst 2, 0, 0, 2) := by decide +kernel
theorem t147_101 : g_at 147 101 = some (.iaload, 0, 0, 0) := by decide +kernel
theorem t147_102 : g_at 147 102 = some (.ireturn, 0, 0, 0) := by decide +kernel
theorem t147_103 : g_at 147 103 = some (.iconst (-1), 0, 0, (-1)) := by decide +kernel
theorem t147_104 : g_at 147 104 = some (.ireturn, 0, 0, 0) := by decide +kernel
theorem t148_0 : g_at 148 0 = some (.aload_n 0, 0, 0, 0) := by decide +kernel
theorem t148_1 : g_at 148 1 = some (.iconst 0, 0, 0, 0) := by decide +kernel
theorem t148_2 : g_at 148 2 = some (.putfield 62, 4, 0, 0) := by decide +kernel
theorem t148_5 : g_at 148 5 = some (.iload_n 1, 0, 0, 0) := by decide +kernel
theorem t148_6 : g_at 148 6 = some (.iconst 0, 0, 0, 0) := by decide +kernel
theorem t148_7 : g_at 148 7 = some (.bipush (7), 0, 0, 7) := by decide +kernel
theorem t148_9 : g_at 148 9 = some (.invokestatic 66, 10, 3, 0) := by decide +kernel
theorem t148_12 : g_at 148 12 = some (.ifCond .ne (5), 17, 0, 0) := by decide +kernel
theorem t148_15 : g_at 148 15 = some (.iconst (-1), 0, 0, (-1)) := by decide +kernel
theorem t148_16 : g_at 148 16 = some (.ireturn, 0, 0, 0) := by decide +kernel
theorem t148_17 : g_at 148 17 = some (.iload_n 1, 0, 0, 0) := by decide +kernel
theorem t148_18 : g_at 148 18 = some (.iconst 4, 0, 0, 4) := by decide +kernel
theorem t148_19 : g_at 148 19 = some (.if_icmp .ge (47), 66, 0, 0) := by decide +kernel
theorem t148_22 : g_at 148 22 = some (.iload_n 1, 0, 0, 0) := by decide +kernel
theorem t148_23 : g_at 148 23 = some (.ifCond .ne (12), 35, 0, 0) := by decide +kernel
theorem t148_26 : g_at 148 26 = some (.aload_n 0, 0, 0, 0) := by decide +kernel
theorem t148_27 : g_at 148 27 = some (.getfield 13, 4, 8, 0) := by decide +kernel
theorem t148_30 : g_at 148 30 = some (.iconst 0, 0, 0, 0) := by decide +kernel
theorem t148_31 : g_at 148 31 = some (.iaload, 0, 0, 0) := by decide +kernel
theorem t148_32 : g_at 148 32 = some (.goto (33), 65, 0, 0) := by decide +kernel
theorem t148_35 : g_at 148 35 = some (.iload_n 1, 0, 0, 0) := by decide +kernel
theorem t148_36 : g_at 148 36 = some (.iconst 1, 0, 0, 1) := by decide +kernel
theorem t148_37 : g_at 148 37 = some (.if_icmp .ne (12), 49, 0, 0) := by decide +kernel
theorem t148_40 : g_at 148 40 = some (.aload_n 0, 0, 0, 0) := by decide +kernel
theorem t148_41 : g_at 148 41 = some (.getfield 13, 4, 8, 0) := by decide +kernel
theorem t148_44 : g_at 148 44 = some (.iconst 3, 0, 0, 3) := by decide +kernel
theorem t148_45 : g_at 148 45 = some (.iaload, 0, 0, 0) := by decide +kernel
theorem t148_46 : g_at 148 46 = some (.goto (19), 65, 0, 0) := by decide +kernel
theorem t148_49 : g_at 148 49 = some (.iload_n 1, 0, 0, 0) := by decide +kernel
theorem t148_50 : g_at 148 50 = some (.iconst 2, 0, 0, 2) := by decide +kernel
theorem t148_51 : g_at 148 51 = some (.if_icmp .ne (10), 61, 0, 0) := by decide +kernel
theorem t148_54 : g_at 148 54 = some (.aload_n 0, 0, 0, 0) := by decide +kernel
theorem t148_55 : g_at 148 55 = some (.getfield 141, 4, 17, 0) := by decide +kernel
theorem t148_58 : g_at 148 58 = some (.goto (7), 65, 0, 0) := by decide +kernel
theorem t148_61 : g_at 148 61 = some (.aload_n 0, 0, 0, 0) := by decide +kernel
theorem t148_62 : g_at 148 62 = some (.getfield 144, 4, 20, 0) := by decide +kernel
theorem t148_65 : g_at 148 65 = some (.ireturn, 0, 0, 0) := by decide +kernel
theorem t148_66 : g_at 148 66 = some (.iload_n 1, 0, 0, 0) := by decide +kernel
theorem t148_67 : g_at 148 67 = some (.iconst 4, 0, 0, 4) := by decide +kernel
theorem t148_68 : g_at 148 68 = some (.if_icmp .ne (10), 78, 0, 0) := by decide +kernel
theorem t148_71 : g_at 148 71 = some (.aload_n 0, 0, 0, 0) := by decide +kernel
theorem t148_72 : g_at 148 72 = some (.getfield 70, 4, 2, 0) := by decide +kernel
theorem t148_75 : g_at 148 75 = some (.goto (13), 88, 0, 0) := by decide +kernel
theorem t148_78 : g_at 148 78 = some (.aload_n 0, 0, 0, 0) := by decide +kernel
theorem t148_79 : g_at 148 79 = some (.getfield 22, 4, 11, 0) := by decide +kernel
theorem t148_82 : g_at 148 82 = some (.iconst 2, 0, 0, 2) := by decide +kernel
theorem t148_83 : g_at 148 83 = some (.iload_n 1, 0, 0, 0) := by decide +kernel
theorem t148_84 : g_at 148 84 = some (.iadd, 0, 0, 0) := by decide +kernel
theorem t148_85 : g_at 148 85 = some (.iconst 5, 0, 0, 5) := by decide +kernel
theorem t148_86 : g_at 148 86 = some (.isub, 0, 0, 0) := by decide +kernel
theorem t148_87 : g_at 148 87 = some (.iaload, 0, 0, 0) := by decide +kernel
theorem t148_88 : g_at 148 88 = some (.ireturn, 0, 0, 0) := by decide +kernel
theorem t149_0 : g_at 149 0 = some (.new 7, 3, 0, 0) := by decide +kernel
theorem t149_3 : g_at 149 3 = some (.dup, 0, 0, 0) := by decide +kernel
theorem t149_4 : g_at 149 4 = some (.invokespecial 9, 5, 0, 0) := by decide +kernel
theorem t149_7 : g_at 149 7 = some (.astore_n 1, 0, 0, 0) := by decide +kernel
theorem t149_8 : g_at 149 8 = some (.new 10, 4, 0, 0) := by decide +kernel
theorem t149_11 : g_at 149 11 = some (.dup, 0, 0, 0) := by decide +kernel
theorem t149_12 : g_at 149 12 = some (.invokespecial 12, 8, 0, 0) := by decide +kernel
theorem t149_15 : g_at 149 15 = some (.astore_n 2, 0, 0, 0) := by decide +kernel
theorem t149_16 : g_at 149 16 = some (.iconst 0, 0, 0, 0) := by decide +kernel
theorem t149_17 : g_at 149 17 = some (.istore_n 3, 0, 0, 0) := by decide +kernel
theorem t149_18 : g_at 149 18 = some (.iload_n 3, 0, 0, 0) := by decide +kernel
theorem t149_19 : g_at 149 19 = some (.aload_n 0, 0, 0, 0) := by decide +kernel
theorem t149_20 : g_at 149 20 = some (.arraylength, 0, 0, 0) := by decide +kernel
theorem t149_21 : g_at 149 21 = some (.iconst 4, 0, 0, 4) := by decide +kernel
theorem t149_22 : g_at 149 22 = some (.isub, 0, 0, 0) := by decide +kernel
theorem t149_23 : g_at 149 23 = some (.if_icmp .gt (716), 739, 0, 0) := by decide +kernel
theorem t149_26 : g_at 149 26 = some (.aload_n 0, 0, 0, 0) := by decide +kernel
theorem t149_27 : g_at 149 27 = some (.iload_n 3, 0, 0, 0) := by decide +kernel
theorem t149_28 : g_at 149 28 = some (.iaload, 0, 0, 0) := by decide +kernel
theorem t149_29 : g_at 149 29 = some (.bipush (31), 0, 0, 31) := by decide +kernel
theorem t149_31 : g_at 149 31 = some (.iand, 0, 0, 0) := by decide +kernel
theorem t149_32 : g_at 149 32 = some (.tableswitch (701) (0) (24) #[116, 139, 152, 165, 198, 221, 254, 277, 300, 323, 366, 389, 402, 415, 428, 471, 504, 527, 560, 593, 606, 619, 632, 655, 678], 0, 0, 0) := by decide +kernel
theorem t149_148 : g_at 149 148 = some (.aload_n 1, 0, 0, 0) := by decide +kernel
theorem t149_149 : g_at 149 149 = some (.aload_n 0, 0, 0, 0) := by decide +kernel
theorem t149_150 : g_at 149 150 = some (.iload_n 3, 0, 0, 0) := by decide +kernel
theorem t149_151 : g_at 149 151 = some (.iconst 1, 0, 0, 1) := by decide +kernel
theorem t149_152 : g_at 149 152 = some (.iadd, 0, 0, 0) := by decide +kernel
theorem t149_153 : g_at 149 153 = some (.iaload, 0, 0, 0) := by decide +kernel
theorem t149_154 : g_at 149 154 = some (.invokevirtual 13, 9, 1, 0) := by decide +kernel
theorem t149_157 : g_at 149 157 = some (.aload_n 2, 0, 0, 0) := by decide +kernel
theorem t149_158 : g_at 149 158 = some (.aload_n 0, 0, 0, 0) := by decide +kernel
theorem t149_159 : g_at 149 159 = some (.iload_n 3, 0, 0, 0) := by decide +kernel
theorem t149_160 : g_at 149 160 = some (.iconst 1, 0, 0, 1) := by decide +kernel
theorem t149_161 : g_at 149 161 = some (.iadd, 0, 0, 0) := by decide +kernel
theorem t149_162 : g_at 149 162 = some (.iaload, 0, 0, 0) := by decide +kernel
theorem t149_163 : g_at 149 163 = some (.invokevirtual 17, 11, 1, 0) := by decide +kernel
theorem t149_166 : g_at 149 166 = some (.if_icmp .eq (567), 733, 0, 0) := by decide +kernel
theorem t149_169 : g_at 149 169 = some (.iconst 0, 0, 0, 0) := by decide +kernel
theorem t149_170 : g_at 149 170 = some (.ireturn, 0, 0, 0) := by decide +kernel
theorem t149_171 : g_at 149 171 = some (.aload_n 1, 0, 0, 0) := by decide +kernel
theorem t149_172 : g_at 149 172 = some (.invokevirtual 18, 12, 0, 0) := by decide +kernel
theorem t149_175 : g_at 149 175 = some (.aload_n 2, 0, 0, 0) := by decide +kernel
theorem t149_176 : g_at 149 176 = some (.invokevirtual 22, 13, 0, 0) := by decide +kernel
theorem t149_179 : g_at 149 179 = some (.if_icmp .eq (554), 733, 0, 0) := by decide +kernel
theorem t149_182 : g_at 149 182 = some (.iconst 0, 0, 0, 0) := by decide +kernel
theorem t149_183 : g_at 149 183 = some (.ireturn, 0, 0, 0) := by decide +kernel
theorem t149_184 : g_at 149 184 = some (.aload_n 1, 0, 0, 0) := by decide +kernel
theorem t149_185 : g_at 149 185 = some (.invokevirtual 23, 45, 0, 0) := by decide +kernel
theorem t149_188 : g_at 149 188 = some (.aload_n 2, 0, 0, 0) := by decide +kernel
theorem t149_189 : g_at 149 189 = some (.invokevirtual 26, 63, 0, 0) := by decide +kernel
theorem t149_192 : g_at 149 192 = some (.if_icmp .eq (541), 733, 0, 0) := by decide +kernel
theorem t149_195 : g_at 149 195 = some (.iconst 0, 0, 0, 0) := by decide +kernel
theorem t149_196 : g_at 149 196 = some (.ireturn, 0, 0, 0) := by decide +kernel
theorem t149_197 : g_at 149 197 = some (.aload_n 1, 0, 0, 0) := by decide +kernel
theorem t149_198 : g_at 149 198 = some (.aload_n 0, 0, 0, 0) := by decide +kernel
theorem t149_199 : g_at 149 199 = some (.iload_n 3, 0, 0, 0) := by decide +kernel
theorem t149_200 : g_at 149 200 = some (.iconst 1, 0, 0, 1) := by decide +kernel
theorem t149_201 : g_at 149 201 = some (.iadd, 0, 0, 0) := by decide +kernel
theorem t149_202 : g_at 149 202 = some (.iaload, 0, 0, 0) := by decide +kernel
theorem t149_203 : g_at 149 203 = some (.aload_n 0, 0, 0, 0) := by decide +kernel
theorem t149_204 : g_at 149 204 = some (.iload_n 3, 0, 0, 0) := by decide +kernel
theorem t149_205 : g_at 149 205 = some (.iconst 2, 0, 0, 2) := by decide +kernel
theorem t149_206 : g_at 149 206 = some (.iadd, 0, 0, 0) := by decide +kernel
theorem t149_207 : g_at 149 207 = some (.iaload, 0, 0, 0) := by decide +kernel
theorem t149_208 : g_at 149 208 = some (.invokevirtual 27, 67, 2, 0) := by decide +kernel
theorem t149_211 : g_at 149 211 = some (.aload_n 2, 0, 0, 0) := by decide +kernel
theorem t149_212 : g_at 149 212 = some (.aload_n 0, 0, 0, 0) := by decide +kernel
theorem t149_213 : g_at 149 213 = some (.iload_n 3, 0, 0, 0) := by decide +kernel
theorem t149_214 : g_at 149 214 = some (.iconst 1, 0, 0, 1) := by decide +kernel
theorem t149_215 : g_at 149 215 = some (.iadd, 0, 0, 0) := by decide +kernel
theorem t149_216 : g_at 149 216 = some (.iaload, 0, 0, 0) := by decide +kernel
theorem t149_217 : g_at 149 217 = some (.aload_n 0, 0, 0, 0) := by decide +kernel
theorem t149_218 : g_at 149 218 = some (.iload_n 3, 0, 0, 0) := by decide +kernel
theorem t149_219 : g_at 149 219 = some (.iconst 2, 0, 0, 2) := by decide +kernel
theorem t149_220 : g_at 149 220 = some (.iadd, 0, 0, 0) := by decide +kernel
theorem t149_221 : g_at 149 221 = some (.iaload, 0, 0, 0) := by decide +kernel
theorem t149_222 : g_at 149 222 = some (.invokevirtual 31, 71, 2, 0) := by decide +kernel
theorem t149_225 : g_at 149 225 = some (.if_icmp .eq (508), 733, 0, 0) := by decide +kernel
theorem t149_228 : g_at 149 228 = some (.iconst 0, 0, 0, 0) := by decide +kernel
theorem t149_229 : g_at 149 229 = some (.ireturn, 0, 0, 0) := by decide +kernel
theorem t149_230 : g_at 149 230 = some (.aload_n 1, 0, 0, 0) := by decide +kernel
theorem t149_231 : g_at 149 231 = some (.aload_n 0, 0, 0, 0) := by decide +kernel
theorem t149_232 : g_at 149 232 = some (.iload_n 3, 0, 0, 0) := by decide +kernel
theorem t149_233 : g_at 149 233 = some (.iconst 1, 0, 0, 1) := by decide +kernel
theorem t149_234 : g_at 149 234 = some (.iadd, 0, 0, 0) := by decide +kernel
theorem t149_235 : g_at 149 235 = some (.iaload, 0, 0, 0) := by decide +kernel
theorem t149_236 : g_at 149 236 = some (.invokevirtual 32, 72, 1, 0) := by decide +kernel
theorem t149_239 : g_at 149 239 = some (.aload_n 2, 0, 0, 0) := by decide +kernel
theorem t149_240 : g_at 149 240 = some (.aload_n 0, 0, 0, 0) := by decide +kernel
theorem t149_241 : g_at 149 241 = some (.iload_n 3, 0, 0, 0) := by decide +kernel
theorem t149_242 : g_at 149 242 = some (.iconst 1, 0, 0, 1) := by decide +kernel
theorem t149_243 : g_at 149 243 = some (.iadd, 0, 0, 0) := by decide +kernel
theorem t149_244 : g_at 149 244 = some (.iaload, 0, 0, 0) := by decide +kernel
theorem t149_245 : g_at 149 245 = some (.invokevirtual 35, 73, 1, 0) := by decide +kernel
theorem t149_248 : g_at 149 248 = some (.if_icmp .eq (485), 733, 0, 0) := by decide +kernel
theorem t149_251 : g_at 149 251 = some (.iconst 0, 0, 0, 0) := by decide +kernel
theorem t149_252 : g_at 149 252 = some (.ireturn, 0, 0, 0) := by decide +kernel
theorem t149_253 : g_at 149 253 = some (.aload_n 1, 0, 0, 0) := by decide +kernel
theorem t149_254 : g_at 149 254 = some (.aload_n 0, 0, 0, 0) := by decide +kernel
theorem t149_255 : g_at 149 255 = some (.iload_n 3, 0, 0, 0) := by decide +kernel
theorem t149_256 : g_at 149 256 = some (.iconst 1, 0, 0, 1) := by decide +kernel
theorem t149_257 : g_at 149 257 = some (.iadd, 0, 0, 0) := by decide +kernel
theorem t149_258 : g_at 149 258 = some (.iaload, 0, 0, 0) := by decide +kernel
theorem t149_259 : g_at 149 259 = some (.aload_n 0, 0, 0, 0) := by decide +kernel
theorem t149_260 : g_at 149 260 = some (.iload_n 3, 0, 0, 0) := by decide +kernel
theorem t149_261 : g_at 149 261 = some (.iconst 2, 0, 0, 2) := by decide +kernel
theorem t149_262 : g_at 149 262 = some (.iadd, 0, 0, 0) := by decide +kernel
theorem t149_263 : g_at 149 263 = some (.iaload, 0, 0, 0) := by decide +kernel
theorem t149_264 : g_at 149 264 = some (.invokevirtual 36, 76, 2, 0) := by decide +kernel
theorem t149_267 : g_at 149 267 = some (.aload_n 2, 0, 0, 0) := by decide +kernel
theorem t149_268 : g_at 149 268 = some (.aload_n 0, 0, 0, 0) := by decide +kernel
theorem t149_269 : g_at 149 269 = some (.iload_n 3, 0, 0, 0) := by decide +kernel
theorem t149_270 : g_at 149 270 = some (.iconst 1, 0, 0, 1) := by decide +kernel
theorem t149_271 : g_at 149 271 = some (.iadd, 0, 0, 0) := by decide +kernel
theorem t149_272 : g_at 149 272 = some (.iaload, 0, 0, 0) := by decide +kernel
theorem t149_273 : g_at 149 273 = some (.aload_n 0, 0, 0, 0) := by decide +kernel
theorem t149_274 : g_at 149 274 = some (.iload_n 3, 0, 0, 0) := by decide +kernel
theorem t149_275 : g_at 149 275 = some (.iconst 2, 0, 0, 2) := by decide +kernel
theorem t149_276 : g_at 149 276 = some (.iadd, 0, 0, 0) := by decide +kernel
theorem t149_277 : g_at 149 277 = some (.iaload, 0, 0, 0) := by decide +kernel
theorem t149_278 : g_at 149 278 = some (.invokevirtual 39, 78, 2, 0) := by decide +kernel
theorem t149_281 : g_at 149 281 = some (.if_icmp .eq (452), 733, 0, 0) := by decide +kernel
theorem t149_284 : g_at 149 284 = some (.iconst 0, 0, 0, 0) := by decide +kernel
theorem t149_285 : g_at 149 285 = some (.ireturn, 0, 0, 0) := by decide +kernel
theorem t149_286 : g_at 149 286 = some (.aload_n 1, 0, 0, 0) := by decide +kernel
theorem t149_287 : g_at 149 287 = some (.aload_n 0, 0, 0, 0) := by decide +kernel
theorem t149_288 : g_at 149 288 = some (.iload_n 3, 0, 0, 0) := by decide +kernel
theorem t149_289 : g_at 149 289 = some (.iconst 1, 0, 0, 1) := by decide +kernel
theorem t149_290 : g_at 149 290 = some (.iadd, 0, 0, 0) := by decide +kernel
theorem t149_291 : g_at 149 291 = some (.iaload, 0, 0, 0) := by decide +kernel
theorem t149_292 : g_at 149 292 = some (.invokevirtual 40, 86, 1, 0) := by decide +kernel
theorem t149_295 : g_at 149 295 = some (.aload_n 2, 0, 0, 0) := by decide +kernel
theorem t149_296 : g_at 149 296 = some (.aload_n 0, 0, 0, 0) := by decide +kernel
theorem t149_297 : g_at 149 297 = some (.iload_n 3, 0, 0, 0) := by decide +kernel
theorem t149_298 : g_at 149 298 = some (.iconst 1, 0, 0, 1) := by decide +kernel
theorem t149_299 : g_at 149 299 = some (.iadd, 0, 0, 0) := by decide +kernel
theorem t149_300 : g_at 149 300 = some (.iaload, 0, 0, 0) := by decide +kernel
theorem t149_301 : g_at 149 301 = some (.invokevirtual 43, 93, 1, 0) := by decide +kernel
theorem t149_304 : g_at 149 304 = some (.if_icmp .eq (429), 733, 0, 0) := by decide +kernel
theorem t149_307 : g_at 149 307 = some (.iconst 0, 0, 0, 0) := by decide +kernel
theorem t149_308 : g_at 149 308 = some (.ireturn, 0, 0, 0) := by decide +kernel
theorem t149_309 : g_at 149 309 = some (.aload_n 1, 0, 0, 0) := by decide +kernel
theorem t149_310 : g_at 149 310 = some (.aload_n 0, 0, 0, 0) := by decide +kernel
theorem t149_311 : g_at 149 311 = some (.iload_n 3, 0, 0, 0) := by decide +kernel
theorem t149_312 : g_at 149 312 = some (.iconst 1, 0, 0, 1) := by decide +kernel
theorem t149_313 : g_at 149 313 = some (.iadd, 0, 0, 0) := by decide +kernel
theorem t149_314 : g_at 149 314 = some (.iaload, 0, 0, 0) := by decide +kernel
theorem t149_315 : g_at 149 315 = some (.invokevirtual 44, 96, 1, 0) := by decide +kernel
theorem t149_318 : g_at 149 318 = some (.aload_n 2, 0, 0, 0) := by decide +kernel
theorem t149_319 : g_at 149 319 = some (.aload_n 0, 0, 0, 0) := by decide +kernel
theorem t149_320 : g_at 149 320 = some (.iload_n 3, 0, 0, 0) := by decide +kernel
theorem t149_321 : g_at 149 321 = some (.iconst 1, 0, 0, 1) := by decide +kernel
theorem t149_322 : g_at 149 322 = some (.iadd, 0, 0, 0) := by decide +kernel
theorem t149_323 : g_at 149 323 = some (.iaload, 0, 0, 0) := by decide +kernel
theorem t149_324 : g_at 149 324 = some (.invokevirtual 47, 98, 1, 0) := by decide +kernel
theorem t149_327 : g_at 149 327 = some (.if_icmp .eq (406), 733, 0, 0) := by decide +kernel
theorem t149_330 : g_at 149 330 = some (.iconst 0, 0, 0, 0) := by decide +kernel
theorem t149_331 : g_at 149 331 = some (.ireturn, 0, 0, 0) := by decide +kernel
theorem t149_332 : g_at 149 332 = some (.aload_n 1, 0, 0, 0) := by decide +kernel
theorem t149_333 : g_at 149 333 = some (.aload_n 0, 0, 0, 0) := by decide +kernel
theorem t149_334 : g_at 149 334 = some (.iload_n 3, 0, 0, 0) := by decide +kernel
theorem t149_335 : g_at 149 335 = some (.iconst 1, 0, 0, 1) := by decide +kernel
theorem t149_336 : g_at 149 336 = some (.iadd, 0, 0, 0) := by decide +kernel
theorem t149_337 : g_at 149 337 = some (.iaload, 0, 0, 0) := by decide +kernel
theorem t149_338 : g_at 149 338 = some (.invokevirtual 48, 99, 1, 0) := by decide +kernel
theorem t149_341 : g_at 149 341 = some (.aload_n 2, 0, 0, 0) := by decide +kernel
theorem t149_342 : g_at 149 342 = some (.aload_n 0, 0, 0, 0) := by decide +kernel
theorem t149_343 : g_at 149 343 = some (.iload_n 3, 0, 0, 0) := by decide +kernel
theorem t149_344 : g_at 149 344 = some (.iconst 1, 0, 0, 1) := by decide +kernel
theorem t149_345 : g_at 149 345 = some (.iadd, 0, 0, 0) := by decide +kernel
theorem t149_346 : g_at 149 346 = some (.iaload, 0, 0, 0) := by decide +kernel
theorem t149_347 : g_at 149 347 = some (.invokevirtual 51, 100, 1, 0) := by decide +kernel
theorem t149_350 : g_at 149 350 = some (.if_icmp .eq (383), 733, 0, 0) := by decide +kernel
theorem t149_353 : g_at 149 353 = some (.iconst 0, 0, 0, 0) := by decide +kernel
theorem t149_354 : g_at 149 354 = some (.ireturn, 0, 0, 0) := by decide +kernel
theorem t149_355 : g_at 149 355 = some (.aload_n 1, 0, 0, 0) := by decide +kernel
theorem t149_356 : g_at 149 356 = some (.aload_n 0, 0, 0, 0) := by decide +kernel
theorem t149_357 : g_at 149 357 = some (.iload_n 3, 0, 0, 0) := by decide +kernel
theorem t149_358 : g_at 149 358 = some (.iconst 1, 0, 0, 1) := by decide +kernel
theorem t149_359 : g_at 149 359 = some (.iadd, 0, 0, 0) := by decide +kernel
theorem t149_360 : g_at 149 360 = some (.iaload, 0, 0, 0) := by decide +kernel
theorem t149_361 : g_at 149 361 = some (.aload_n 0, 0, 0, 0) := by decide +kernel
theorem t149_362 : g_at 149 362 = some (.iload_n 3, 0, 0, 0) := by decide +kernel
theorem t149_363 : g_at 149 363 = some (.iconst 2, 0, 0, 2) := by decide +kernel
theorem t149_364 : g_at 149 364 = some (.iadd, 0, 0, 0) := by decide +kernel
theorem t149_365 : g_at 149 365 = some (.iaload, 0, 0, 0) := by decide +kernel
theorem t149_366 : g_at 149 366 = some (.aload_n 0, 0, 0, 0) := by decide +kernel
theorem t149_367 : g_at 149 367 = some (.iload_n 3, 0, 0, 0) := by decide +kernel
theorem t149_368 : g_at 149 368 = some (.iconst 3, 0, 0, 3) := by decide +kernel
theorem t149_369 : g_at 149 369 = some (.iadd, 0, 0, 0) := by decide +kernel
theorem t149_370 : g_at 149 370 = some (.iaload, 0, 0, 0) := by decide +kernel
theorem t149_371 : g_at 149 371 = some (.invokevirtual 52, 102, 3, 0) := by decide +kernel
theorem t149_374 : g_at 149 374 = some (.aload_n 2, 0, 0, 0) := by decide +kernel
theorem t149_375 : g_at 149 375 = some (.aload_n 0, 0, 0, 0) := by decide +kernel
theorem t149_376 : g_at 149 376 = some (.iload_n 3, 0, 0, 0) := by decide +kernel
theorem t149_377 : g_at 149 377 = some (.iconst 1, 0, 0, 1) := by decide +kernel
theorem t149_378 : g_at 149 378 = some (.iadd, 0, 0, 0) := by decide +kernel
theorem t149_379 : g_at 149 379 = some (.iaload, 0, 0, 0) := by decide +kernel
theorem t149_380 : g_at 149 380 = some (.aload_n 0, 0, 0, 0) := by decide +kernel
theorem t149_381 : g_at 149 381 = some (.iload_n 3, 0, 0, 0) := by decide +kernel
theorem t149_382 : g_at 149 382 = some (.iconst 2, 0, 0, 2) := by decide +kernel
theorem t149_383 : g_at 149 383 = some (.iadd, 0, 0, 0) := by decide +kernel
theorem t149_384 : g_at 149 384 = some (.iaload, 0, 0, 0) := by decide +kernel
theorem t149_385 : g_at 149 385 = some (.aload_n 0, 0, 0, 0) := by decide +kernel
theorem t149_386 : g_at 149 386 = some (.iload_n 3, 0, 0, 0) := by decide +kernel
theorem t149_387 : g_at 149 387 = some (.iconst 3, 0, 0, 3) := by decide +kernel
theorem t149_388 : g_at 149 388 = some (.iadd, 0, 0, 0) := by decide +kernel
theorem t149_389 : g_at 149 389 = some (.iaload, 0, 0, 0) := by decide +kernel
theorem t149_390 : g_at 149 390 = some (.invokevirtual 56, 103, 3, 0) := by decide +kernel
theorem t149_393 : g_at 149 393 = some (.if_icmp .eq (340), 733, 0, 0) := by decide +kernel
theorem t149_396 : g_at 149 396 = some (.iconst 0, 0, 0, 0) := by decide +kernel
theorem t149_397 : g_at 149 397 = some (.ireturn, 0, 0, 0) := by decide +kernel
theorem t149_398 : g_at 149 398 = some (.aload_n 1, 0, 0, 0) := by decide +kernel
theorem t149_399 : g_at 149 399 = some (.aload_n 0, 0, 0, 0) := by decide +kernel
theorem t149_400 : g_at 149 400 = some (.iload_n 3, 0, 0, 0) := by decide +kernel
theorem t149_401 : g_at 149 401 = some (.iconst 1, 0, 0, 1) := by decide +kernel
theorem t149_402 : g_at 149 402 = some (.iadd, 0, 0, 0) := by decide +kernel
theorem t149_403 : g_at 149 403 = some (.iaload, 0, 0, 0) := by decide +kernel
theorem t149_404 : g_at 149 404 = some (.invokevirtual 57, 104, 1, 0) := by decide +kernel
theorem t149_407 : g_at 149 407 = some (.aload_n 2, 0, 0, 0) := by decide +kernel
theorem t149_408 : g_at 149 408 = some (.aload_n 0, 0, 0, 0) := by decide +kernel
theorem t149_409 : g_at 149 409 = some (.iload_n 3, 0, 0, 0) := by decide +kernel
theorem t149_410 : g_at 149 410 = some (.iconst 1, 0, 0, 1) := by decide +kernel
theorem t149_411 : g_at 149 411 = some (.iadd, 0, 0, 0) := by decide +kernel
theorem t149_412 : g_at 149 412 = some (.iaload, 0, 0, 0) := by decide +kernel
theorem t149_413 : g_at 149 413 = some (.invokevirtual 60, 105, 1, 0) := by decide +kernel
theorem t149_416 : g_at 149 416 = some (.if_icmp .eq (317), 733, 0, 0) := by decide +kernel
theorem t149_419 : g_at 149 419 = some (.iconst 0, 0, 0, 0) := by decide +kernel
theorem t149_420 : g_at 149 420 = some (.ireturn, 0, 0, 0) := by decide +kernel
theorem t149_421 : g_at 149 421 = some (.aload_n 1, 0, 0, 0) := by decide +kernel
theorem t149_422 : g_at 149 422 = some (.invokevirtual 61, 106, 0, 0) := by decide +kernel
theorem t149_425 : g_at 149 425 = some (.aload_n 2, 0, 0, 0) := by decide +kernel
theorem t149_426 : g_at 149 426 = some (.invokevirtual 64, 107, 0, 0) := by decide +kernel
theorem t149_429 : g_at 149 429 = some (.if_icmp .eq (304), 733, 0, 0) := by decide +kernel
theorem t149_432 : g_at 149 432 = some (.iconst 0, 0, 0, 0) := by decide +kernel
theorem t149_433 : g_at 149 433 = some (.ireturn, 0, 0, 0) := by decide +kernel
theorem t149_434 : g_at 149 434 = some (.aload_n 1, 0, 0, 0) := by decide +kernel
theorem t149_435 : g_at 149 435 = some (.invokevirtual 65, 108, 0, 0) := by decide +kernel
theorem t149_438 : g_at 149 438 = some (.aload_n 2, 0, 0, 0) := by decide +kernel
theorem t149_439 : g_at 149 439 = some (.invokevirtual 68, 109, 0, 0) := by decide +kernel
theorem t149_442 : g_at 149 442 = some (.if_icmp .eq (291), 733, 0, 0) := by decide +kernel
theorem t149_445 : g_at 149 445 = some (.iconst 0, 0, 0, 0) := by decide +kernel
theorem t149_446 : g_at 149 446 = some (.ireturn, 0, 0, 0) := by decide +kernel
theorem t149_447 : g_at 149 447 = some (.aload_n 1, 0, 0, 0) := by decide +kernel
theorem t149_448 : g_at 149 448 = some (.invokevirtual 69, 111, 0, 0) := by decide +kernel
theorem t149_451 : g_at 149 451 = some (.aload_n 2, 0, 0, 0) := by decide +kernel
theorem t149_452 : g_at 149 452 = some (.invokevirtual 72, 112, 0, 0) := by decide +kernel
theorem t149_455 : g_at 149 455 = some (.if_icmp .eq (278), 733, 0, 0) := by decide +kernel
theorem t149_458 : g_at 149 458 = some (.iconst 0, 0, 0, 0) := by decide +kernel
theorem t149_459 : g_at 149 459 = some (.ireturn, 0, 0, 0) := by decide +kernel
theorem t149_460 : g_at 149 460 = some (.aload_n 1, 0, 0, 0) := by decide +kernel
theorem t149_461 : g_at 149 461 = some (.aload_n 0, 0, 0, 0) := by decide +kernel
theorem t149_462 : g_at 149 462 = some (.iload_n 3, 0, 0, 0) := by decide +kernel
theorem t149_463 : g_at 149 463 = some (.iconst 1, 0, 0, 1) := by decide +kernel
theorem t149_464 : g_at 149 464 = some (.iadd, 0, 0, 0) := by decide +kernel
theorem t149_465 : g_at 149 465 = some (.iaload, 0, 0, 0) := by decide +kernel
theorem t149_466 : g_at 149 466 = some (.aload_n 0, 0, 0, 0) := by decide +kernel
theorem t149_467 : g_at 149 467 = some (.iload_n 3, 0, 0, 0) := by decide +kernel
theorem t149_468 : g_at 149 468 = some (.iconst 2, 0, 0, 2) := by decide +kernel
theorem t149_469 : g_at 149 469 = some (.iadd, 0, 0, 0) := by decide +kernel
theorem t149_470 : g_at 149 470 = some (.iaload, 0, 0, 0) := by decide +kernel
theorem t149_471 : g_at 149 471 = some (.aload_n 0, 0, 0, 0) := by decide +kernel
theorem t149_472 : g_at 149 472 = some (.iload_n 3, 0, 0, 0) := by decide +kernel
theorem t149_473 : g_at 149 473 = some (.iconst 3, 0, 0, 3) := by decide +kernel
theorem t149_474 : g_at 149 474 = some (.iadd, 0, 0, 0) := by decide +kernel
theorem t149_475 : g_at 149 475 = some (.iaload, 0, 0, 0) := by decide +kernel
theorem t149_476 : g_at 149 476 = some (.invokevirtual 73, 115, 3, 0) := by decide +kernel
theorem t149_479 : g_at 149 479 = some (.aload_n 2, 0, 0, 0) := by decide +kernel
theorem t149_480 : g_at 149 480 = some (.aload_n 0, 0, 0, 0) := by decide +kernel
theorem t149_481 : g_at 149 481 = some (.iload_n 3, 0, 0, 0) := by decide +kernel
theorem t149_482 : g_at 149 482 = some (.iconst 1, 0, 0, 1) := by decide +kernel
theorem t149_483 : g_at 149 483 = some (.iadd, 0, 0, 0) := by decide +kernel
theorem t149_484 : g_at 149 484 = some (.iaload, 0, 0, 0) := by decide +kernel
theorem t149_485 : g_at 149 485 = some (.aload_n 0, 0, 0, 0) := by decide +kernel
theorem t149_486 : g_at 149 486 = some (.iload_n 3, 0, 0, 0) := by decide +kernel
theorem t149_487 : g_at 149 487 = some (.iconst 2, 0, 0, 2) := by decide +kernel
theorem t149_488 : g_at 149 488 = some (.iadd, 0, 0, 0) := by decide +kernel
theorem t149_489 : g_at 149 489 = some (.iaload, 0, 0, 0) := by decide +kernel
theorem t149_490 : g_at 149 490 = some (.aload_n 0, 0, 0, 0) := by decide +kernel
theorem t149_491 : g_at 149 491 = some (.iload_n 3, 0, 0, 0) := by decide +kernel
theorem t149_492 : g_at 149 492 = some (.iconst 3, 0, 0, 3) := by decide +kernel
theorem t149_493 : g_at 149 493 = some (.iadd, 0, 0, 0) := by decide +kernel
theorem t149_494 : g_at 149 494 = some (.iaload, 0, 0, 0) := by decide +kernel
theorem t149_495 : g_at 149 495 = some (.invokevirtual 76, 118, 3, 0) := by decide +kernel
theorem t149_498 : g_at 149 498 = some (.if_icmp .eq (235), 733, 0, 0) := by decide +kernel
theorem t149_501 : g_at 149 501 = some (.iconst 0, 0, 0, 0) := by decide +kernel
theorem t149_502 : g_at 149 502 = some (.ireturn, 0, 0, 0) := by decide +kernel
theorem t149_503 : g_at 149 503 = some (.aload_n 1, 0, 0, 0) := by decide +kernel
theorem t149_504 : g_at 149 504 = some (.aload_n 0, 0, 0, 0) := by decide +kernel
theorem t149_505 : g_at 149 505 = some (.iload_n 3, 0, 0, 0) := by decide +kernel
theorem t149_506 : g_at 149 506 = some (.iconst 1, 0, 0, 1) := by decide +kernel
theorem t149_507 : g_at 149 507 = some (.iadd, 0, 0, 0) := by decide +kernel
theorem t149_508 : g_at 149 508 = some (.iaload, 0, 0, 0) := by decide +kernel
theorem t149_509 : g_at 149 509 = some (.aload_n 0, 0, 0, 0) := by decide +kernel
theorem t149_510 : g_at 149 510 = some (.iload_n 3, 0, 0, 0) := by decide +kernel
theorem t149_511 : g_at 149 511 = some (.iconst 2, 0, 0, 2) := by decide +kernel
theorem t149_512 : g_at 149 512 = some (.iadd, 0, 0, 0) := by decide +kernel
theorem t149_513 : g_at 149 513 = some (.iaload, 0, 0, 0) := by decide +kernel
theorem t149_514 : g_at 149 514 = some (.invokevirtual 77, 119, 2, 0) := by decide +kernel
theorem t149_517 : g_at 149 517 = some (.aload_n 2, 0, 0, 0) := by decide +kernel
theorem t149_518 : g_at 149 518 = some (.aload_n 0, 0, 0, 0) := by decide +kernel
theorem t149_519 : g_at 149 519 = some (.iload_n 3, 0, 0, 0) := by decide +kernel
theorem t149_520 : g_at 149 520 = some (.iconst 1, 0, 0, 1) := by decide +kernel
theorem t149_521 : g_at 149 521 = some (.iadd, 0, 0, 0) := by decide +kernel
theorem t149_522 : g_at 149 522 = some (.iaload, 0, 0, 0) := by decide +kernel
theorem t149_523 : g_at 149 523 = some (.aload_n 0, 0, 0, 0) := by decide +kernel
theorem t149_524 : g_at 149 524 = some (.iload_n 3, 0, 0, 0) := by decide +kernel
theorem t149_525 : g_at 149 525 = some (.iconst 2, 0, 0, 2) := by decide +kernel
theorem t149_526 : g_at 149 526 = some (.iadd, 0, 0, 0) := by decide +kernel
theorem t149_527 : g_at 149 527 = some (.iaload, 0, 0, 0) := by decide +kernel
theorem t149_528 : g_at 149 528 = some (.invokevirtual 80, 120, 2, 0) := by decide +kernel
theorem t149_531 : g_at 149 531 = some (.if_icmp .eq (202), 733, 0, 0) := by decide +kernel
theorem t149_534 : g_at 149 534 = some (.iconst 0, 0, 0, 0) := by decide +kernel
theorem t149_535 : g_at 149 535 = some (.ireturn, 0, 0, 0) := by decide +kernel
theorem t149_536 : g_at 149 536 = some (.aload_n 1, 0, 0, 0) := by decide +kernel
theorem t149_537 : g_at 149 537 = some (.aload_n 0, 0, 0, 0) := by decide +kernel
theorem t149_538 : g_at 149 538 = some (.iload_n 3, 0, 0, 0) := by decide +kernel
theorem t149_539 : g_at 149 539 = some (.iconst 1, 0, 0, 1) := by decide +kernel
theorem t149_540 : g_at 149 540 = some (.iadd, 0, 0, 0) := by decide +kernel
theorem t149_541 : g_at 149 541 = some (.iaload, 0, 0, 0) := by decide +kernel
theorem t149_542 : g_at 149 542 = some (.invokevirtual 81, 121, 1, 0) := by decide +kernel
theorem t149_545 : g_at 149 545 = some (.aload_n 2, 0, 0, 0) := by decide +kernel
theorem t149_546 : g_at 149 546 = some (.aload_n 0, 0, 0, 0) := by decide +kernel
theorem t149_547 : g_at 149 547 = some (.iload_n 3, 0, 0, 0) := by decide +kernel
theorem t149_548 : g_at 149 548 = some (.iconst 1, 0, 0, 1) := by decide +kernel
theorem t149_549 : g_at 149 549 = some (.iadd, 0, 0, 0) := by decide +kernel
theorem t149_550 : g_at 149 550 = some (.iaload, 0, 0, 0) := by decide +kernel
theorem t149_551 : g_at 149 551 = some (.invokevirtual 84, 122, 1, 0) := by decide +kernel
theorem t149_554 : g_at 149 554 = some (.if_icmp .eq (179), 733, 0, 0) := by decide +kernel
theorem t149_557 : g_at 149 557 = some (.iconst 0, 0, 0, 0) := by decide +kernel
theorem t149_558 : g_at 149 558 = some (.ireturn, 0, 0, 0) := by decide +kernel
theorem t149_559 : g_at 149 559 = some (.aload_n 1, 0, 0, 0) := by decide +kernel
theorem t149_560 : g_at 149 560 = some (.aload_n 0, 0, 0, 0) := by decide +kernel
theorem t149_561 : g_at 149 561 = some (.iload_n 3, 0, 0, 0) := by decide +kernel
theorem t149_562 : g_at 149 562 = some (.iconst 1, 0, 0, 1) := by decide +kernel
theorem t149_563 : g_at 149 563 = some (.iadd, 0, 0, 0) := by decide +kernel
theorem t149_564 : g_at 149 564 = some (.iaload, 0, 0, 0) := by decide +kernel
theorem t149_565 : g_at 149 565 = some (.aload_n 0, 0, 0, 0) := by decide +kernel
theorem t149_566 : g_at 149 566 = some (.iload_n 3, 0, 0, 0) := by decide +kernel
theorem t149_567 : g_at 149 567 = some (.iconst 2, 0, 0, 2) := by decide +kernel
theorem t149_568 : g_at 149 568 = some (.iadd, 0, 0, 0) := by decide +kernel
theorem t149_569 : g_at 149 569 = some (.iaload, 0, 0, 0) := by decide +kernel
theorem t149_570 : g_at 149 570 = some (.invokevirtual 85, 127, 2, 0) := by decide +kernel
theorem t149_573 : g_at 149 573 = some (.aload_n 2, 0, 0, 0) := by decide +kernel
theorem t149_574 : g_at 149 574 = some (.aload_n 0, 0, 0, 0) := by decide +kernel
theorem t149_575 : g_at 149 575 = some (.iload_n 3, 0, 0, 0) := by decide +kernel
theorem t149_576 : g_at 149 576 = some (.iconst 1, 0, 0, 1) := by decide +kernel
theorem t149_577 : g_at 149 577 = some (.iadd, 0, 0, 0) := by decide +kernel
theorem t149_578 : g_at 149 578 = some (.iaload, 0, 0, 0) := by decide +kernel
theorem t149_579 : g_at 149 579 = some (.aload_n 0, 0, 0, 0) := by decide +kernel
theorem t149_580 : g_at 149 580 = some (.iload_n 3, 0, 0, 0) := by decide +kernel
theorem t149_581 : g_at 149 581 = some (.iconst 2, 0, 0, 2) := by decide +kernel
theorem t149_582 : g_at 149 582 = some (.iadd, 0, 0, 0) := by decide +kernel
theorem t149_583 : g_at 149 583 = some (.iaload, 0, 0, 0) := by decide +kernel
theorem t149_584 : g_at 149 584 = some (.invokevirtual 88, 129, 2, 0) := by decide +kernel
theorem t149_587 : g_at 149 587 = some (.if_icmp .eq (146), 733, 0, 0) := by decide +kernel
theorem t149_590 : g_at 149 590 = some (.iconst 0, 0, 0, 0) := by decide +kernel
theorem t149_591 : g_at 149 591 = some (.ireturn, 0, 0, 0) := by decide +kernel
theorem t149_592 : g_at 149 592 = some (.aload_n 1, 0, 0, 0) := by decide +kernel
theorem t149_593 : g_at 149 593 = some (.aload_n 0, 0, 0, 0) := by decide +kernel
theorem t149_594 : g_at 149 594 = some (.iload_n 3, 0, 0, 0) := by decide +kernel
theorem t149_595 : g_at 149 595 = some (.iconst 1, 0, 0, 1) := by decide +kernel
theorem t149_596 : g_at 149 596 = some (.iadd, 0, 0, 0) := by decide +kernel
theorem t149_597 : g_at 149 597 = some (.iaload, 0, 0, 0) := by decide +kernel
theorem t149_598 : g_at 149 598 = some (.aload_n 0, 0, 0, 0) := by decide +kernel
theorem t149_599 : g_at 149 599 = some (.iload_n 3, 0, 0, 0) := by decide +kernel
theorem t149_600 : g_at 149 600 = some (.iconst 2, 0, 0, 2) := by decide +kernel
theorem t149_601 : g_at 149 601 = some (.iadd, 0, 0, 0) := by decide +kernel
theorem t149_602 : g_at 149 602 = some (.iaload, 0, 0, 0) := by decide +kernel
theorem t149_603 : g_at 149 603 = some (.invokevirtual 89, 130, 2, 0) := by decide +kernel
theorem t149_606 : g_at 149 606 = some (.aload_n 2, 0, 0, 0) := by decide +kernel
theorem t149_607 : g_at 149 607 = some (.aload_n 0, 0, 0, 0) := by decide +kernel
theorem t149_608 : g_at 149 608 = some (.iload_n 3, 0, 0, 0) := by decide +kernel
theorem t149_609 : g_at 149 609 = some (.iconst 1, 0, 0, 1) := by decide +kernel
theorem t149_610 : g_at 149 610 = some (.iadd, 0, 0, 0) := by decide +kernel
theorem t149_611 : g_at 149 611 = some (.iaload, 0, 0, 0) := by decide +kernel
theorem t149_612 : g_at 149 612 = some (.aload_n 0, 0, 0, 0) := by decide +kernel
theorem t149_613 : g_at 149 613 = some (.iload_n 3, 0, 0, 0) := by decide +kernel
theorem t149_614 : g_at 149 614 = some (.iconst 2, 0, 0, 2) := by decide +kernel
theorem t149_615 : g_at 149 615 = some (.iadd, 0, 0, 0) := by decide +kernel
theorem t149_616 : g_at 149 616 = some (.iaload, 0, 0, 0) := by decide +kernel
theorem t149_617 : g_at 149 617 = some (.invokevirtual 92, 131, 2, 0) := by decide +kernel
theorem t149_620 : g_at 149 620 = some (.if_icmp .eq (113), 733, 0, 0) := by decide +kernel
theorem t149_623 : g_at 149 623 = some (.iconst 0, 0, 0, 0) := by decide +kernel
theorem t149_624 : g_at 149 624 = some (.ireturn, 0, 0, 0) := by decide +kernel
theorem t149_625 : g_at 149 625 = some (.aload_n 1, 0, 0, 0) := by decide +kernel
theorem t149_626 : g_at 149 626 = some (.invokevirtual 93, 132, 0, 0) := by decide +kernel
theorem t149_629 : g_at 149 629 = some (.aload_n 2, 0, 0, 0) := by decide +kernel
theorem t149_630 : g_at 149 630 = some (.invokevirtual 96, 133, 0, 0) := by decide +kernel
theorem t149_633 : g_at 149 633 = some (.if_icmp .eq (100), 733, 0, 0) := by decide +kernel
theorem t149_636 : g_at 149 636 = some (.iconst 0, 0, 0, 0) := by decide +kernel
theorem t149_637 : g_at 149 637 = some (.ireturn, 0, 0, 0) := by decide +kernel
theorem t149_638 : g_at 149 638 = some (.aload_n 1, 0, 0, 0) := by decide +kernel
theorem t149_639 : g_at 149 639 = some (.invokevirtual 97, 135, 0, 0) := by decide +kernel
theorem t149_642 : g_at 149 642 = some (.aload_n 2, 0, 0, 0) := by decide +kernel
theorem t149_643 : g_at 149 643 = some (.invokevirtual 100, 137, 0, 0) := by decide +kernel
theorem t149_646 : g_at 149 646 = some (.if_icmp .eq (87), 733, 0, 0) := by decide +kernel
theorem t149_649 : g_at 149 649 = some (.iconst 0, 0, 0, 0) := by decide +kernel
theorem t149_650 : g_at 149 650 = some (.ireturn, 0, 0, 0) := by decide +kernel
theorem t149_651 : g_at 149 651 = some (.aload_n 1, 0, 0, 0) := by decide +kernel
theorem t149_652 : g_at 149 652 = some (.invokevirtual 101, 139, 0, 0) := by decide +kernel
theorem t149_655 : g_at 149 655 = some (.aload_n 2, 0, 0, 0) := by decide +kernel
theorem t149_656 : g_at 149 656 = some (.invokevirtual 104, 141, 0, 0) := by decide +kernel
theorem t149_659 : g_at 149 659 = some (.if_icmp .eq (74), 733, 0, 0) := by decide +kernel
theorem t149_662 : g_at 149 662 = some (.iconst 0, 0, 0, 0) := by decide +kernel
theorem t149_663 : g_at 149 663 = some (.ireturn, 0, 0, 0) := by decide +kernel
theorem t149_664 : g_at 149 664 = some (.aload_n 1, 0, 0, 0) := by decide +kernel
theorem t149_665 : g_at 149 665 = some (.aload_n 0, 0, 0, 0) := by decide +kernel
theorem t149_666 : g_at 149 666 = some (.iload_n 3, 0, 0, 0) := by decide +kernel
theorem t149_667 : g_at 149 667 = some (.iconst 1, 0, 0, 1) := by decide +kernel
theorem t149_668 : g_at 149 668 = some (.iadd, 0, 0, 0) := by decide +kernel
theorem t149_669 : g_at 149 669 = some (.iaload, 0, 0, 0) := by decide +kernel
theorem t149_670 : g_at 149 670 = some (.invokevirtual 105, 143, 1, 0) := by decide +kernel
theorem t149_673 : g_at 149 673 = some (.aload_n 2, 0, 0, 0) := by decide +kernel
theorem t149_674 : g_at 149 674 = some (.aload_n 0, 0, 0, 0) := by decide +kernel
theorem t149_675 : g_at 149 675 = some (.iload_n 3, 0, 0, 0) := by decide +kernel
theorem t149_676 : g_at 149 676 = some (.iconst 1, 0, 0, 1) := by decide +kernel
theorem t149_677 : g_at 149 677 = some (.iadd, 0, 0, 0) := by decide +kernel
theorem t149_678 : g_at 149 678 = some (.iaload, 0, 0, 0) := by decide +kernel
theorem t149_679 : g_at 149 679 = some (.invokevirtual 108, 144, 1, 0) := by decide +kernel
theorem t149_682 : g_at 149 682 = some (.if_icmp .eq (51), 733, 0, 0) := by decide +kernel
theorem t149_685 : g_at 149 685 = some (.iconst 0, 0, 0, 0) := by decide +kernel
theorem t149_686 : g_at 149 686 = some (.ireturn, 0, 0, 0) := by decide +kernel
theorem t149_687 : g_at 149 687 = some (.aload_n 1, 0, 0, 0) := by decide +kernel
theorem t149_688 : g_at 149 688 = some (.aload_n 0, 0, 0, 0) := by decide +kernel
theorem t149_689 : g_at 149 689 = some (.iload_n 3, 0, 0, 0) := by decide +kernel
theorem t149_690 : g_at 149 690 = some (.iconst 1, 0, 0, 1) := by decide +kernel
theorem t149_691 : g_at 149 691 = some (.iadd, 0, 0, 0) := by decide +kernel
theorem t149_692 : g_at 149 692 = some (.iaload, 0, 0, 0) := by decide +kernel
theorem t149_693 : g_at 149 693 = some (.invokevirtual 109, 145, 1, 0) := by decide +kernel
theorem t149_696 : g_at 149 696 = some (.aload_n 2, 0, 0, 0) := by decide +kernel
theorem t149_697 : g_at 149 697 = some (.aload_n 0, 0, 0, 0) := by decide +kernel
theorem t149_698 : g_at 149 698 = some (.iload_n 3, 0, 0, 0) := by decide +kernel
theorem t149_699 : g_at 149 699 = some (.iconst 1, 0, 0, 1) := by decide +kernel
theorem t149_700 : g_at 149 700 = some (.iadd, 0, 0, 0) := by decide +kernel
theorem t149_701 : g_at 149 701 = some (.iaload, 0, 0, 0) := by decide +kernel
theorem t149_702 : g_at 149 702 = some (.invokevirtual 112, 146, 1, 0) := by decide +kernel
theorem t149_705 : g_at 149 705 = some (.if_icmp .eq (28), 733, 0, 0) := by decide +kernel
theorem t149_708 : g_at 149 708 = some (.iconst 0, 0, 0, 0) := by decide +kernel
theorem t149_709 : g_at 149 709 = some (.ireturn, 0, 0, 0) := by decide +kernel
theorem t149_710 : g_at 149 710 = some (.aload_n 1, 0, 0, 0) := by decide +kernel
theorem t149_711 : g_at 149 711 = some (.aload_n 0, 0, 0, 0) := by decide +kernel
theorem t149_712 : g_at 149 712 = some (.iload_n 3, 0, 0, 0) := by decide +kernel
theorem t149_713 : g_at 149 713 = some (.iconst 1, 0, 0, 1) := by decide +kernel
theorem t149_714 : g_at 149 714 = some (.iadd, 0, 0, 0) := by decide +kernel
theorem t149_715 : g_at 149 715 = some (.iaload, 0, 0, 0) := by decide +kernel
theorem t149_716 : g_at 149 716 = some (.invokevirtual 113, 147, 1, 0) := by decide +kernel
theorem t149_719 : g_at 149 719 = some (.aload_n 2, 0, 0, 0) := by decide +kernel
theorem t149_720 : g_at 149 720 = some (.aload_n 0, 0, 0, 0) := by decide +kernel
theorem t149_721 : g_at 149 721 = some (.iload_n 3, 0, 0, 0) := by decide +kernel
theorem t149_722 : g_at 149 722 = some (.iconst 1, 0, 0, 1) := by decide +kernel
theorem t149_723 : g_at 149 723 = some (.iadd, 0, 0, 0) := by decide +kernel
theorem t149_724 : g_at 149 724 = some (.iaload, 0, 0, 0) := by decide +kernel
theorem t149_725 : g_at 149 725 = some (.invokevirtual 116, 148, 1, 0) := by decide +kernel
theorem t149_728 : g_at 149 728 = some (.if_icmp .eq (5), 733, 0, 0) := by decide +kernel
theorem t149_731 : g_at 149 731 = some (.iconst 0, 0, 0, 0) := by decide +kernel
theorem t149_732 : g_at 149 732 = some (.ireturn, 0, 0, 0) := by decide +kernel
theorem t149_733 : g_at 149 733 = some (.iinc 3 (4), 0, 0, 4) := by decide +kernel
theorem t149_736 : g_at 149 736 = some (.goto (-718), 18, 0, 0) := by decide +kernel
theorem t149_739 : g_at 149 739 = some (.iconst 1, 0, 0, 1) := by decide +kernel
theorem t149_740 : g_at 149 740 = some (.ireturn, 0, 0, 0) := by decide +kernel
end
section
section RV
variable {X : gX} {m pc : Nat} {L L' : gLo} {st : List Value} {g : gS} {rr : gR}
theorem ev_k1 {v : Int} {x y : Nat} {z w : Int32} (ht : g_at m pc = some (.iconst v, x, y, z)) (e : z = w) (k : Ev X m (pc + 1) L (.int w :: st) g rr) : Ev X m pc L st g rr := ev_i ht (by subst e; exact k)
theorem ev_k2 {v : Int} {x y : Nat} {z w : Int32} (ht : g_at m pc = some (.bipush v, x, y, z)) (e : z = w) (k : Ev X m (pc + 2) L (.int w :: st) g rr) : Ev X m pc L st g rr := ev_i ht (by subst e; exact k)
theorem ev_k3 {v : Int} {x y : Nat} {z w : Int32} (ht : g_at m pc = some (.sipush v, x, y, z)) (e : z = w) (k : Ev X m (pc + 3) L (.int w :: st) g rr) : Ev X m pc L st g rr := ev_i ht (by subst e; exact k)
theorem ev_k4 {v : Nat} {x y : Nat} {z w : Int32} (ht : g_at m pc = some (.ldc v, x, y, z)) (e : z = w) (k : Ev X m (pc + 2) L (.int w :: st) g rr) : Ev X m pc L st g rr := ev_i ht (by subst e; exact k)
theorem ev_k5 {v : Nat} {x y : Nat} {z w : Int32} (ht : g_at m pc = some (.ldc_w v, x, y, z)) (e : z = w) (k : Ev X m (pc + 3) L (.int w :: st) g rr) : Ev X m pc L st g rr := ev_i ht (by subst e; exact k)
theorem g_li_of {k : Nat} {a : Int32} {f : Int32 → Prop} (h : g_lg L k = some (.int a)) (q : f a) : g_li L k f := by unfold g_li; rw [h]; exact q
theorem g_lr_of {k : Nat} {a : Nat} {f : Nat → Prop} (h : g_lg L k = some (.ref a)) (q : f a) : g_lr L k f := by unfold g_lr; rw [h]; exact q
theorem ev_il {i x y : Nat} {z a : Int32} (ht : g_at m pc = some (.iload i, x, y, z)) (h : g_lg L i = some (.int a)) (k : Ev X m (pc + 2) L (.int a :: st) g rr) : Ev X m pc L st g rr := ev_i ht (g_li_of h k)
theorem ev_iln {i : Fin 4} {x y : Nat} {z a : Int32} (ht : g_at m pc = some (.iload_n i, x, y, z)) (h : g_lg L i.val = some (.int a)) (k : Ev X m (pc + 1) L (.int a :: st) g rr) : Ev X m pc L st g rr := ev_i ht (g_li_of h k)
theorem ev_al {i x y a : Nat} {z : Int32} (ht : g_at m pc = some (.aload i, x, y, z)) (h : g_lg L i = some (.ref a)) (k : Ev X m (pc + 2) L (.ref a :: st) g rr) : Ev X m pc L st g rr := ev_i ht (g_lr_of h k)
theorem ev_aln {i : Fin 4} {x y a : Nat} {z : Int32} (ht : g_at m pc = some (.aload_n i, x, y, z)) (h : g_lg L i.val = some (.ref a)) (k : Ev X m (pc + 1) L (.ref a :: st) g rr) : Ev X m pc L st g rr := ev_i ht (g_lr_of h k)
theorem ev_is {i x y : Nat} {z a : Int32} (ht : g_at m pc = some (.istore i, x, y, z)) (e : g_ls L i (.int a) = L') (hk : i < L.length) (k : Ev X m (pc + 2) L' st g rr) : Ev X m pc L (.int a :: st) g rr := ev_i ht ⟨hk, e ▸ k⟩
theorem ev_isn {i : Fin 4} {x y : Nat} {z a : Int32} (ht : g_at m pc = some (.istore_n i, x, y, z)) (e : g_ls L i.val (.int a) = L') (hk : i.val < L.length) (k : Ev X m (pc + 1) L' st g rr) : Ev X m pc L (.int a :: st) g rr := ev_i ht ⟨hk, e ▸ k⟩
theorem ev_as {i x y a : Nat} {z : Int32} (ht : g_at m pc = some (.astore i, x, y, z)) (e : g_ls L i (.ref a) = L') (hk : i < L.length) (k : Ev X m (pc + 2) L' st g rr) : Ev X m pc L (.ref a :: st) g rr := ev_i ht ⟨hk, e ▸ k⟩
theorem ev_asn {i : Fin 4} {x y a : Nat} {z : Int32} (ht : g_at m pc = some (.astore_n i, x, y, z)) (e : g_ls L i.val (.ref a) = L') (hk : i.val < L.length) (k : Ev X m (pc + 1) L' st g rr) : Ev X m pc L (.ref a :: st) g rr := ev_i ht ⟨hk, e ▸ k⟩
theorem ev_inc {i x y : Nat} {v : Int} {z a b : Int32} (ht : g_at m pc = some (.iinc i v, x, y, z)) (h : g_lg L i = some (.int a)) (eb : a + z = b) (e : g_ls L i (.int b) = L') (hk : i < L.length) (k : Ev X m (pc + 3) L' st g rr) : Ev X m pc L st g rr := ev_i ht (g_li_of h ⟨hk, by show Ev X m (pc + 3) (g_ls L i (.int (a + z))) st g rr; rw [eb, e]; exact k⟩)
theorem ev_gt {x y : Nat} {o : Int} {z : Int32} (ht : g_at m pc = some (.goto o, x, y, z)) (k : Ev X m x L st g rr) : Ev X m pc L st g rr := ev_i ht k
theorem ev_dup {x y : Nat} {z : Int32} {v : Value} (ht : g_at m pc = some (.dup, x, y, z)) (hc : v.category = 1) (k : Ev X m (pc + 1) L (v :: v :: st) g rr) : Ev X m pc L (v :: st) g rr := ev_i ht ⟨hc, k⟩
theorem ev_pop {x y : Nat} {z : Int32} {v : Value} (ht : g_at m pc = some (.pop, x, y, z)) (hc : v.category = 1) (k : Ev X m (pc + 1) L st g rr) : Ev X m pc L (v :: st) g rr := ev_i ht ⟨hc, k⟩
theorem ev_dup2 {x y : Nat} {z : Int32} {v w : Value} (ht : g_at m pc = some (.dup2, x, y, z)) (hc : v.category = 1) (hd : w.category = 1) (k : Ev X m (pc + 1) L (v :: w :: v :: w :: st) g rr) : Ev X m pc L (v :: w :: st) g rr := ev_i ht ⟨hc, hd, k⟩
theorem ev_add {x y : Nat} {z a b : Int32} (ht : g_at m pc = some (.iadd, x, y, z)) (k : Ev X m (pc + 1) L (.int (a + b) :: st) g rr) : Ev X m pc L (.int b :: .int a :: st) g rr := ev_i ht k
theorem ev_sub {x y : Nat} {z a b : Int32} (ht : g_at m pc = some (.isub, x, y, z)) (k : Ev X m (pc + 1) L (.int (a - b) :: st) g rr) : Ev X m pc L (.int b :: .int a :: st) g rr := ev_i ht k
theorem ev_mul {x y : Nat} {z a b : Int32} (ht : g_at m pc = some (.imul, x, y, z)) (k : Ev X m (pc + 1) L (.int (a * b) :: st) g rr) : Ev X m pc L (.int b :: .int a :: st) g rr := ev_i ht k
theorem ev_and {x y : Nat} {z a b : Int32} (ht : g_at m pc = some (.iand, x, y, z)) (k : Ev X m (pc + 1) L (.int (a &&& b) :: st) g rr) : Ev X m pc L (.int b :: .int a :: st) g rr := ev_i ht k
theorem ev_or {x y : Nat} {z a b : Int32} (ht : g_at m pc = some (.ior, x, y, z)) (k : Ev X m (pc + 1) L (.int (a ||| b) :: st) g rr) : Ev X m pc L (.int b :: .int a :: st) g rr := ev_i ht k
theorem ev_xor {x y : Nat} {z a b : Int32} (ht : g_at m pc = some (.ixor, x, y, z)) (k : Ev X m (pc + 1) L (.int (a ^^^ b) :: st) g rr) : Ev X m pc L (.int b :: .int a :: st) g rr := ev_i ht k
theorem ev_shl {x y : Nat} {z a b : Int32} (ht : g_at m pc = some (.ishl, x, y, z)) (k : Ev X m (pc + 1) L (.int (a <<< (b &&& 31)) :: st) g rr) : Ev X m pc L (.int b :: .int a :: st) g rr := ev_i ht k
theorem ev_shr {x y : Nat} {z a b : Int32} (ht : g_at m pc = some (.ishr, x, y, z)) (k : Ev X m (pc + 1) L (.int (a >>> (b &&& 31)) :: st) g rr) : Ev X m pc L (.int b :: .int a :: st) g rr := ev_i ht k
theorem ev_ushr {x y : Nat} {z a b : Int32} (ht : g_at m pc = some (.iushr, x, y, z)) (k : Ev X m (pc + 1) L (.int (a.toUInt32 >>> (b.toUInt32 &&& Int32.toUInt32 31)).toInt32 :: st) g rr) : Ev X m pc L (.int b :: .int a :: st) g rr := ev_i ht k
theorem ev_divN {x y a b : Nat} {z : Int32} (ht : g_at m pc = some (.idiv, x, y, z)) (ha : a < 2147483648) (h0 : 0 < b) (hb : b < 2147483648) (k : Ev X m (pc + 1) L (.int (nI (a / b)) :: st) g rr) : Ev X m pc L (.int (nI b) :: .int (nI a) :: st) g rr := ev_i ht ⟨nI_ne0 h0 hb, by show Ev X m (pc + 1) L (.int (nI a / nI b) :: st) g rr; rw [pk_div ha h0 hb]; exact k⟩
theorem ev_remN {x y a b : Nat} {z : Int32} (ht : g_at m pc = some (.irem, x, y, z)) (ha : a < 2147483648) (h0 : 0 < b) (hb : b < 2147483648) (k : Ev X m (pc + 1) L (.int (nI (a % b)) :: st) g rr) : Ev X m pc L (.int (nI b) :: .int (nI a) :: st) g rr := ev_i ht ⟨nI_ne0 h0 hb, by show Ev X m (pc + 1) L (.int (nI a - nI a / nI b * nI b) :: st) g rr; rw [pk_rem ha h0 hb]; exact k⟩
theorem ev_sw {d lo hi : Int} {offs : Array Int} {x y t : Nat} {z a : Int32} (ht : g_at m pc = some (.tableswitch d lo hi offs, x, y, z)) (e : g_tgt pc d lo hi offs a = t) (k : Ev X m t L st g rr) : Ev X m pc L (.int a :: st) g rr := ev_i ht (by show Ev X m (g_tgt pc d lo hi offs a) L st g rr; rw [e]; exact k)
theorem ev_bT {o : Int} {b : Bool} {x y : Nat} {z : Int32} (ht : g_at m pc = some (.ifCond .ne o, x, y, z)) (kt : b = true → Ev X m x L st g rr) (kf : b = false → Ev X m (pc + 3) L st g rr) : Ev X m pc L (.int (bI b) :: st) g rr := ev_i ht ⟨fun h => kt (bI_ne0.mp h), fun h => kf (by cases b; rfl; exact absurd (bI_ne0.mpr rfl) h)⟩
theorem ev_bF {o : Int} {b : Bool} {x y : Nat} {z : Int32} (ht : g_at m pc = some (.ifCond .eq o, x, y, z)) (kt : b = false → Ev X m x L st g rr) (kf : b = true → Ev X m (pc + 3) L st g rr) : Ev X m pc L (.int (bI b) :: st) g rr := ev_i ht ⟨fun h => kt (bI_eq0.mp h), fun h => kf (by cases b; exact absurd (bI_eq0.mpr rfl) h; rfl)⟩
theorem ev_b01 {b : Bool} {c1 c2 : Int32} (h1 : b = true → c1 = 1) (h2 : b = false → c1 = 0) (k : Ev X m pc L (.int (bI b) :: st) g rr) : Ev X m pc L (.int c1 :: st) g rr := by
  cases b
  · rw [h2 rfl]; exact k
  · rw [h1 rfl]; exact k
theorem ic0_eq {a : Nat} (ha : a < 2147483648) : g_ic .eq (nI a) 0 ↔ a = 0 := ic_eq (b := 0) ha (by decide)
theorem ic0_ne {a : Nat} (ha : a < 2147483648) : g_ic .ne (nI a) 0 ↔ ¬ a = 0 := ic_ne (b := 0) ha (by decide)
theorem ic0_lt {a : Nat} (ha : a < 2147483648) : g_ic .lt (nI a) 0 ↔ a < 0 := ic_lt (b := 0) ha (by decide)
theorem ic0_ge {a : Nat} (ha : a < 2147483648) : g_ic .ge (nI a) 0 ↔ 0 ≤ a := ic_ge (b := 0) ha (by decide)
theorem ic0_gt {a : Nat} (ha : a < 2147483648) : g_ic .gt (nI a) 0 ↔ 0 < a := ic_gt (b := 0) ha (by decide)
theorem ic0_le {a : Nat} (ha : a < 2147483648) : g_ic .le (nI a) 0 ↔ a ≤ 0 := ic_le (b := 0) ha (by decide)
end RV
end
section
/-! The same with what shall hold at the end. -/
def EvP (X : gX) (m pc : Nat) (L : gLo) (st : List Value) (g : gS) (P : Option Value → gS → Prop) : Prop := ∃ (v : Option Value) (g1 : gS), Ev X m pc L st g (v, g1) ∧ P v g1
def ClP (X : gX) (y : Nat) (A : List Value) (g : gS) (P : Option Value → gS → Prop) : Prop := ∃ (v : Option Value) (g1 : gS), Cl X y A g v g1 ∧ P v g1
theorem EvP.up {X : gX} {m pc m' pc' : Nat} {L L' : gLo} {st st' : List Value} {g g' : gS} {P : Option Value → gS → Prop} (k : EvP X m pc L st g P) (h : ∀ rr, Ev X m pc L st g rr → Ev X m' pc' L' st' g' rr) : EvP X m' pc' L' st' g' P := by
  obtain ⟨v, g1, h1, h2⟩ := k
  exact ⟨v, g1, h _ h1, h2⟩
theorem EvP.mono {X : gX} {m pc : Nat} {L : gLo} {st : List Value} {g : gS} {P Q : Option Value → gS → Prop} (k : EvP X m pc L st g P) (h : ∀ v g1, P v g1 → Q v g1) : EvP X m pc L st g Q := by
  obtain ⟨v, g1, h1, h2⟩ := k
  exact ⟨v, g1, h1, h _ _ h2⟩
theorem ClP.of {X : gX} {y : Nat} {A : List Value} {g : gS} {P : Option Value → gS → Prop} (h : A.length ≤ (g_meth y).2.2.2.1 ∧ (A.all fun v => v.category == 1) = true) (k : EvP X y 0 (g_l0 y A) [] g P) : ClP X y A g P := by
  obtain ⟨v, g1, h1, h2⟩ := k
  exact ⟨v, g1, ⟨h, h1⟩, h2⟩
theorem ClP.mono {X : gX} {y : Nat} {A : List Value} {g : gS} {P Q : Option Value → gS → Prop} (k : ClP X y A g P) (h : ∀ v g1, P v g1 → Q v g1) : ClP X y A g Q := by
  obtain ⟨v, g1, h1, h2⟩ := k
  exact ⟨v, g1, h1, h _ _ h2⟩
section RP
variable {X : gX} {m pc : Nat} {L L' : gLo} {st : List Value} {g : gS} {P : Option Value → gS → Prop}
theorem ep_val {a b : Int32} (e : a = b) (k : EvP X m pc L (.int b :: st) g P) : EvP X m pc L (.int a :: st) g P := k.up (fun _ q9 => ev_val e q9)
theorem ep_lv {L' : gLo} (e : L = L') (k : EvP X m pc L' st g P) : EvP X m pc L st g P := k.up (fun _ q9 => ev_lv e q9)
theorem ep_get {n : Nat} {ρ : Nat → Nat → Option Nat} {σ : Nat → Nat → Int32} {i p c f : Nat} {z : Int32} (ht : g_at m pc = some (.getfield i, c, f, z)) (hs : g_shp p = .inr c) (hp : p < n) (hR : g_isR c f = false) (k : EvP X m (pc + 3) L (.int (σ p f) :: st) (n, ρ, σ) P) : EvP X m pc L (.ref p :: st) (n, ρ, σ) P := k.up (fun _ q9 => ev_get ht hs hp hR q9)
theorem ep_getr {n : Nat} {ρ : Nat → Nat → Option Nat} {σ : Nat → Nat → Int32} {i p c f q : Nat} {z : Int32} (ht : g_at m pc = some (.getfield i, c, f, z)) (hs : g_shp p = .inr c) (hp : p < n) (hR : g_isR c f = true) (hq : ρ p f = some q) (k : EvP X m (pc + 3) L (.ref q :: st) (n, ρ, σ) P) : EvP X m pc L (.ref p :: st) (n, ρ, σ) P := k.up (fun _ q9 => ev_getr ht hs hp hR hq q9)
theorem ep_put {n : Nat} {ρ : Nat → Nat → Option Nat} {σ : Nat → Nat → Int32} {i p c f : Nat} {z v : Int32} (ht : g_at m pc = some (.putfield i, c, f, z)) (hs : g_shp p = .inr c) (hp : p < n) (hR : g_isR c f = false) (k : EvP X m (pc + 3) L st (n, ρ, g_up σ p f v) P) : EvP X m pc L (.int v :: .ref p :: st) (n, ρ, σ) P := k.up (fun _ q9 => ev_put ht hs hp hR q9)
theorem ep_putr {n : Nat} {ρ : Nat → Nat → Option Nat} {σ : Nat → Nat → Int32} {i p c f q : Nat} {z : Int32} (ht : g_at m pc = some (.putfield i, c, f, z)) (hs : g_shp p = .inr c) (hp : p < n) (hR : g_isR c f = true) (hq : q < 1000) (k : EvP X m (pc + 3) L st (n, g_ur ρ p f (some q), σ) P) : EvP X m pc L (.ref q :: .ref p :: st) (n, ρ, σ) P := k.up (fun _ q9 => ev_putr ht hs hp hR hq q9)
theorem ep_ald {n len : Nat} {ρ : Nat → Nat → Option Nat} {σ : Nat → Nat → Int32} {p a b : Nat} {z j : Int32} (ht : g_at m pc = some (.iaload, a, b, z)) (hs : g_shp p = .inl (false, len)) (hp : p < n) (h0 : p ≠ 1000) (hj : vp_in j len) (k : EvP X m (pc + 1) L (.int (σ p j.toNatClampNeg) :: st) (n, ρ, σ) P) : EvP X m pc L (.int j :: .ref p :: st) (n, ρ, σ) P := k.up (fun _ q9 => ev_ald ht hs hp h0 hj q9)
theorem ep_bld {n len : Nat} {ρ : Nat → Nat → Option Nat} {σ : Nat → Nat → Int32} {p a b : Nat} {z j : Int32} (ht : g_at m pc = some (.baload, a, b, z)) (hs : g_shp p = .inl (true, len)) (hp : p < n) (h0 : p ≠ 1000) (hj : vp_in j len) (k : EvP X m (pc + 1) L (.int (σ p j.toNatClampNeg) :: st) (n, ρ, σ) P) : EvP X m pc L (.int j :: .ref p :: st) (n, ρ, σ) P := k.up (fun _ q9 => ev_bld ht hs hp h0 hj q9)
theorem ep_xld {a b : Nat} {z j : Int32} (ht : g_at m pc = some (.iaload, a, b, z)) (hj : vp_in j X.1) (k : EvP X m (pc + 1) L (.int (X.2 j.toNatClampNeg) :: st) g P) : EvP X m pc L (.int j :: .ref 1000 :: st) g P := k.up (fun _ q9 => ev_xld ht hj q9)
theorem ep_xlen {a b : Nat} {z : Int32} (ht : g_at m pc = some (.arraylength, a, b, z)) (k : EvP X m (pc + 1) L (.int (nI X.1) :: st) g P) : EvP X m pc L (.ref 1000 :: st) g P := k.up (fun _ q9 => ev_xlen ht q9)
theorem ep_alen {n len : Nat} {w : Bool} {ρ : Nat → Nat → Option Nat} {σ : Nat → Nat → Int32} {p a b : Nat} {z : Int32} (ht : g_at m pc = some (.arraylength, a, b, z)) (hs : g_shp p = .inl (w, len)) (hp : p < n) (h0 : p ≠ 1000) (k : EvP X m (pc + 1) L (.int (nI len) :: st) (n, ρ, σ) P) : EvP X m pc L (.ref p :: st) (n, ρ, σ) P := k.up (fun _ q9 => ev_alen ht hs hp h0 q9)
theorem ep_ast {n len : Nat} {ρ : Nat → Nat → Option Nat} {σ : Nat → Nat → Int32} {p a b : Nat} {z j v : Int32} (ht : g_at m pc = some (.iastore, a, b, z)) (hs : g_shp p = .inl (false, len)) (hp : p < n) (hj : vp_in j len) (k : EvP X m (pc + 1) L st (n, ρ, g_up σ p j.toNatClampNeg v) P) : EvP X m pc L (.int v :: .int j :: .ref p :: st) (n, ρ, σ) P := k.up (fun _ q9 => ev_ast ht hs hp hj q9)
theorem ep_bst {n len : Nat} {ρ : Nat → Nat → Option Nat} {σ : Nat → Nat → Int32} {p a b : Nat} {z j v : Int32} (ht : g_at m pc = some (.bastore, a, b, z)) (hs : g_shp p = .inl (true, len)) (hp : p < n) (hj : vp_in j len) (k : EvP X m (pc + 1) L st (n, ρ, g_up σ p j.toNatClampNeg (v &&& 1)) P) : EvP X m pc L (.int v :: .int j :: .ref p :: st) (n, ρ, σ) P := k.up (fun _ q9 => ev_bst ht hs hp hj q9)
theorem ep_aldN {n len : Nat} {ρ : Nat → Nat → Option Nat} {σ : Nat → Nat → Int32} {p a b j : Nat} {z : Int32} (ht : g_at m pc = some (.iaload, a, b, z)) (hs : g_shp p = .inl (false, len)) (hp : p < n) (h0 : p ≠ 1000) (hl : len ≤ 65536) (hj : j < len) (k : EvP X m (pc + 1) L (.int (σ p j) :: st) (n, ρ, σ) P) : EvP X m pc L (.int (nI j) :: .ref p :: st) (n, ρ, σ) P := k.up (fun _ q9 => ev_aldN ht hs hp h0 hl hj q9)
theorem ep_bldN {n len : Nat} {ρ : Nat → Nat → Option Nat} {σ : Nat → Nat → Int32} {p a b j : Nat} {z : Int32} (ht : g_at m pc = some (.baload, a, b, z)) (hs : g_shp p = .inl (true, len)) (hp : p < n) (h0 : p ≠ 1000) (hl : len ≤ 65536) (hj : j < len) (k : EvP X m (pc + 1) L (.int (σ p j) :: st) (n, ρ, σ) P) : EvP X m pc L (.int (nI j) :: .ref p :: st) (n, ρ, σ) P := k.up (fun _ q9 => ev_bldN ht hs hp h0 hl hj q9)
theorem ep_astN {n len : Nat} {ρ : Nat → Nat → Option Nat} {σ : Nat → Nat → Int32} {p a b j : Nat} {z v : Int32} (ht : g_at m pc = some (.iastore, a, b, z)) (hs : g_shp p = .inl (false, len)) (hp : p < n) (hl : len ≤ 65536) (hj : j < len) (k : EvP X m (pc + 1) L st (n, ρ, g_up σ p j v) P) : EvP X m pc L (.int v :: .int (nI j) :: .ref p :: st) (n, ρ, σ) P := k.up (fun _ q9 => ev_astN ht hs hp hl hj q9)
theorem ep_bstN {n len : Nat} {ρ : Nat → Nat → Option Nat} {σ : Nat → Nat → Int32} {p a b j : Nat} {z v : Int32} (ht : g_at m pc = some (.bastore, a, b, z)) (hs : g_shp p = .inl (true, len)) (hp : p < n) (hl : len ≤ 65536) (hj : j < len) (k : EvP X m (pc + 1) L st (n, ρ, g_up σ p j (v &&& 1)) P) : EvP X m pc L (.int v :: .int (nI j) :: .ref p :: st) (n, ρ, σ) P := k.up (fun _ q9 => ev_bstN ht hs hp hl hj q9)
theorem ep_xldN {a b j : Nat} {z : Int32} (ht : g_at m pc = some (.iaload, a, b, z)) (hX : X.1 ≤ 2048) (hj : j < X.1) (k : EvP X m (pc + 1) L (.int (X.2 j) :: st) g P) : EvP X m pc L (.int (nI j) :: .ref 1000 :: st) g P := k.up (fun _ q9 => ev_xldN ht hX hj q9)
theorem ep_addN {a b x y : Nat} {z : Int32} (ht : g_at m pc = some (.iadd, x, y, z)) (k : EvP X m (pc + 1) L (.int (nI (a + b)) :: st) g P) : EvP X m pc L (.int (nI b) :: .int (nI a) :: st) g P := k.up (fun _ q9 => ev_addN ht q9)
theorem ep_mulN {a b x y : Nat} {z : Int32} (ht : g_at m pc = some (.imul, x, y, z)) (k : EvP X m (pc + 1) L (.int (nI (a * b)) :: st) g P) : EvP X m pc L (.int (nI b) :: .int (nI a) :: st) g P := k.up (fun _ q9 => ev_mulN ht q9)
theorem ep_subN {a b x y : Nat} {z : Int32} (ht : g_at m pc = some (.isub, x, y, z)) (h : b ≤ a) (k : EvP X m (pc + 1) L (.int (nI (a - b)) :: st) g P) : EvP X m pc L (.int (nI b) :: .int (nI a) :: st) g P := k.up (fun _ q9 => ev_subN ht h q9)
theorem ep_andN {a b x y : Nat} {z : Int32} (ht : g_at m pc = some (.iand, x, y, z)) (k : EvP X m (pc + 1) L (.int (nI (a &&& b)) :: st) g P) : EvP X m pc L (.int (nI b) :: .int (nI a) :: st) g P := k.up (fun _ q9 => ev_andN ht q9)
theorem ep_orN {a b x y : Nat} {z : Int32} (ht : g_at m pc = some (.ior, x, y, z)) (k : EvP X m (pc + 1) L (.int (nI (a ||| b)) :: st) g P) : EvP X m pc L (.int (nI b) :: .int (nI a) :: st) g P := k.up (fun _ q9 => ev_orN ht q9)
theorem ep_xorN {a b x y : Nat} {z : Int32} (ht : g_at m pc = some (.ixor, x, y, z)) (k : EvP X m (pc + 1) L (.int (nI (a ^^^ b)) :: st) g P) : EvP X m pc L (.int (nI b) :: .int (nI a) :: st) g P := k.up (fun _ q9 => ev_xorN ht q9)
theorem ep_shlN {a b x y : Nat} {z : Int32} (ht : g_at m pc = some (.ishl, x, y, z)) (hb : b < 31) (h : a * 2 ^ b < 4294967296) (k : EvP X m (pc + 1) L (.int (nI (a * 2 ^ b)) :: st) g P) : EvP X m pc L (.int (nI b) :: .int (nI a) :: st) g P := k.up (fun _ q9 => ev_shlN ht hb h q9)
theorem ep_oneN {b x y : Nat} {z : Int32} (ht : g_at m pc = some (.ishl, x, y, z)) (hb : b < 31) (k : EvP X m (pc + 1) L (.int (nI (2 ^ b)) :: st) g P) : EvP X m pc L (.int (nI b) :: .int (nI 1) :: st) g P := k.up (fun _ q9 => ev_oneN ht hb q9)
theorem ep_shrN {a b x y : Nat} {z : Int32} (ht : g_at m pc = some (.ishr, x, y, z)) (hb : b < 31) (h : a < 2147483648) (k : EvP X m (pc + 1) L (.int (nI (a / 2 ^ b)) :: st) g P) : EvP X m pc L (.int (nI b) :: .int (nI a) :: st) g P := k.up (fun _ q9 => ev_shrN ht hb h q9)
theorem ep_max {i nb a b : Nat} {z : Int32} (ht : g_at m pc = some (.invokestatic i, 998, nb, z)) (ha : a < 2147483648) (hb : b < 2147483648) (hc : (st.map fun v => v.category).sum ≤ 8) (k : EvP X m (pc + 3) L (.int (nI (max a b)) :: st) g P) : EvP X m pc L (.int (nI b) :: .int (nI a) :: st) g P := k.up (fun _ q9 => ev_max ht ha hb hc q9)
theorem ep_k1 {v : Int} {x y : Nat} {z w : Int32} (ht : g_at m pc = some (.iconst v, x, y, z)) (e : z = w) (k : EvP X m (pc + 1) L (.int w :: st) g P) : EvP X m pc L st g P := k.up (fun _ q9 => ev_k1 ht e q9)
theorem ep_k2 {v : Int} {x y : Nat} {z w : Int32} (ht : g_at m pc = some (.bipush v, x, y, z)) (e : z = w) (k : EvP X m (pc + 2) L (.int w :: st) g P) : EvP X m pc L st g P := k.up (fun _ q9 => ev_k2 ht e q9)
theorem ep_k3 {v : Int} {x y : Nat} {z w : Int32} (ht : g_at m pc = some (.sipush v, x, y, z)) (e : z = w) (k : EvP X m (pc + 3) L (.int w :: st) g P) : EvP X m pc L st g P := k.up (fun _ q9 => ev_k3 ht e q9)
theorem ep_k4 {v : Nat} {x y : Nat} {z w : Int32} (ht : g_at m pc = some (.ldc v, x, y, z)) (e : z = w) (k : EvP X m (pc + 2) L (.int w :: st) g P) : EvP X m pc L st g P := k.up (fun _ q9 => ev_k4 ht e q9)
theorem ep_k5 {v : Nat} {x y : Nat} {z w : Int32} (ht : g_at m pc = some (.ldc_w v, x, y, z)) (e : z = w) (k : EvP X m (pc + 3) L (.int w :: st) g P) : EvP X m pc L st g P := k.up (fun _ q9 => ev_k5 ht e q9)
theorem ep_il {i x y : Nat} {z a : Int32} (ht : g_at m pc = some (.iload i, x, y, z)) (h : g_lg L i = some (.int a)) (k : EvP X m (pc + 2) L (.int a :: st) g P) : EvP X m pc L st g P := k.up (fun _ q9 => ev_il ht h q9)
theorem ep_iln {i : Fin 4} {x y : Nat} {z a : Int32} (ht : g_at m pc = some (.iload_n i, x, y, z)) (h : g_lg L i.val = some (.int a)) (k : EvP X m (pc + 1) L (.int a :: st) g P) : EvP X m pc L st g P := k.up (fun _ q9 => ev_iln ht h q9)
theorem ep_al {i x y a : Nat} {z : Int32} (ht : g_at m pc = some (.aload i, x, y, z)) (h : g_lg L i = some (.ref a)) (k : EvP X m (pc + 2) L (.ref a :: st) g P) : EvP X m pc L st g P := k.up (fun _ q9 => ev_al ht h q9)
theorem ep_aln {i : Fin 4} {x y a : Nat} {z : Int32} (ht : g_at m pc = some (.aload_n i, x, y, z)) (h : g_lg L i.val = some (.ref a)) (k : EvP X m (pc + 1) L (.ref a :: st) g P) : EvP X m pc L st g P := k.up (fun _ q9 => ev_aln ht h q9)
theorem ep_is {i x y : Nat} {z a : Int32} (ht : g_at m pc = some (.istore i, x, y, z)) (e : g_ls L i (.int a) = L') (hk : i < L.length) (k : EvP X m (pc + 2) L' st g P) : EvP X m pc L (.int a :: st) g P := k.up (fun _ q9 => ev_is ht e hk q9)
theorem ep_isn {i : Fin 4} {x y : Nat} {z a : Int32} (ht : g_at m pc = some (.istore_n i, x, y, z)) (e : g_ls L i.val (.int a) = L') (hk : i.val < L.length) (k : EvP X m (pc + 1) L' st g P) : EvP X m pc L (.int a :: st) g P := k.up (fun _ q9 => ev_isn ht e hk q9)
theorem ep_as {i x y a : Nat} {z : Int32} (ht : g_at m pc = some (.astore i, x, y, z)) (e : g_ls L i (.ref a) = L') (hk : i < L.length) (k : EvP X m (pc + 2) L' st g P) : EvP X m pc L (.ref a :: st) g P := k.up (fun _ q9 => ev_as ht e hk q9)
theorem ep_asn {i : Fin 4} {x y a : Nat} {z : Int32} (ht : g_at m pc = some (.astore_n i, x, y, z)) (e : g_ls L i.val (.ref a) = L') (hk : i.val < L.length) (k : EvP X m (pc + 1) L' st g P) : EvP X m pc L (.ref a :: st) g P := k.up (fun _ q9 => ev_asn ht e hk q9)
theorem ep_inc {i x y : Nat} {v : Int} {z a b : Int32} (ht : g_at m pc = some (.iinc i v, x, y, z)) (h : g_lg L i = some (.int a)) (eb : a + z = b) (e : g_ls L i (.int b) = L') (hk : i < L.length) (k : EvP X m (pc + 3) L' st g P) : EvP X m pc L st g P := k.up (fun _ q9 => ev_inc ht h eb e hk q9)
theorem ep_gt {x y : Nat} {o : Int} {z : Int32} (ht : g_at m pc = some (.goto o, x, y, z)) (k : EvP X m x L st g P) : EvP X m pc L st g P := k.up (fun _ q9 => ev_gt ht q9)
theorem ep_dup {x y : Nat} {z : Int32} {v : Value} (ht : g_at m pc = some (.dup, x, y, z)) (hc : v.category = 1) (k : EvP X m (pc + 1) L (v :: v :: st) g P) : EvP X m pc L (v :: st) g P := k.up (fun _ q9 => ev_dup ht hc q9)
theorem ep_pop {x y : Nat} {z : Int32} {v : Value} (ht : g_at m pc = some (.pop, x, y, z)) (hc : v.category = 1) (k : EvP X m (pc + 1) L st g P) : EvP X m pc L (v :: st) g P := k.up (fun _ q9 => ev_pop ht hc q9)
theorem ep_dup2 {x y : Nat} {z : Int32} {v w : Value} (ht : g_at m pc = some (.dup2, x, y, z)) (hc : v.category = 1) (hd : w.category = 1) (k : EvP X m (pc + 1) L (v :: w :: v :: w :: st) g P) : EvP X m pc L (v :: w :: st) g P := k.up (fun _ q9 => ev_dup2 ht hc hd q9)
theorem ep_add {x y : Nat} {z a b : Int32} (ht : g_at m pc = some (.iadd, x, y, z)) (k : EvP X m (pc + 1) L (.int (a + b) :: st) g P) : EvP X m pc L (.int b :: .int a :: st) g P := k.up (fun _ q9 => ev_add ht q9)
theorem ep_sub {x y : Nat} {z a b : Int32} (ht : g_at m pc = some (.isub, x, y, z)) (k : EvP X m (pc + 1) L (.int (a - b) :: st) g P) : EvP X m pc L (.int b :: .int a :: st) g P := k.up (fun _ q9 => ev_sub ht q9)
theorem ep_mul {x y : Nat} {z a b : Int32} (ht : g_at m pc = some (.imul, x, y, z)) (k : EvP X m (pc + 1) L (.int (a * b) :: st) g P) : EvP X m pc L (.int b :: .int a :: st) g P := k.up (fun _ q9 => ev_mul ht q9)
theorem ep_and {x y : Nat} {z a b : Int32} (ht : g_at m pc = some (.iand, x, y, z)) (k : EvP X m (pc + 1) L (.int (a &&& b) :: st) g P) : EvP X m pc L (.int b :: .int a :: st) g P := k.up (fun _ q9 => ev_and ht q9)
theorem ep_or {x y : Nat} {z a b : Int32} (ht : g_at m pc = some (.ior, x, y, z)) (k : EvP X m (pc + 1) L (.int (a ||| b) :: st) g P) : EvP X m pc L (.int b :: .int a :: st) g P := k.up (fun _ q9 => ev_or ht q9)
theorem ep_xor {x y : Nat} {z a b : Int32} (ht : g_at m pc = some (.ixor, x, y, z)) (k : EvP X m (pc + 1) L (.int (a ^^^ b) :: st) g P) : EvP X m pc L (.int b :: .int a :: st) g P := k.up (fun _ q9 => ev_xor ht q9)
theorem ep_shl {x y : Nat} {z a b : Int32} (ht : g_at m pc = some (.ishl, x, y, z)) (k : EvP X m (pc + 1) L (.int (a <<< (b &&& 31)) :: st) g P) : EvP X m pc L (.int b :: .int a :: st) g P := k.up (fun _ q9 => ev_shl ht q9)
theorem ep_shr {x y : Nat} {z a b : Int32} (ht : g_at m pc = some (.ishr, x, y, z)) (k : EvP X m (pc + 1) L (.int (a >>> (b &&& 31)) :: st) g P) : EvP X m pc L (.int b :: .int a :: st) g P := k.up (fun _ q9 => ev_shr ht q9)
theorem ep_ushr {x y : Nat} {z a b : Int32} (ht : g_at m pc = some (.iushr, x, y, z)) (k : EvP X m (pc + 1) L (.int (a.toUInt32 >>> (b.toUInt32 &&& Int32.toUInt32 31)).toInt32 :: st) g P) : EvP X m pc L (.int b :: .int a :: st) g P := k.up (fun _ q9 => ev_ushr ht q9)
theorem ep_divN {x y a b : Nat} {z : Int32} (ht : g_at m pc = some (.idiv, x, y, z)) (ha : a < 2147483648) (h0 : 0 < b) (hb : b < 2147483648) (k : EvP X m (pc + 1) L (.int (nI (a / b)) :: st) g P) : EvP X m pc L (.int (nI b) :: .int (nI a) :: st) g P := k.up (fun _ q9 => ev_divN ht ha h0 hb q9)
theorem ep_remN {x y a b : Nat} {z : Int32} (ht : g_at m pc = some (.irem, x, y, z)) (ha : a < 2147483648) (h0 : 0 < b) (hb : b < 2147483648) (k : EvP X m (pc + 1) L (.int (nI (a % b)) :: st) g P) : EvP X m pc L (.int (nI b) :: .int (nI a) :: st) g P := k.up (fun _ q9 => ev_remN ht ha h0 hb q9)
theorem ep_sw {d lo hi : Int} {offs : Array Int} {x y t : Nat} {z a : Int32} (ht : g_at m pc = some (.tableswitch d lo hi offs, x, y, z)) (e : g_tgt pc d lo hi offs a = t) (k : EvP X m t L st g P) : EvP X m pc L (.int a :: st) g P := k.up (fun _ q9 => ev_sw ht e q9)
theorem ep_i1 {x y : Nat} {o : Int} {c : ClassFile.Cond} {a b : Int32} {z : Int32} (ht : g_at m pc = some (.if_icmp c o, x, y, z)) (kt : g_ic c a b → EvP X m x L st g P) (kf : ¬ g_ic c a b → EvP X m (pc + 3) L st g P) : EvP X m pc L (.int b :: .int a :: st) g P := by
  by_cases h : g_ic c a b
  · exact (kt h).up (fun _ q => ev_if ht (fun _ => q) (fun n => absurd h n))
  · exact (kf h).up (fun _ q => ev_if ht (fun n => absurd n h) (fun _ => q))
theorem ep_if {x y : Nat} {o : Int} {c : ClassFile.Cond} {a b : Int32} {z : Int32} (ht : g_at m pc = some (.if_icmp c o, x, y, z)) (kt : g_ic c a b → EvP X m x L st g P) (kf : ¬ g_ic c a b → EvP X m (pc + 3) L st g P) : EvP X m pc L (.int b :: .int a :: st) g P := ep_i1 ht kt kf
theorem ep_if0 {x y : Nat} {o : Int} {c : ClassFile.Cond} {a : Int32} {z : Int32} (ht : g_at m pc = some (.ifCond c o, x, y, z)) (kt : g_ic c a 0 → EvP X m x L st g P) (kf : ¬ g_ic c a 0 → EvP X m (pc + 3) L st g P) : EvP X m pc L (.int a :: st) g P := by
  by_cases h : g_ic c a 0
  · exact (kt h).up (fun _ q => ev_if0 ht (fun _ => q) (fun n => absurd h n))
  · exact (kf h).up (fun _ q => ev_if0 ht (fun n => absurd n h) (fun _ => q))
theorem ep_ifP {x y : Nat} {o : Int} {c : ClassFile.Cond} {a b : Int32} {z : Int32} {C : Prop} (ht : g_at m pc = some (.if_icmp c o, x, y, z)) (hP : g_ic c a b ↔ C) (kt : C → EvP X m x L st g P) (kf : ¬ C → EvP X m (pc + 3) L st g P) : EvP X m pc L (.int b :: .int a :: st) g P := ep_if ht (fun h => kt (hP.mp h)) (fun h => kf (fun q => h (hP.mpr q)))
theorem ep_if0P {x y : Nat} {o : Int} {c : ClassFile.Cond} {a : Int32} {z : Int32} {C : Prop} (ht : g_at m pc = some (.ifCond c o, x, y, z)) (hP : g_ic c a 0 ↔ C) (kt : C → EvP X m x L st g P) (kf : ¬ C → EvP X m (pc + 3) L st g P) : EvP X m pc L (.int a :: st) g P := ep_if0 ht (fun h => kt (hP.mp h)) (fun h => kf (fun q => h (hP.mpr q)))
theorem ep_bT {o : Int} {b : Bool} {x y : Nat} {z : Int32} (ht : g_at m pc = some (.ifCond .ne o, x, y, z)) (kt : b = true → EvP X m x L st g P) (kf : b = false → EvP X m (pc + 3) L st g P) : EvP X m pc L (.int (bI b) :: st) g P := ep_if0 ht (fun h => kt (bI_ne0.mp h)) (fun h => kf (by cases b; rfl; exact absurd (bI_ne0.mpr rfl) h))
theorem ep_bF {o : Int} {b : Bool} {x y : Nat} {z : Int32} (ht : g_at m pc = some (.ifCond .eq o, x, y, z)) (kt : b = false → EvP X m x L st g P) (kf : b = true → EvP X m (pc + 3) L st g P) : EvP X m pc L (.int (bI b) :: st) g P := ep_if0 ht (fun h => kt (bI_eq0.mp h)) (fun h => kf (by cases b; exact absurd (bI_eq0.mpr rfl) h; rfl))
theorem bI_e1 {b : Bool} : g_ic .eq (bI b) (nI 1) ↔ b = true := by
  show bI b = nI 1 ↔ b = true
  cases b <;> decide
theorem bI_n1 {b : Bool} : g_ic .ne (bI b) (nI 1) ↔ b = false := by
  show ¬ bI b = nI 1 ↔ b = false
  cases b <;> decide
theorem ep_b1e {o : Int} {b : Bool} {x y : Nat} {z : Int32} (ht : g_at m pc = some (.if_icmp .eq o, x, y, z)) (kt : b = true → EvP X m x L st g P) (kf : b = false → EvP X m (pc + 3) L st g P) : EvP X m pc L (.int (nI 1) :: .int (bI b) :: st) g P := ep_if ht (fun h => kt (bI_e1.mp h)) (fun h => kf (by cases b; rfl; exact absurd (bI_e1.mpr rfl) h))
theorem ep_b1n {o : Int} {b : Bool} {x y : Nat} {z : Int32} (ht : g_at m pc = some (.if_icmp .ne o, x, y, z)) (kt : b = false → EvP X m x L st g P) (kf : b = true → EvP X m (pc + 3) L st g P) : EvP X m pc L (.int (nI 1) :: .int (bI b) :: st) g P := ep_if ht (fun h => kt (bI_n1.mp h)) (fun h => kf (by cases b; exact absurd (bI_n1.mpr rfl) h; rfl))
theorem ep_ri {a b : Nat} {z v : Int32} (ht : g_at m pc = some (.ireturn, a, b, z)) (hz : g_isZ m = true → v &&& 1 = v) (h : P (some (.int v)) g) : EvP X m pc L [.int v] g P := ⟨_, _, ev_ri ht hz rfl, h⟩
theorem ep_rv {a b : Nat} {z : Int32} (ht : g_at m pc = some (.return_, a, b, z)) (h : P none g) : EvP X m pc L [] g P := ⟨_, _, ev_rv ht rfl, h⟩
theorem ep_cs {i y nb : Nat} {z : Int32} {A r : List Value} {v : Option Value} {g1 : gS} (ht : g_at m pc = some (.invokestatic i, y, nb, z)) (h0 : y ≠ 998) (hp : g_pops nb st [] = some (A, r)) (hc : (r.map fun v => v.category).sum ≤ 8) (h : Cl X y A g v g1) (k : EvP X m (pc + 3) L (g_push v r) g1 P) : EvP X m pc L st g P := k.up (fun _ q => ev_cs ht h0 hp hc h q)
theorem ep_cv {i y nb q : Nat} {z : Int32} {A r : List Value} {v : Option Value} {g1 : gS} (ht : g_at m pc = some (.invokevirtual i, y, nb, z)) (hp : g_pops (nb + 1) st [] = some (.ref q :: A, r)) (hs : g_shp q = .inr (g_meth y).1) (hq : q < g.1) (hc : (r.map fun v => v.category).sum ≤ 8) (h : Cl X y (.ref q :: A) g v g1) (k : EvP X m (pc + 3) L (g_push v r) g1 P) : EvP X m pc L st g P := k.up (fun _ q => ev_cv ht hp hs hq hc h q)
theorem ep_ci {i y nb q : Nat} {z : Int32} {A r : List Value} {v : Option Value} {g1 : gS} (ht : g_at m pc = some (.invokespecial i, y, nb, z)) (h0 : y ≠ 999) (hp : g_pops (nb + 1) st [] = some (.ref q :: A, r)) (hc : (r.map fun v => v.category).sum ≤ 8) (h : Cl X y (.ref q :: A) g v g1) (k : EvP X m (pc + 3) L (g_push v r) g1 P) : EvP X m pc L st g P := k.up (fun _ q => ev_ci ht h0 hp hc h q)
theorem ep_i {i : gI} {m' pc' : Nat} {st' : List Value} {g' : gS} (ht : g_at m pc = some i) (k : EvP X m' pc' L' st' g' P) (h : ∀ rr, Ev X m' pc' L' st' g' rr → g_do X (Ev X) m pc i L st g rr) : EvP X m pc L st g P := k.up (fun rr q => ev_i ht (h rr q))
theorem Cl.of {y : Nat} {A : List Value} {v : Option Value} {g1 : gS} (h : A.length ≤ (g_meth y).2.2.2.1 ∧ (A.all fun v => v.category == 1) = true) (k : EvP X y 0 (g_l0 y A) [] g (fun w g2 => w = v ∧ g2 = g1)) : Cl X y A g v g1 := by
  obtain ⟨w, g2, h1, h2, h3⟩ := k
  subst h2; subst h3
  exact ⟨h, h1⟩
end RP
end
section
/-! The net as numbers: T 0 nodes, T 1 sources, T 2 loads, T 3 switches, T (4 + k) kind, T (12 + k) name, T (20 + k) first node, T (28 + k) second one. -/
def t_act (T : Nat → Nat) (c k : Nat) : Prop := k < T 3 ∧ c.testBit k = true ∧ T (4 + k) ≠ 2
/-- hang together by the first j switches -/
def Cnj (T : Nat → Nat) (c j : Nat) (u v : Nat) : Prop := ∀ S : Nat → Prop, (∀ k, k < j → t_act T c k → (S (T (20 + k)) ↔ S (T (28 + k)))) → (S u ↔ S v)
def Cn (T : Nat → Nat) (c : Nat) (u v : Nat) : Prop := Cnj T c (T 3) u v
/-- the number whose bits below n are those of P -/
noncomputable def mk : Nat → (Nat → Prop) → Nat
  | 0, _ => 0
  | n + 1, P => mk n P ||| @ite _ (P n) (Classical.propDecidable _) (2 ^ n) 0
theorem mk_bit (P : Nat → Prop) (i : Nat) : ∀ n, (mk n P).testBit i = true ↔ i < n ∧ P i
  | 0 => by simp [mk]
  | n + 1 => by
    have ih := mk_bit P i n
    show ((mk n P) ||| @ite _ (P n) (Classical.propDecidable _) (2 ^ n) 0).testBit i = true ↔ _
    rw [Nat.testBit_or, Bool.or_eq_true, ih]
    by_cases h : P n
    · rw [if_pos h, Nat.testBit_two_pow]
      simp only [decide_eq_true_eq]
      constructor
      · rintro (⟨h1, h2⟩ | h1)
        · exact ⟨by omega, h2⟩
        · exact ⟨by omega, h1 ▸ h⟩
      · rintro ⟨h1, h2⟩
        by_cases e : n = i
        · exact Or.inr e
        · exact Or.inl ⟨by omega, h2⟩
    · rw [if_neg h, Nat.zero_testBit]
      constructor
      · rintro (⟨h1, h2⟩ | h1)
        · exact ⟨by omega, h2⟩
        · cases h1
      · rintro ⟨h1, h2⟩
        by_cases e : n = i
        · subst e; exact absurd h2 h
        · exact Or.inl ⟨by omega, h2⟩
theorem lt_of_bits {a n : Nat} (h : ∀ i, a.testBit i = true → i < n) : a < 2 ^ n := by
  apply Nat.lt_pow_two_of_testBit
  intro i hi
  cases hb : a.testBit i with
  | false => rfl
  | true => exact absurd (h i hb) (by omega)
theorem mk_lt (n : Nat) (P : Nat → Prop) : mk n P < 2 ^ n := lt_of_bits (fun i h => ((mk_bit P i n).mp h).1)
theorem bits_eq {a b : Nat} (h : ∀ i, a.testBit i = true ↔ b.testBit i = true) : a = b := by
  apply Nat.eq_of_testBit_eq
  intro i
  have := h i
  cases h1 : a.testBit i <;> cases h2 : b.testBit i <;> simp_all
theorem mk_eq {n a : Nat} {P : Nat → Prop} (h : ∀ i, a.testBit i = true ↔ i < n ∧ P i) : a = mk n P := bits_eq (fun i => (h i).trans (mk_bit P i n).symm)
theorem mk_congr {n : Nat} {P Q : Nat → Prop} (h : ∀ i, i < n → (P i ↔ Q i)) : mk n P = mk n Q := mk_eq (fun i => (mk_bit P i n).trans ⟨fun q => ⟨q.1, (h i q.1).mp q.2⟩, fun q => ⟨q.1, (h i q.1).mpr q.2⟩⟩)
noncomputable def liveM (T : Nat → Nat) (c : Nat) : Nat := mk (T 0) (fun v => ∃ u, u < T 0 ∧ (T 1).testBit u = true ∧ Cn T c u v)
noncomputable def loadM (T : Nat → Nat) (c : Nat) : Nat := mk (T 0) (fun v => ∃ u, u < T 0 ∧ (T 2).testBit u = true ∧ Cn T c u v)
noncomputable def earthM (T : Nat → Nat) (c : Nat) : Nat := mk (T 0) (fun v => ∃ k, k < T 3 ∧ c.testBit k = true ∧ T (4 + k) = 2 ∧ Cn T c (T (20 + k)) v)
def sound (T : Nat → Nat) (c : Nat) : Prop := liveM T c &&& earthM T c = 0
/-- the bit k away -/
def clr (c k : Nat) : Nat := c ^^^ (c &&& 2 ^ k)
def under (T : Nat → Nat) (c k : Nat) : Prop := ¬ Cn T c (T (20 + k)) (T (28 + k)) ∧ (((liveM T c).testBit (T (20 + k)) = true ∧ (liveM T c).testBit (T (28 + k)) = true) ∨ ((liveM T c).testBit (T (20 + k)) = true ∧ (loadM T c).testBit (T (28 + k)) = true) ∨ ((liveM T c).testBit (T (28 + k)) = true ∧ (loadM T c).testBit (T (20 + k)) = true))
noncomputable def heldM (T : Nat → Nat) (c : Nat) : Nat := mk (T 3) (fun k => T (4 + k) = 1 ∧ under T (clr c k) k)
noncomputable def why (T : Nat → Nat) (l c k : Nat) : Nat := if l.testBit k = true then 1 else @ite _ (T (4 + k) = 1 ∧ under T (clr c k) k) (Classical.propDecidable _) 2 (@ite _ (sound T (c ^^^ 2 ^ k)) (Classical.propDecidable _) 0 3)
def sec (T : Nat → Nat) (k : Nat) : Int32 := if T (4 + k) = 2 then -9 else nI (T (28 + k))
/-! What stands on the two sides. -/
def WFT (T : Nat → Nat) : Prop := (2 ≤ T 0 ∧ T 0 ≤ 6) ∧ (T 1 < 2 ^ T 0 ∧ T 2 < 2 ^ T 0) ∧ T 3 ≤ 8 ∧ (∀ k, k < T 3 → T (4 + k) < 3 ∧ (97 ≤ T (12 + k) ∧ T (12 + k) ≤ 122) ∧ T (20 + k) < T 0 ∧ (T (4 + k) ≠ 2 → T (28 + k) < T 0)) ∧ ∀ i k, i < k → k < T 3 → T (12 + i) ≠ T (12 + k)
def NetC (σ : Nat → Nat → Int32) (p : Nat) (T : Nat → Nat) : Prop :=
  (∀ j, j < 4 → σ p j = nI (T j)) ∧ (∀ k, k < T 3 → σ (p + 1) k = nI (T (4 + k)) ∧ σ (p + 2) k = nI (T (12 + k)) ∧ σ (p + 3) k = nI (T (20 + k)) ∧ σ (p + 4) k = sec T k) ∧ ∀ c, c < 2 ^ T 3 → σ (p + 5) c = nI (liveM T c) ∧ σ (p + 6) c = nI (earthM T c) ∧ σ (p + 7) c = nI (heldM T c)
def ToldM (f : Nat → Int32) (T : Nat → Nat) : Prop := (∀ j, j < 4 → f j = nI (T j)) ∧ ∀ k, k < T 3 → f (4 + k) = nI (T (4 + k)) ∧ f (12 + k) = nI (T (12 + k)) ∧ f (20 + k) = nI (T (20 + k)) ∧ f (28 + k) = sec T k
def Snap (T : Nat → Nat) (c l : Nat) (pr : Nat → Nat) : Prop := c < 2 ^ T 3 ∧ l < 2 ^ T 3 ∧ sound T c ∧ ∀ i, i < 3 → 1 ≤ pr i ∧ pr i ≤ 9
def sw (c l : Nat) (pr : Nat → Nat) : Nat → Nat := fun i => match i with
  | 0 => c
  | 1 => l
  | i + 2 => pr i
def pkI (c l : Nat) (pr : Nat → Nat) : Nat := c + 256 * l + 65536 * pr 0 + 1048576 * pr 1 + 16777216 * pr 2
def R_txt (σ : Nat → Nat → Int32) : Prop := ∃ n, n ≤ 120 ∧ σ 1 1 = nI n ∧ σ 31 2 = nI n ∧ ∀ j, j < n → σ 32 j = σ 2 j ∧ ∃ a, a < 256 ∧ σ 2 j = nI a
def R_ord (T : Nat → Nat) (σ : Nat → Nat → Int32) : Prop := ∃ n, n ≤ 12 ∧ σ 0 8 = nI n ∧ σ 31 17 = nI n ∧ ∀ j, j < n → ∃ k, k < T 3 ∧ σ 26 j = nI k ∧ σ 40 j = nI k
def R_und (T : Nat → Nat) (σ : Nat → Nat → Int32) : Prop := ∃ n, n ≤ 10 ∧ σ 0 10 = nI n ∧ σ 31 13 = nI n ∧ ∀ j, j < n → ∃ c l pr, Snap T c l pr ∧ σ 27 j = nI (pkI c l pr) ∧ ∀ i, i < 5 → σ 37 (5 * j + i) = nI (sw c l pr i)
def R_img (T : Nat → Nat) (σ : Nat → Nat → Int32) : Prop := ∃ kp, kp < 4 ∧ σ 0 12 = nI kp ∧ ∀ i, i < 2 → σ 39 i = bI (kp.testBit i) ∧ (kp.testBit i = true → ∃ c l pr, Snap T c l pr ∧ σ 28 i = nI (pkI c l pr) ∧ ∀ j, j < 5 → σ 38 (5 * i + j) = nI (sw c l pr j))
def R_see (T : Nat → Nat) (σ : Nat → Nat → Int32) : Prop := ∃ n, n ≤ 6 ∧ σ 0 14 = nI n ∧ σ 31 20 = nI n ∧ ∀ j, j < n → ∃ u b, u < T 0 ∧ b < 2 ∧ σ 29 j = nI (2 * u + b) ∧ σ 41 j = nI u ∧ σ 42 j = nI b
def R_now (T : Nat → Nat) (c l : Nat) (pr : Nat → Nat) (σ : Nat → Nat → Int32) : Prop := Snap T c l pr ∧ σ 0 4 = nI c ∧ σ 0 5 = nI l ∧ (∀ i, i < 3 → σ 25 i = nI (pr i)) ∧ ∀ i, i < 5 → σ 36 i = nI (sw c l pr i)
def np (q : Bool) : Nat := if q then 16 else 7
def R_net (q : Bool) (T : Nat → Nat) (σ : Nat → Nat → Int32) : Prop := WFT T ∧ NetC σ (np q) T ∧ ToldM (σ 33) T
def Rel (q : Bool) (σ : Nat → Nat → Int32) : Prop := ∃ T c l pr, R_net q T σ ∧ R_now T c l pr σ ∧ R_txt σ ∧ R_ord T σ ∧ R_und T σ ∧ R_img T σ ∧ R_see T σ
/-! The references between the cells, once all stand. -/
def g_rof : List (Nat × Nat × Nat) → Nat → Nat → Option Nat
  | [] => fun _ _ => none
  | (p, k, q) :: l => g_ur (g_rof l) p k (some q)
def g_rB : List (Nat × Nat × Nat) := [(0, 15, 30), (0, 13, 29), (0, 11, 28), (0, 9, 27), (0, 7, 26), (0, 6, 25), (0, 3, 16), (16, 13, 24), (16, 12, 23), (16, 11, 22), (16, 10, 21), (16, 9, 20), (16, 8, 19), (16, 7, 18), (16, 6, 17), (0, 2, 7), (7, 13, 15), (7, 12, 14), (7, 11, 13), (7, 10, 12), (7, 9, 11), (7, 8, 10), (7, 7, 9), (7, 6, 8), (0, 1, 3), (3, 8, 6), (3, 7, 5), (3, 6, 4), (0, 0, 1), (1, 0, 2)]
def g_rM : List (Nat × Nat × Nat) := [(31, 24, 46), (31, 23, 45), (31, 22, 44), (31, 21, 43), (31, 19, 42), (31, 18, 41), (31, 16, 40), (31, 15, 39), (31, 14, 38), (31, 12, 37), (31, 11, 36), (31, 10, 35), (31, 9, 34), (31, 8, 33), (31, 1, 32)]
def g_r0 : Nat → Nat → Option Nat := g_rof (g_rM ++ g_rB)
def g_rho (q : Bool) : Nat → Nat → Option Nat := g_ur (g_ur g_r0 0 2 (some (if q then 16 else 7))) 0 3 (some (if q then 7 else 16))
theorem g_ur_same {ρ : Nat → Nat → Option Nat} {p k : Nat} {v : Option Nat} (h : ρ p k = v) : g_ur ρ p k v = ρ := by
  funext a j
  unfold g_ur
  split
  · next e =>
    split
    · next e2 => rw [e, e2, h]
    · rfl
  · rfl
theorem g_ur_twice (ρ : Nat → Nat → Option Nat) (p k : Nat) (v w : Option Nat) : g_ur (g_ur ρ p k v) p k w = g_ur ρ p k w := by
  funext a j
  unfold g_ur
  split
  · split
    · rfl
    · rfl
  · rfl
theorem g_ur_swap (ρ : Nat → Nat → Option Nat) {p k k' : Nat} (hk : k ≠ k') (v w : Option Nat) : g_ur (g_ur ρ p k v) p k' w = g_ur (g_ur ρ p k' w) p k v := by
  funext a j
  unfold g_ur
  split
  · split
    · next e => rw [if_neg (by omega)]
    · rfl
  · rfl
theorem g_rho_0 : g_rho false = g_r0 := by
  have h1 : g_ur g_r0 0 2 (some 7) = g_r0 := g_ur_same rfl
  have h2 : g_ur g_r0 0 3 (some 16) = g_r0 := g_ur_same rfl
  show g_ur (g_ur g_r0 0 2 (some 7)) 0 3 (some 16) = g_r0
  rw [h1, h2]
/-- book() changes the two nets -/
theorem g_rho_swap (q : Bool) : g_ur (g_ur (g_rho q) 0 2 (some (np (!q)))) 0 3 (some (np q)) = g_rho (!q) := by
  unfold g_rho
  rw [g_ur_swap _ (by decide : (3 : Nat) ≠ 2), g_ur_twice, g_ur_twice]
  cases q <;> rfl
/-- one call on either side: the answers are one -/
def Pair (X : gX) (y z : Nat) (A : List Value) (q : Bool) (σ : Nat → Nat → Int32) : Prop :=
  ∃ (v : Int32) (q1 : Bool) (σ1 σ2 : Nat → Nat → Int32), Cl X y (.ref 0 :: A) (47, g_rho q, σ) (some (.int v)) (47, g_rho q1, σ1) ∧ Cl X z (.ref 31 :: A) (47, g_rho q1, σ1) (some (.int v)) (47, g_rho q1, σ2) ∧ Rel q1 σ2
section RN
variable {X : gX} {m pc : Nat} {L : gLo} {st : List Value} {P : Option Value → gS → Prop}
theorem ep_new {n : Nat} {ρ : Nat → Nat → Option Nat} {σ : Nat → Nat → Int32} {i c y : Nat} {z : Int32} (ht : g_at m pc = some (.new i, c, y, z)) (hs : g_shp n = .inr c) (hn : n < 47) (hr : ρ n = fun _ => none) (hσ : σ n = fun _ => 0) (k : EvP X m (pc + 3) L (.ref n :: st) (n + 1, ρ, σ) P) : EvP X m pc L st (n, ρ, σ) P := k.up (fun _ q => ev_i ht ⟨hs, hn, hr, hσ, q⟩)
theorem ep_newi {n len : Nat} {ρ : Nat → Nat → Option Nat} {σ : Nat → Nat → Int32} {x y : Nat} {z : Int32} (ht : g_at m pc = some (.newarray .int, x, y, z)) (hs : g_shp n = .inl (false, len)) (hl : len ≤ 2048) (hn : n < 47) (hσ : σ n = fun _ => 0) (k : EvP X m (pc + 2) L (.ref n :: st) (n + 1, ρ, σ) P) : EvP X m pc L (.int (nI len) :: st) (n, ρ, σ) P := k.up (fun _ q => ev_i ht ⟨Or.inl rfl, by rw [nI_cl (by omega)]; exact hs, nI_pos (by omega), by rw [nI_cl (by omega)]; exact hl, hn, hσ, q⟩)
theorem ep_newz {n len : Nat} {ρ : Nat → Nat → Option Nat} {σ : Nat → Nat → Int32} {x y : Nat} {z : Int32} (ht : g_at m pc = some (.newarray .boolean, x, y, z)) (hs : g_shp n = .inl (true, len)) (hl : len ≤ 2048) (hn : n < 47) (hσ : σ n = fun _ => 0) (k : EvP X m (pc + 2) L (.ref n :: st) (n + 1, ρ, σ) P) : EvP X m pc L (.int (nI len) :: st) (n, ρ, σ) P := k.up (fun _ q => ev_i ht ⟨Or.inr rfl, by rw [nI_cl (by omega)]; exact hs, nI_pos (by omega), by rw [nI_cl (by omega)]; exact hl, hn, hσ, q⟩)
theorem ep_obj {i y a : Nat} {z : Int32} {g : gS} (ht : g_at m pc = some (.invokespecial i, 999, y, z)) (k : EvP X m (pc + 3) L [] g P) : EvP X m pc L [.ref a] g P := k.up (fun _ q => ev_i ht q)
end RN
end
