section
-- ===== PART A: goes FIRST, ahead of the names: the tables' words, and 'selects' of the private methods out of them =====
/-- a private method of a class that the tables say can be made, by its rows of tables_1 -/
def lw_okq (q : MethodName × Nat) : Prop := (q.1.cls ≠ "java/lang/invoke/MethodHandle" ∧ q.1.cls ≠ "java/lang/invoke/VarHandle") ∧ Cond.instantiable q.1.cls q.2 ∈ tables_1 ∧ Cond.privateMethod q.1 ∈ tables_1 ∧ Cond.instanceMethod q.1 ∈ tables_1
theorem lw_p0 : lw_okq (⟨"SwitchBook", "startAnew", "()V"⟩, 16) := ⟨⟨by decide +kernel, by decide +kernel⟩, List.mem_of_getElem? (i := 10) (by decide +kernel), List.mem_of_getElem? (i := 153) (by decide +kernel), List.mem_of_getElem? (i := 154) (by decide +kernel)⟩
theorem lw_p1 : lw_okq (⟨"SwitchBook", "setPrices", "(III)V"⟩, 16) := ⟨⟨by decide +kernel, by decide +kernel⟩, List.mem_of_getElem? (i := 10) (by decide +kernel), List.mem_of_getElem? (i := 157) (by decide +kernel), List.mem_of_getElem? (i := 158) (by decide +kernel)⟩
theorem lw_p2 : lw_okq (⟨"SwitchBook$Draft", "forgetAll", "()V"⟩, 9) := ⟨⟨by decide +kernel, by decide +kernel⟩, List.mem_of_getElem? (i := 49) (by decide +kernel), List.mem_of_getElem? (i := 226) (by decide +kernel), List.mem_of_getElem? (i := 227) (by decide +kernel)⟩
theorem lw_p3 : lw_okq (⟨"SwitchBook$Text", "readNumber", "()V"⟩, 6) := ⟨⟨by decide +kernel, by decide +kernel⟩, List.mem_of_getElem? (i := 18) (by decide +kernel), List.mem_of_getElem? (i := 238) (by decide +kernel), List.mem_of_getElem? (i := 239) (by decide +kernel)⟩
theorem lw_p4 : lw_okq (⟨"SwitchBook$Draft", "readItem", "(LSwitchBook$Text;I)Z"⟩, 9) := ⟨⟨by decide +kernel, by decide +kernel⟩, List.mem_of_getElem? (i := 49) (by decide +kernel), List.mem_of_getElem? (i := 245) (by decide +kernel), List.mem_of_getElem? (i := 246) (by decide +kernel)⟩
theorem lw_p5 : lw_okq (⟨"SwitchBook$Draft", "readNodes", "(LSwitchBook$Text;)Z"⟩, 9) := ⟨⟨by decide +kernel, by decide +kernel⟩, List.mem_of_getElem? (i := 49) (by decide +kernel), List.mem_of_getElem? (i := 249) (by decide +kernel), List.mem_of_getElem? (i := 250) (by decide +kernel)⟩
theorem lw_p6 : lw_okq (⟨"SwitchBook$Draft", "readSource", "(LSwitchBook$Text;)Z"⟩, 9) := ⟨⟨by decide +kernel, by decide +kernel⟩, List.mem_of_getElem? (i := 49) (by decide +kernel), List.mem_of_getElem? (i := 261) (by decide +kernel), List.mem_of_getElem? (i := 262) (by decide +kernel)⟩
theorem lw_p7 : lw_okq (⟨"SwitchBook$Draft", "allNodes", "()I"⟩, 9) := ⟨⟨by decide +kernel, by decide +kernel⟩, List.mem_of_getElem? (i := 49) (by decide +kernel), List.mem_of_getElem? (i := 265) (by decide +kernel), List.mem_of_getElem? (i := 266) (by decide +kernel)⟩
theorem lw_p8 : lw_okq (⟨"SwitchBook$Draft", "readLoad", "(LSwitchBook$Text;)Z"⟩, 9) := ⟨⟨by decide +kernel, by decide +kernel⟩, List.mem_of_getElem? (i := 49) (by decide +kernel), List.mem_of_getElem? (i := 272) (by decide +kernel), List.mem_of_getElem? (i := 273) (by decide +kernel)⟩
theorem lw_p9 : lw_okq (⟨"SwitchBook$Draft", "readSwitch", "(LSwitchBook$Text;I)Z"⟩, 9) := ⟨⟨by decide +kernel, by decide +kernel⟩, List.mem_of_getElem? (i := 49) (by decide +kernel), List.mem_of_getElem? (i := 276) (by decide +kernel), List.mem_of_getElem? (i := 277) (by decide +kernel)⟩
theorem lw_p10 : lw_okq (⟨"SwitchBook$Draft", "readClosed", "(LSwitchBook$Text;)Z"⟩, 9) := ⟨⟨by decide +kernel, by decide +kernel⟩, List.mem_of_getElem? (i := 49) (by decide +kernel), List.mem_of_getElem? (i := 287) (by decide +kernel), List.mem_of_getElem? (i := 288) (by decide +kernel)⟩
theorem lw_p11 : lw_okq (⟨"SwitchBook$Draft", "readLocked", "(LSwitchBook$Text;)Z"⟩, 9) := ⟨⟨by decide +kernel, by decide +kernel⟩, List.mem_of_getElem? (i := 49) (by decide +kernel), List.mem_of_getElem? (i := 291) (by decide +kernel), List.mem_of_getElem? (i := 292) (by decide +kernel)⟩
theorem lw_p12 : lw_okq (⟨"SwitchBook$Net", "number", "(LSwitchBook$Draft;I)V"⟩, 14) := ⟨⟨by decide +kernel, by decide +kernel⟩, List.mem_of_getElem? (i := 92) (by decide +kernel), List.mem_of_getElem? (i := 304) (by decide +kernel), List.mem_of_getElem? (i := 305) (by decide +kernel)⟩
theorem lw_p13 : lw_okq (⟨"SwitchBook$Net", "measureStates", "()V"⟩, 14) := ⟨⟨by decide +kernel, by decide +kernel⟩, List.mem_of_getElem? (i := 92) (by decide +kernel), List.mem_of_getElem? (i := 308) (by decide +kernel), List.mem_of_getElem? (i := 309) (by decide +kernel)⟩
theorem lw_p14 : lw_okq (⟨"SwitchBook$Net", "formParts", "(I)V"⟩, 14) := ⟨⟨by decide +kernel, by decide +kernel⟩, List.mem_of_getElem? (i := 92) (by decide +kernel), List.mem_of_getElem? (i := 319) (by decide +kernel), List.mem_of_getElem? (i := 320) (by decide +kernel)⟩
theorem lw_p15 : lw_okq (⟨"SwitchBook$Net", "join", "(I)V"⟩, 14) := ⟨⟨by decide +kernel, by decide +kernel⟩, List.mem_of_getElem? (i := 92) (by decide +kernel), List.mem_of_getElem? (i := 323) (by decide +kernel), List.mem_of_getElem? (i := 324) (by decide +kernel)⟩
def lw_privs_1 : List (MethodName × Nat) := [(⟨"SwitchBook", "startAnew", "()V"⟩, 16), (⟨"SwitchBook", "setPrices", "(III)V"⟩, 16), (⟨"SwitchBook$Draft", "forgetAll", "()V"⟩, 9), (⟨"SwitchBook$Text", "readNumber", "()V"⟩, 6), (⟨"SwitchBook$Draft", "readItem", "(LSwitchBook$Text;I)Z"⟩, 9), (⟨"SwitchBook$Draft", "readNodes", "(LSwitchBook$Text;)Z"⟩, 9), (⟨"SwitchBook$Draft", "readSource", "(LSwitchBook$Text;)Z"⟩, 9), (⟨"SwitchBook$Draft", "allNodes", "()I"⟩, 9), (⟨"SwitchBook$Draft", "readLoad", "(LSwitchBook$Text;)Z"⟩, 9), (⟨"SwitchBook$Draft", "readSwitch", "(LSwitchBook$Text;I)Z"⟩, 9), (⟨"SwitchBook$Draft", "readClosed", "(LSwitchBook$Text;)Z"⟩, 9), (⟨"SwitchBook$Draft", "readLocked", "(LSwitchBook$Text;)Z"⟩, 9), (⟨"SwitchBook$Net", "number", "(LSwitchBook$Draft;I)V"⟩, 14), (⟨"SwitchBook$Net", "measureStates", "()V"⟩, 14), (⟨"SwitchBook$Net", "formParts", "(I)V"⟩, 14), (⟨"SwitchBook$Net", "join", "(I)V"⟩, 14)]
theorem lw_r1 : ∀ q ∈ lw_privs_1, lw_okq q := List.forall_mem_cons.mpr ⟨lw_p0, List.forall_mem_cons.mpr ⟨lw_p1, List.forall_mem_cons.mpr ⟨lw_p2, List.forall_mem_cons.mpr ⟨lw_p3, List.forall_mem_cons.mpr ⟨lw_p4, List.forall_mem_cons.mpr ⟨lw_p5, List.forall_mem_cons.mpr ⟨lw_p6, List.forall_mem_cons.mpr ⟨lw_p7, List.forall_mem_cons.mpr ⟨lw_p8, List.forall_mem_cons.mpr ⟨lw_p9, List.forall_mem_cons.mpr ⟨lw_p10, List.forall_mem_cons.mpr ⟨lw_p11, List.forall_mem_cons.mpr ⟨lw_p12, List.forall_mem_cons.mpr ⟨lw_p13, List.forall_mem_cons.mpr ⟨lw_p14, List.forall_mem_cons.mpr ⟨lw_p15, fun _ h => absurd h List.not_mem_nil⟩⟩⟩⟩⟩⟩⟩⟩⟩⟩⟩⟩⟩⟩⟩⟩
theorem lw_p16 : lw_okq (⟨"SwitchBook$Net", "partsWith", "(I)I"⟩, 14) := ⟨⟨by decide +kernel, by decide +kernel⟩, List.mem_of_getElem? (i := 92) (by decide +kernel), List.mem_of_getElem? (i := 327) (by decide +kernel), List.mem_of_getElem? (i := 328) (by decide +kernel)⟩
theorem lw_p17 : lw_okq (⟨"SwitchBook$Net", "nodesOfClosedEarths", "(I)I"⟩, 14) := ⟨⟨by decide +kernel, by decide +kernel⟩, List.mem_of_getElem? (i := 92) (by decide +kernel), List.mem_of_getElem? (i := 331) (by decide +kernel), List.mem_of_getElem? (i := 332) (by decide +kernel)⟩
theorem lw_p18 : lw_okq (⟨"SwitchBook$Net", "holdIsolators", "(II)V"⟩, 14) := ⟨⟨by decide +kernel, by decide +kernel⟩, List.mem_of_getElem? (i := 92) (by decide +kernel), List.mem_of_getElem? (i := 335) (by decide +kernel), List.mem_of_getElem? (i := 336) (by decide +kernel)⟩
theorem lw_p19 : lw_okq (⟨"SwitchBook$Net", "isUnderLoad", "(III)Z"⟩, 14) := ⟨⟨by decide +kernel, by decide +kernel⟩, List.mem_of_getElem? (i := 92) (by decide +kernel), List.mem_of_getElem? (i := 339) (by decide +kernel), List.mem_of_getElem? (i := 340) (by decide +kernel)⟩
theorem lw_p20 : lw_okq (⟨"SwitchBook", "isSwitch", "(I)Z"⟩, 16) := ⟨⟨by decide +kernel, by decide +kernel⟩, List.mem_of_getElem? (i := 10) (by decide +kernel), List.mem_of_getElem? (i := 351) (by decide +kernel), List.mem_of_getElem? (i := 352) (by decide +kernel)⟩
theorem lw_p21 : lw_okq (⟨"SwitchBook", "whyNot", "(I)I"⟩, 16) := ⟨⟨by decide +kernel, by decide +kernel⟩, List.mem_of_getElem? (i := 10) (by decide +kernel), List.mem_of_getElem? (i := 356) (by decide +kernel), List.mem_of_getElem? (i := 357) (by decide +kernel)⟩
theorem lw_p22 : lw_okq (⟨"SwitchBook", "isNode", "(I)Z"⟩, 16) := ⟨⟨by decide +kernel, by decide +kernel⟩, List.mem_of_getElem? (i := 10) (by decide +kernel), List.mem_of_getElem? (i := 374) (by decide +kernel), List.mem_of_getElem? (i := 375) (by decide +kernel)⟩
theorem lw_p23 : lw_okq (⟨"SwitchBook", "lawfulMoves", "()I"⟩, 16) := ⟨⟨by decide +kernel, by decide +kernel⟩, List.mem_of_getElem? (i := 10) (by decide +kernel), List.mem_of_getElem? (i := 386) (by decide +kernel), List.mem_of_getElem? (i := 387) (by decide +kernel)⟩
theorem lw_p24 : lw_okq (⟨"SwitchBook", "states", "()I"⟩, 16) := ⟨⟨by decide +kernel, by decide +kernel⟩, List.mem_of_getElem? (i := 10) (by decide +kernel), List.mem_of_getElem? (i := 395) (by decide +kernel), List.mem_of_getElem? (i := 396) (by decide +kernel)⟩
theorem lw_p25 : lw_okq (⟨"SwitchBook", "aim", "(IIII)V"⟩, 16) := ⟨⟨by decide +kernel, by decide +kernel⟩, List.mem_of_getElem? (i := 10) (by decide +kernel), List.mem_of_getElem? (i := 400) (by decide +kernel), List.mem_of_getElem? (i := 401) (by decide +kernel)⟩
theorem lw_p26 : lw_okq (⟨"SwitchBook", "spread", "()V"⟩, 16) := ⟨⟨by decide +kernel, by decide +kernel⟩, List.mem_of_getElem? (i := 10) (by decide +kernel), List.mem_of_getElem? (i := 404) (by decide +kernel), List.mem_of_getElem? (i := 405) (by decide +kernel)⟩
theorem lw_p27 : lw_okq (⟨"SwitchBook", "spreadFrom", "(I)I"⟩, 16) := ⟨⟨by decide +kernel, by decide +kernel⟩, List.mem_of_getElem? (i := 10) (by decide +kernel), List.mem_of_getElem? (i := 408) (by decide +kernel), List.mem_of_getElem? (i := 409) (by decide +kernel)⟩
theorem lw_p28 : lw_okq (⟨"SwitchBook", "far", "()I"⟩, 16) := ⟨⟨by decide +kernel, by decide +kernel⟩, List.mem_of_getElem? (i := 10) (by decide +kernel), List.mem_of_getElem? (i := 415) (by decide +kernel), List.mem_of_getElem? (i := 416) (by decide +kernel)⟩
theorem lw_p29 : lw_okq (⟨"SwitchBook", "remember", "()V"⟩, 16) := ⟨⟨by decide +kernel, by decide +kernel⟩, List.mem_of_getElem? (i := 10) (by decide +kernel), List.mem_of_getElem? (i := 423) (by decide +kernel), List.mem_of_getElem? (i := 424) (by decide +kernel)⟩
theorem lw_p30 : lw_okq (⟨"SwitchBook", "standing", "()I"⟩, 16) := ⟨⟨by decide +kernel, by decide +kernel⟩, List.mem_of_getElem? (i := 10) (by decide +kernel), List.mem_of_getElem? (i := 427) (by decide +kernel), List.mem_of_getElem? (i := 428) (by decide +kernel)⟩
theorem lw_p31 : lw_okq (⟨"SwitchBook", "restore", "(I)V"⟩, 16) := ⟨⟨by decide +kernel, by decide +kernel⟩, List.mem_of_getElem? (i := 10) (by decide +kernel), List.mem_of_getElem? (i := 458) (by decide +kernel), List.mem_of_getElem? (i := 459) (by decide +kernel)⟩
def lw_privs_2 : List (MethodName × Nat) := [(⟨"SwitchBook$Net", "partsWith", "(I)I"⟩, 14), (⟨"SwitchBook$Net", "nodesOfClosedEarths", "(I)I"⟩, 14), (⟨"SwitchBook$Net", "holdIsolators", "(II)V"⟩, 14), (⟨"SwitchBook$Net", "isUnderLoad", "(III)Z"⟩, 14), (⟨"SwitchBook", "isSwitch", "(I)Z"⟩, 16), (⟨"SwitchBook", "whyNot", "(I)I"⟩, 16), (⟨"SwitchBook", "isNode", "(I)Z"⟩, 16), (⟨"SwitchBook", "lawfulMoves", "()I"⟩, 16), (⟨"SwitchBook", "states", "()I"⟩, 16), (⟨"SwitchBook", "aim", "(IIII)V"⟩, 16), (⟨"SwitchBook", "spread", "()V"⟩, 16), (⟨"SwitchBook", "spreadFrom", "(I)I"⟩, 16), (⟨"SwitchBook", "far", "()I"⟩, 16), (⟨"SwitchBook", "remember", "()V"⟩, 16), (⟨"SwitchBook", "standing", "()I"⟩, 16), (⟨"SwitchBook", "restore", "(I)V"⟩, 16)]
theorem lw_r2 : ∀ q ∈ lw_privs_2, lw_okq q := List.forall_mem_cons.mpr ⟨lw_p16, List.forall_mem_cons.mpr ⟨lw_p17, List.forall_mem_cons.mpr ⟨lw_p18, List.forall_mem_cons.mpr ⟨lw_p19, List.forall_mem_cons.mpr ⟨lw_p20, List.forall_mem_cons.mpr ⟨lw_p21, List.forall_mem_cons.mpr ⟨lw_p22, List.forall_mem_cons.mpr ⟨lw_p23, List.forall_mem_cons.mpr ⟨lw_p24, List.forall_mem_cons.mpr ⟨lw_p25, List.forall_mem_cons.mpr ⟨lw_p26, List.forall_mem_cons.mpr ⟨lw_p27, List.forall_mem_cons.mpr ⟨lw_p28, List.forall_mem_cons.mpr ⟨lw_p29, List.forall_mem_cons.mpr ⟨lw_p30, List.forall_mem_cons.mpr ⟨lw_p31, fun _ h => absurd h List.not_mem_nil⟩⟩⟩⟩⟩⟩⟩⟩⟩⟩⟩⟩⟩⟩⟩⟩
theorem lw_p32 : lw_okq (⟨"SwitchBook", "cheapest", "(I)I"⟩, 16) := ⟨⟨by decide +kernel, by decide +kernel⟩, List.mem_of_getElem? (i := 10) (by decide +kernel), List.mem_of_getElem? (i := 466) (by decide +kernel), List.mem_of_getElem? (i := 467) (by decide +kernel)⟩
theorem lw_p33 : lw_okq (⟨"SwitchBook", "stepFrom", "(I)I"⟩, 16) := ⟨⟨by decide +kernel, by decide +kernel⟩, List.mem_of_getElem? (i := 10) (by decide +kernel), List.mem_of_getElem? (i := 470) (by decide +kernel), List.mem_of_getElem? (i := 471) (by decide +kernel)⟩
theorem lw_p34 : lw_okq (⟨"SwitchBook", "waysToStayLive", "(II)I"⟩, 16) := ⟨⟨by decide +kernel, by decide +kernel⟩, List.mem_of_getElem? (i := 10) (by decide +kernel), List.mem_of_getElem? (i := 494) (by decide +kernel), List.mem_of_getElem? (i := 495) (by decide +kernel)⟩
theorem lw_p35 : lw_okq (⟨"SwitchBook", "explainsAllSeen", "(I)Z"⟩, 16) := ⟨⟨by decide +kernel, by decide +kernel⟩, List.mem_of_getElem? (i := 10) (by decide +kernel), List.mem_of_getElem? (i := 513) (by decide +kernel), List.mem_of_getElem? (i := 514) (by decide +kernel)⟩
theorem lw_p36 : lw_okq (⟨"SwitchBook", "suspectsThatLight", "(II)I"⟩, 16) := ⟨⟨by decide +kernel, by decide +kernel⟩, List.mem_of_getElem? (i := 10) (by decide +kernel), List.mem_of_getElem? (i := 522) (by decide +kernel), List.mem_of_getElem? (i := 523) (by decide +kernel)⟩
theorem lw_p37 : lw_okq (⟨"SwitchBookModel", "begins", "()V"⟩, 25) := ⟨⟨by decide +kernel, by decide +kernel⟩, List.mem_of_getElem? (i := 541) (by decide +kernel), List.mem_of_getElem? (i := 547) (by decide +kernel), List.mem_of_getElem? (i := 548) (by decide +kernel)⟩
theorem lw_p38 : lw_okq (⟨"SwitchBookModel", "settles", "()V"⟩, 25) := ⟨⟨by decide +kernel, by decide +kernel⟩, List.mem_of_getElem? (i := 541) (by decide +kernel), List.mem_of_getElem? (i := 551) (by decide +kernel), List.mem_of_getElem? (i := 552) (by decide +kernel)⟩
theorem lw_p39 : lw_okq (⟨"SwitchBookModel", "advances", "()V"⟩, 25) := ⟨⟨by decide +kernel, by decide +kernel⟩, List.mem_of_getElem? (i := 541) (by decide +kernel), List.mem_of_getElem? (i := 647) (by decide +kernel), List.mem_of_getElem? (i := 648) (by decide +kernel)⟩
theorem lw_p40 : lw_okq (⟨"SwitchBookModel", "letterAt", "(I)I"⟩, 25) := ⟨⟨by decide +kernel, by decide +kernel⟩, List.mem_of_getElem? (i := 541) (by decide +kernel), List.mem_of_getElem? (i := 651) (by decide +kernel), List.mem_of_getElem? (i := 652) (by decide +kernel)⟩
theorem lw_p41 : lw_okq (⟨"SwitchBookModel", "isWell", "()Z"⟩, 25) := ⟨⟨by decide +kernel, by decide +kernel⟩, List.mem_of_getElem? (i := 541) (by decide +kernel), List.mem_of_getElem? (i := 655) (by decide +kernel), List.mem_of_getElem? (i := 656) (by decide +kernel)⟩
theorem lw_p42 : lw_okq (⟨"SwitchBookModel", "mayBegin", "(I)Z"⟩, 25) := ⟨⟨by decide +kernel, by decide +kernel⟩, List.mem_of_getElem? (i := 541) (by decide +kernel), List.mem_of_getElem? (i := 659) (by decide +kernel), List.mem_of_getElem? (i := 660) (by decide +kernel)⟩
theorem lw_p43 : lw_okq (⟨"SwitchBookModel", "takes", "(Z)I"⟩, 25) := ⟨⟨by decide +kernel, by decide +kernel⟩, List.mem_of_getElem? (i := 541) (by decide +kernel), List.mem_of_getElem? (i := 663) (by decide +kernel), List.mem_of_getElem? (i := 664) (by decide +kernel)⟩
theorem lw_p44 : lw_okq (⟨"SwitchBookModel", "readsItem", "(I)V"⟩, 25) := ⟨⟨by decide +kernel, by decide +kernel⟩, List.mem_of_getElem? (i := 541) (by decide +kernel), List.mem_of_getElem? (i := 667) (by decide +kernel), List.mem_of_getElem? (i := 668) (by decide +kernel)⟩
theorem lw_p45 : lw_okq (⟨"SwitchBookModel", "isNumber", "(II)Z"⟩, 25) := ⟨⟨by decide +kernel, by decide +kernel⟩, List.mem_of_getElem? (i := 541) (by decide +kernel), List.mem_of_getElem? (i := 671) (by decide +kernel), List.mem_of_getElem? (i := 672) (by decide +kernel)⟩
theorem lw_p46 : lw_okq (⟨"SwitchBookModel", "gets", "(IZ)I"⟩, 25) := ⟨⟨by decide +kernel, by decide +kernel⟩, List.mem_of_getElem? (i := 541) (by decide +kernel), List.mem_of_getElem? (i := 675) (by decide +kernel), List.mem_of_getElem? (i := 676) (by decide +kernel)⟩
theorem lw_p47 : lw_okq (⟨"SwitchBookModel", "readsSwitch", "(I)V"⟩, 25) := ⟨⟨by decide +kernel, by decide +kernel⟩, List.mem_of_getElem? (i := 541) (by decide +kernel), List.mem_of_getElem? (i := 685) (by decide +kernel), List.mem_of_getElem? (i := 686) (by decide +kernel)⟩
def lw_privs_3 : List (MethodName × Nat) := [(⟨"SwitchBook", "cheapest", "(I)I"⟩, 16), (⟨"SwitchBook", "stepFrom", "(I)I"⟩, 16), (⟨"SwitchBook", "waysToStayLive", "(II)I"⟩, 16), (⟨"SwitchBook", "explainsAllSeen", "(I)Z"⟩, 16), (⟨"SwitchBook", "suspectsThatLight", "(II)I"⟩, 16), (⟨"SwitchBookModel", "begins", "()V"⟩, 25), (⟨"SwitchBookModel", "settles", "()V"⟩, 25), (⟨"SwitchBookModel", "advances", "()V"⟩, 25), (⟨"SwitchBookModel", "letterAt", "(I)I"⟩, 25), (⟨"SwitchBookModel", "isWell", "()Z"⟩, 25), (⟨"SwitchBookModel", "mayBegin", "(I)Z"⟩, 25), (⟨"SwitchBookModel", "takes", "(Z)I"⟩, 25), (⟨"SwitchBookModel", "readsItem", "(I)V"⟩, 25), (⟨"SwitchBookModel", "isNumber", "(II)Z"⟩, 25), (⟨"SwitchBookModel", "gets", "(IZ)I"⟩, 25), (⟨"SwitchBookModel", "readsSwitch", "(I)V"⟩, 25)]
theorem lw_r3 : ∀ q ∈ lw_privs_3, lw_okq q := List.forall_mem_cons.mpr ⟨lw_p32, List.forall_mem_cons.mpr ⟨lw_p33, List.forall_mem_cons.mpr ⟨lw_p34, List.forall_mem_cons.mpr ⟨lw_p35, List.forall_mem_cons.mpr ⟨lw_p36, List.forall_mem_cons.mpr ⟨lw_p37, List.forall_mem_cons.mpr ⟨lw_p38, List.forall_mem_cons.mpr ⟨lw_p39, List.forall_mem_cons.mpr ⟨lw_p40, List.forall_mem_cons.mpr ⟨lw_p41, List.forall_mem_cons.mpr ⟨lw_p42, List.forall_mem_cons.mpr ⟨lw_p43, List.forall_mem_cons.mpr ⟨lw_p44, List.forall_mem_cons.mpr ⟨lw_p45, List.forall_mem_cons.mpr ⟨lw_p46, List.forall_mem_cons.mpr ⟨lw_p47, fun _ h => absurd h List.not_mem_nil⟩⟩⟩⟩⟩⟩⟩⟩⟩⟩⟩⟩⟩⟩⟩⟩
theorem lw_p48 : lw_okq (⟨"SwitchBookModel", "sorts", "()V"⟩, 25) := ⟨⟨by decide +kernel, by decide +kernel⟩, List.mem_of_getElem? (i := 541) (by decide +kernel), List.mem_of_getElem? (i := 689) (by decide +kernel), List.mem_of_getElem? (i := 690) (by decide +kernel)⟩
theorem lw_p49 : lw_okq (⟨"SwitchBookModel", "changes", "(I)V"⟩, 25) := ⟨⟨by decide +kernel, by decide +kernel⟩, List.mem_of_getElem? (i := 541) (by decide +kernel), List.mem_of_getElem? (i := 693) (by decide +kernel), List.mem_of_getElem? (i := 694) (by decide +kernel)⟩
theorem lw_p50 : lw_okq (⟨"SwitchBookModel", "liveBy", "([II)I"⟩, 25) := ⟨⟨by decide +kernel, by decide +kernel⟩, List.mem_of_getElem? (i := 541) (by decide +kernel), List.mem_of_getElem? (i := 697) (by decide +kernel), List.mem_of_getElem? (i := 698) (by decide +kernel)⟩
theorem lw_p51 : lw_okq (⟨"SwitchBookModel", "partsBy", "([II)V"⟩, 25) := ⟨⟨by decide +kernel, by decide +kernel⟩, List.mem_of_getElem? (i := 541) (by decide +kernel), List.mem_of_getElem? (i := 701) (by decide +kernel), List.mem_of_getElem? (i := 702) (by decide +kernel)⟩
theorem lw_p52 : lw_okq (⟨"SwitchBookModel", "spread", "([II)I"⟩, 25) := ⟨⟨by decide +kernel, by decide +kernel⟩, List.mem_of_getElem? (i := 541) (by decide +kernel), List.mem_of_getElem? (i := 705) (by decide +kernel), List.mem_of_getElem? (i := 706) (by decide +kernel)⟩
theorem lw_p53 : lw_okq (⟨"SwitchBookModel", "earthedBy", "([II)I"⟩, 25) := ⟨⟨by decide +kernel, by decide +kernel⟩, List.mem_of_getElem? (i := 541) (by decide +kernel), List.mem_of_getElem? (i := 709) (by decide +kernel), List.mem_of_getElem? (i := 710) (by decide +kernel)⟩
theorem lw_p54 : lw_okq (⟨"SwitchBookModel", "isSwitch", "(I)Z"⟩, 25) := ⟨⟨by decide +kernel, by decide +kernel⟩, List.mem_of_getElem? (i := 541) (by decide +kernel), List.mem_of_getElem? (i := 717) (by decide +kernel), List.mem_of_getElem? (i := 718) (by decide +kernel)⟩
theorem lw_p55 : lw_okq (⟨"SwitchBookModel", "whyNot", "(II)I"⟩, 25) := ⟨⟨by decide +kernel, by decide +kernel⟩, List.mem_of_getElem? (i := 541) (by decide +kernel), List.mem_of_getElem? (i := 721) (by decide +kernel), List.mem_of_getElem? (i := 722) (by decide +kernel)⟩
theorem lw_p56 : lw_okq (⟨"SwitchBookModel", "isLoaded", "(I)Z"⟩, 25) := ⟨⟨by decide +kernel, by decide +kernel⟩, List.mem_of_getElem? (i := 541) (by decide +kernel), List.mem_of_getElem? (i := 725) (by decide +kernel), List.mem_of_getElem? (i := 726) (by decide +kernel)⟩
theorem lw_p57 : lw_okq (⟨"SwitchBookModel", "isNode", "(I)Z"⟩, 25) := ⟨⟨by decide +kernel, by decide +kernel⟩, List.mem_of_getElem? (i := 541) (by decide +kernel), List.mem_of_getElem? (i := 737) (by decide +kernel), List.mem_of_getElem? (i := 738) (by decide +kernel)⟩
theorem lw_p58 : lw_okq (⟨"SwitchBookModel", "allLawful", "()I"⟩, 25) := ⟨⟨by decide +kernel, by decide +kernel⟩, List.mem_of_getElem? (i := 541) (by decide +kernel), List.mem_of_getElem? (i := 745) (by decide +kernel), List.mem_of_getElem? (i := 746) (by decide +kernel)⟩
theorem lw_p59 : lw_okq (⟨"SwitchBookModel", "parts", "()I"⟩, 25) := ⟨⟨by decide +kernel, by decide +kernel⟩, List.mem_of_getElem? (i := 541) (by decide +kernel), List.mem_of_getElem? (i := 749) (by decide +kernel), List.mem_of_getElem? (i := 750) (by decide +kernel)⟩
theorem lw_p60 : lw_okq (⟨"SwitchBookModel", "reached", "(Z)I"⟩, 25) := ⟨⟨by decide +kernel, by decide +kernel⟩, List.mem_of_getElem? (i := 541) (by decide +kernel), List.mem_of_getElem? (i := 753) (by decide +kernel), List.mem_of_getElem? (i := 754) (by decide +kernel)⟩
theorem lw_p61 : lw_okq (⟨"SwitchBookModel", "laws", "()V"⟩, 25) := ⟨⟨by decide +kernel, by decide +kernel⟩, List.mem_of_getElem? (i := 541) (by decide +kernel), List.mem_of_getElem? (i := 757) (by decide +kernel), List.mem_of_getElem? (i := 758) (by decide +kernel)⟩
theorem lw_p62 : lw_okq (⟨"SwitchBookModel", "states", "()I"⟩, 25) := ⟨⟨by decide +kernel, by decide +kernel⟩, List.mem_of_getElem? (i := 541) (by decide +kernel), List.mem_of_getElem? (i := 761) (by decide +kernel), List.mem_of_getElem? (i := 762) (by decide +kernel)⟩
theorem lw_p63 : lw_okq (⟨"SwitchBookModel", "priceOf", "(I)I"⟩, 25) := ⟨⟨by decide +kernel, by decide +kernel⟩, List.mem_of_getElem? (i := 541) (by decide +kernel), List.mem_of_getElem? (i := 766) (by decide +kernel), List.mem_of_getElem? (i := 767) (by decide +kernel)⟩
def lw_privs_4 : List (MethodName × Nat) := [(⟨"SwitchBookModel", "sorts", "()V"⟩, 25), (⟨"SwitchBookModel", "changes", "(I)V"⟩, 25), (⟨"SwitchBookModel", "liveBy", "([II)I"⟩, 25), (⟨"SwitchBookModel", "partsBy", "([II)V"⟩, 25), (⟨"SwitchBookModel", "spread", "([II)I"⟩, 25), (⟨"SwitchBookModel", "earthedBy", "([II)I"⟩, 25), (⟨"SwitchBookModel", "isSwitch", "(I)Z"⟩, 25), (⟨"SwitchBookModel", "whyNot", "(II)I"⟩, 25), (⟨"SwitchBookModel", "isLoaded", "(I)Z"⟩, 25), (⟨"SwitchBookModel", "isNode", "(I)Z"⟩, 25), (⟨"SwitchBookModel", "allLawful", "()I"⟩, 25), (⟨"SwitchBookModel", "parts", "()I"⟩, 25), (⟨"SwitchBookModel", "reached", "(Z)I"⟩, 25), (⟨"SwitchBookModel", "laws", "()V"⟩, 25), (⟨"SwitchBookModel", "states", "()I"⟩, 25), (⟨"SwitchBookModel", "priceOf", "(I)I"⟩, 25)]
theorem lw_r4 : ∀ q ∈ lw_privs_4, lw_okq q := List.forall_mem_cons.mpr ⟨lw_p48, List.forall_mem_cons.mpr ⟨lw_p49, List.forall_mem_cons.mpr ⟨lw_p50, List.forall_mem_cons.mpr ⟨lw_p51, List.forall_mem_cons.mpr ⟨lw_p52, List.forall_mem_cons.mpr ⟨lw_p53, List.forall_mem_cons.mpr ⟨lw_p54, List.forall_mem_cons.mpr ⟨lw_p55, List.forall_mem_cons.mpr ⟨lw_p56, List.forall_mem_cons.mpr ⟨lw_p57, List.forall_mem_cons.mpr ⟨lw_p58, List.forall_mem_cons.mpr ⟨lw_p59, List.forall_mem_cons.mpr ⟨lw_p60, List.forall_mem_cons.mpr ⟨lw_p61, List.forall_mem_cons.mpr ⟨lw_p62, List.forall_mem_cons.mpr ⟨lw_p63, fun _ h => absurd h List.not_mem_nil⟩⟩⟩⟩⟩⟩⟩⟩⟩⟩⟩⟩⟩⟩⟩⟩
theorem lw_p64 : lw_okq (⟨"SwitchBookModel", "notes", "()V"⟩, 25) := ⟨⟨by decide +kernel, by decide +kernel⟩, List.mem_of_getElem? (i := 541) (by decide +kernel), List.mem_of_getElem? (i := 774) (by decide +kernel), List.mem_of_getElem? (i := 775) (by decide +kernel)⟩
theorem lw_p65 : lw_okq (⟨"SwitchBookModel", "tells", "(I)I"⟩, 25) := ⟨⟨by decide +kernel, by decide +kernel⟩, List.mem_of_getElem? (i := 541) (by decide +kernel), List.mem_of_getElem? (i := 806) (by decide +kernel), List.mem_of_getElem? (i := 807) (by decide +kernel)⟩
theorem lw_p66 : lw_okq (⟨"SwitchBookModel", "reckons", "()V"⟩, 25) := ⟨⟨by decide +kernel, by decide +kernel⟩, List.mem_of_getElem? (i := 541) (by decide +kernel), List.mem_of_getElem? (i := 810) (by decide +kernel), List.mem_of_getElem? (i := 811) (by decide +kernel)⟩
theorem lw_p67 : lw_okq (⟨"SwitchBookModel", "unseenSet", "()I"⟩, 25) := ⟨⟨by decide +kernel, by decide +kernel⟩, List.mem_of_getElem? (i := 541) (by decide +kernel), List.mem_of_getElem? (i := 841) (by decide +kernel), List.mem_of_getElem? (i := 842) (by decide +kernel)⟩
def lw_privs_5 : List (MethodName × Nat) := [(⟨"SwitchBookModel", "notes", "()V"⟩, 25), (⟨"SwitchBookModel", "tells", "(I)I"⟩, 25), (⟨"SwitchBookModel", "reckons", "()V"⟩, 25), (⟨"SwitchBookModel", "unseenSet", "()I"⟩, 25)]
theorem lw_r5 : ∀ q ∈ lw_privs_5, lw_okq q := List.forall_mem_cons.mpr ⟨lw_p64, List.forall_mem_cons.mpr ⟨lw_p65, List.forall_mem_cons.mpr ⟨lw_p66, List.forall_mem_cons.mpr ⟨lw_p67, fun _ h => absurd h List.not_mem_nil⟩⟩⟩⟩
def lw_privs : List (MethodName × Nat) := lw_privs_1 ++ (lw_privs_2 ++ (lw_privs_3 ++ (lw_privs_4 ++ (lw_privs_5))))
def lw_tbl : List Cond := k2_sels lw_privs ++ tables_1
theorem lw_privs_ok : ∀ q ∈ lw_privs, lw_okq q := by
  show ∀ q ∈ lw_privs_1 ++ (lw_privs_2 ++ (lw_privs_3 ++ (lw_privs_4 ++ (lw_privs_5)))), lw_okq q
  exact List.forall_mem_append.mpr ⟨lw_r1, List.forall_mem_append.mpr ⟨lw_r2, List.forall_mem_append.mpr ⟨lw_r3, List.forall_mem_append.mpr ⟨lw_r4, lw_r5⟩⟩⟩⟩
/-! ===== BEGIN words of one list among another's, by their places ===== -/
theorem goodIn_r {big : List Cond} (ws : List Cond) (ps : List Nat) (hp : ws = ps.filterMap (fun i => big[i]?)) (h : ws.all goodWord = true) : GoodIn big ws := by
  intro w hw
  have h1 := List.all_eq_true.mp h w hw
  rw [hp] at hw
  obtain ⟨i, -, hi⟩ := List.mem_filterMap.mp hw
  have hm : w ∈ big := by first | exact List.mem_of_getElem? hi | exact List.getElem?_mem hi
  exact ⟨hm, good_of_word h1⟩
theorem goodIn_app {big a b : List Cond} (ha : GoodIn big a) (hb : GoodIn big b) : GoodIn big (a ++ b) := fun w h => (List.mem_append.mp h).elim (ha w) (hb w)
theorem goodIn_ca {big a b : List Cond} {c : Cond} (ha : GoodIn big (c :: a)) (hb : GoodIn big b) : GoodIn big (c :: (a ++ b)) := fun w h => (List.mem_cons.mp h).elim (fun e => ha w (List.mem_cons.mpr (Or.inl e))) (fun h => (List.mem_append.mp h).elim (fun h => ha w (List.mem_cons.mpr (Or.inr h))) (hb w))
theorem goodIn_sub {big ws : List Cond} (hm : ∀ w ∈ ws, w ∈ big) (h : ws.all goodWord = true) : GoodIn big ws := fun w hw => ⟨hm w hw, good_of_word (List.all_eq_true.mp h w hw)⟩
/-! ===== END ===== -/
end
section
def RX0 : String := "SwitchBook$Draft"
def TX0 : u_T := fun k => match k with
  | 0 => ("SwitchBook$Draft", "nodes", "I", false)
  | 1 => ("SwitchBook$Draft", "sources", "I", false)
  | 2 => ("SwitchBook$Draft", "loads", "I", false)
  | 3 => ("SwitchBook$Draft", "names", "I", false)
  | 4 => ("SwitchBook$Draft", "closedNames", "I", false)
  | 5 => ("SwitchBook$Draft", "lockedNames", "I", false)
  | 6 => ("SwitchBook$Draft", "kind", "[I", true)
  | 7 => ("SwitchBook$Draft", "first", "[I", true)
  | _ => ("SwitchBook$Draft", "second", "[I", true)
def tyX0 : Nat → FieldType := fun k => match k with
  | 0 => .int
  | 1 => .int
  | 2 => .int
  | 3 => .int
  | 4 => .int
  | 5 => .int
  | 6 => .array .int
  | 7 => .array .int
  | _ => .array .int
abbrev wsX00 : List Cond := u_ws RX0 TX0 9
theorem nmX0 : ∀ a, a < 9 → ∀ b, b < 9 → a ≠ b → (TX0 a).2.1 ≠ (TX0 b).2.1 := by decide +kernel
theorem tyX0_ok : ∀ k, k < 9 → parseFieldDescriptor (TX0 k).2.2.1 = some (tyX0 k) := by decide +kernel
def RX1 : String := "SwitchBook$Net"
def TX1 : u_T := fun k => match k with
  | 0 => ("SwitchBook$Net", "nodes", "I", false)
  | 1 => ("SwitchBook$Net", "sources", "I", false)
  | 2 => ("SwitchBook$Net", "loads", "I", false)
  | 3 => ("SwitchBook$Net", "switches", "I", false)
  | 4 => ("SwitchBook$Net", "closedAsTold", "I", false)
  | 5 => ("SwitchBook$Net", "lockedAsTold", "I", false)
  | 6 => ("SwitchBook$Net", "kind", "[I", true)
  | 7 => ("SwitchBook$Net", "name", "[I", true)
  | 8 => ("SwitchBook$Net", "first", "[I", true)
  | 9 => ("SwitchBook$Net", "second", "[I", true)
  | 10 => ("SwitchBook$Net", "live", "[I", true)
  | 11 => ("SwitchBook$Net", "earthed", "[I", true)
  | 12 => ("SwitchBook$Net", "held", "[I", true)
  | _ => ("SwitchBook$Net", "part", "[I", true)
def tyX1 : Nat → FieldType := fun k => match k with
  | 0 => .int
  | 1 => .int
  | 2 => .int
  | 3 => .int
  | 4 => .int
  | 5 => .int
  | 6 => .array .int
  | 7 => .array .int
  | 8 => .array .int
  | 9 => .array .int
  | 10 => .array .int
  | 11 => .array .int
  | 12 => .array .int
  | _ => .array .int
abbrev wsX10 : List Cond := u_ws RX1 TX1 14
theorem nmX1 : ∀ a, a < 14 → ∀ b, b < 14 → a ≠ b → (TX1 a).2.1 ≠ (TX1 b).2.1 := by decide +kernel
theorem tyX1_ok : ∀ k, k < 14 → parseFieldDescriptor (TX1 k).2.2.1 = some (tyX1 k) := by decide +kernel
def RX2 : String := "SwitchBook$Text"
def TX2 : u_T := fun k => match k with
  | 0 => ("SwitchBook$Text", "letters", "[I", true)
  | 1 => ("SwitchBook$Text", "length", "I", false)
  | 2 => ("SwitchBook$Text", "next", "I", false)
  | 3 => ("SwitchBook$Text", "start", "I", false)
  | 4 => ("SwitchBook$Text", "kind", "I", false)
  | _ => ("SwitchBook$Text", "value", "I", false)
def tyX2 : Nat → FieldType := fun k => match k with
  | 0 => .array .int
  | 1 => .int
  | 2 => .int
  | 3 => .int
  | 4 => .int
  | _ => .int
abbrev wsX20 : List Cond := u_ws RX2 TX2 6
theorem nmX2 : ∀ a, a < 6 → ∀ b, b < 6 → a ≠ b → (TX2 a).2.1 ≠ (TX2 b).2.1 := by decide +kernel
theorem tyX2_ok : ∀ k, k < 6 → parseFieldDescriptor (TX2 k).2.2.1 = some (tyX2 k) := by decide +kernel
def RX3 : String := "SwitchBook"
def TX3 : u_T := fun k => match k with
  | 0 => ("SwitchBook", "text", "LSwitchBook$Text;", true)
  | 1 => ("SwitchBook", "draft", "LSwitchBook$Draft;", true)
  | 2 => ("SwitchBook", "net", "LSwitchBook$Net;", false)
  | 3 => ("SwitchBook", "spare", "LSwitchBook$Net;", false)
  | 4 => ("SwitchBook", "closed", "I", false)
  | 5 => ("SwitchBook", "locked", "I", false)
  | 6 => ("SwitchBook", "price", "[I", true)
  | 7 => ("SwitchBook", "order", "[I", true)
  | 8 => ("SwitchBook", "listed", "I", false)
  | 9 => ("SwitchBook", "past", "[I", true)
  | 10 => ("SwitchBook", "undoable", "I", false)
  | 11 => ("SwitchBook", "images", "[I", true)
  | 12 => ("SwitchBook", "kept", "I", false)
  | 13 => ("SwitchBook", "seen", "[I", true)
  | 14 => ("SwitchBook", "sights", "I", false)
  | _ => ("SwitchBook", "cost", "[I", true)
def tyX3 : Nat → FieldType := fun k => match k with
  | 0 => .object "SwitchBook$Text"
  | 1 => .object "SwitchBook$Draft"
  | 2 => .object "SwitchBook$Net"
  | 3 => .object "SwitchBook$Net"
  | 4 => .int
  | 5 => .int
  | 6 => .array .int
  | 7 => .array .int
  | 8 => .int
  | 9 => .array .int
  | 10 => .int
  | 11 => .array .int
  | 12 => .int
  | 13 => .array .int
  | 14 => .int
  | _ => .array .int
abbrev wsX30 : List Cond := u_ws RX3 TX3 16
theorem nmX3 : ∀ a, a < 16 → ∀ b, b < 16 → a ≠ b → (TX3 a).2.1 ≠ (TX3 b).2.1 := by decide +kernel
theorem tyX3_ok : ∀ k, k < 16 → parseFieldDescriptor (TX3 k).2.2.1 = some (tyX3 k) := by decide +kernel
def RX4 : String := "SwitchBookModel"
def TX4 : u_T := fun k => match k with
  | 0 => ("SwitchBookModel", "thrown", "I", false)
  | 1 => ("SwitchBookModel", "text", "[I", true)
  | 2 => ("SwitchBookModel", "typed", "I", false)
  | 3 => ("SwitchBookModel", "at", "I", false)
  | 4 => ("SwitchBookModel", "token", "I", false)
  | 5 => ("SwitchBookModel", "place", "I", false)
  | 6 => ("SwitchBookModel", "value", "I", false)
  | 7 => ("SwitchBookModel", "fault", "I", false)
  | 8 => ("SwitchBookModel", "told", "[I", true)
  | 9 => ("SwitchBookModel", "draft", "[I", true)
  | 10 => ("SwitchBookModel", "draftNow", "[I", true)
  | 11 => ("SwitchBookModel", "s", "[I", true)
  | 12 => ("SwitchBookModel", "undos", "[I", true)
  | 13 => ("SwitchBookModel", "undoMany", "I", false)
  | 14 => ("SwitchBookModel", "kept", "[I", true)
  | 15 => ("SwitchBookModel", "isKept", "[Z", true)
  | 16 => ("SwitchBookModel", "order", "[I", true)
  | 17 => ("SwitchBookModel", "listed", "I", false)
  | 18 => ("SwitchBookModel", "seenNode", "[I", true)
  | 19 => ("SwitchBookModel", "seenLive", "[I", true)
  | 20 => ("SwitchBookModel", "seenMany", "I", false)
  | 21 => ("SwitchBookModel", "part", "[I", true)
  | 22 => ("SwitchBookModel", "cost", "[I", true)
  | 23 => ("SwitchBookModel", "wanted", "[Z", true)
  | _ => ("SwitchBookModel", "lawful", "[Z", true)
def tyX4 : Nat → FieldType := fun k => match k with
  | 0 => .int
  | 1 => .array .int
  | 2 => .int
  | 3 => .int
  | 4 => .int
  | 5 => .int
  | 6 => .int
  | 7 => .int
  | 8 => .array .int
  | 9 => .array .int
  | 10 => .array .int
  | 11 => .array .int
  | 12 => .array .int
  | 13 => .int
  | 14 => .array .int
  | 15 => .array .boolean
  | 16 => .array .int
  | 17 => .int
  | 18 => .array .int
  | 19 => .array .int
  | 20 => .int
  | 21 => .array .int
  | 22 => .array .int
  | 23 => .array .boolean
  | _ => .array .boolean
abbrev wsX40 : List Cond := u_ws RX4 TX4 25
theorem nmX4 : ∀ a, a < 25 → ∀ b, b < 25 → a ≠ b → (TX4 a).2.1 ≠ (TX4 b).2.1 := by decide +kernel
theorem tyX4_ok : ∀ k, k < 25 → parseFieldDescriptor (TX4 k).2.2.1 = some (tyX4 k) := by decide +kernel
abbrev g_cls : List vw_C := [(RX0, TX0, 9), (RX1, TX1, 14), (RX2, TX2, 6), (RX3, TX3, 16), (RX4, TX4, 25)]
def g_CN : List String := ["SwitchBook$Draft", "SwitchBook$Net", "SwitchBook$Text", "SwitchBook", "SwitchBookModel", "SwitchBookLaw", "java/lang/Integer", "java/lang/Math", "java/util/Arrays"]
abbrev gI : Type := Instr × Nat × Nat × Int32
def gk0_0 : List (Nat × gI) := [(0, .aload_n 0, 0, 0, 0), (1, .invokespecial 3, 999, 0, 0), (4, .aload_n 0, 0, 0, 0), (5, .bipush (120), 0, 0, 120), (7, .newarray .int, 0, 0, 0), (9, .putfield 9, 2, 0, 0), (12, .return_, 0, 0, 0)]
def gk0 : List (Nat × gI) := gk0_0
def gk1_0 : List (Nat × gI) := [(0, .aload_n 0, 0, 0, 0), (1, .invokespecial 3, 999, 0, 0), (4, .aload_n 0, 0, 0, 0), (5, .bipush (26), 0, 0, 26), (7, .newarray .int, 0, 0, 0), (9, .putfield 9, 0, 6, 0), (12, .aload_n 0, 0, 0, 0), (13, .bipush (26), 0, 0, 26), (15, .newarray .int, 0, 0, 0), (17, .putfield 15, 0, 7, 0), (20, .aload_n 0, 0, 0, 0), (21, .bipush (26), 0, 0, 26), (23, .newarray .int, 0, 0, 0), (25, .putfield 18, 0, 8, 0), (28, .return_, 0, 0, 0)]
def gk1 : List (Nat × gI) := gk1_0
def gk2_0 : List (Nat × gI) := [(0, .aload_n 0, 0, 0, 0), (1, .invokespecial 3, 999, 0, 0), (4, .aload_n 0, 0, 0, 0), (5, .iconst 3, 0, 0, 3), (6, .putfield 9, 1, 0, 0), (9, .aload_n 0, 0, 0, 0), (10, .bipush (8), 0, 0, 8), (12, .newarray .int, 0, 0, 0), (14, .putfield 15, 1, 6, 0), (17, .aload_n 0, 0, 0, 0), (18, .bipush (8), 0, 0, 8), (20, .newarray .int, 0, 0, 0), (22, .putfield 19, 1, 7, 0), (25, .aload_n 0, 0, 0, 0), (26, .bipush (8), 0, 0, 8), (28, .newarray .int, 0, 0, 0), (30, .putfield 22, 1, 8, 0), (33, .aload_n 0, 0, 0, 0), (34, .bipush (8), 0, 0, 8), (36, .newarray .int, 0, 0, 0), (38, .putfield 25, 1, 9, 0), (41, .aload_n 0, 0, 0, 0), (42, .sipush (256), 0, 0, 256), (45, .newarray .int, 0, 0, 0), (47, .putfield 28, 1, 10, 0), (50, .aload_n 0, 0, 0, 0), (51, .sipush (256), 0, 0, 256), (54, .newarray .int, 0, 0, 0), (56, .putfield 31, 1, 11, 0), (59, .aload_n 0, 0, 0, 0), (60, .sipush (256), 0, 0, 256), (63, .newarray .int, 0, 0, 0), (65, .putfield 34, 1, 12, 0), (68, .aload_n 0, 0, 0, 0), (69, .bipush (6), 0, 0, 6), (71, .newarray .int, 0, 0, 0), (73, .putfield 37, 1, 13, 0), (76, .return_, 0, 0, 0)]
def gk2 : List (Nat × gI) := gk2_0
def gk3_0 : List (Nat × gI) := [(0, .aload_n 0, 0, 0, 0), (1, .getfield 33, 3, 6, 0), (4, .iconst 0, 0, 0, 0), (5, .iload_n 1, 0, 0, 0), (6, .iastore, 0, 0, 0), (7, .aload_n 0, 0, 0, 0), (8, .getfield 33, 3, 6, 0), (11, .iconst 1, 0, 0, 1), (12, .iload_n 2, 0, 0, 0), (13, .iastore, 0, 0, 0), (14, .aload_n 0, 0, 0, 0), (15, .getfield 33, 3, 6, 0), (18, .iconst 2, 0, 0, 2), (19, .iload_n 3, 0, 0, 0), (20, .iastore, 0, 0, 0), (21, .return_, 0, 0, 0)]
def gk3 : List (Nat × gI) := gk3_0
def gk4_0 : List (Nat × gI) := [(0, .aload_n 0, 0, 0, 0), (1, .aload_n 0, 0, 0, 0), (2, .getfield 26, 3, 2, 0), (5, .getfield 73, 1, 4, 0), (8, .putfield 95, 3, 4, 0), (11, .aload_n 0, 0, 0, 0), (12, .aload_n 0, 0, 0, 0), (13, .getfield 26, 3, 2, 0), (16, .getfield 222, 1, 5, 0), (19, .putfield 102, 3, 5, 0), (22, .aload_n 0, 0, 0, 0), (23, .iconst 1, 0, 0, 1), (24, .iconst 2, 0, 0, 2), (25, .iconst 3, 0, 0, 3), (26, .invokevirtual 155, 3, 3, 0), (29, .aload_n 0, 0, 0, 0), (30, .iconst 0, 0, 0, 0), (31, .putfield 159, 3, 8, 0), (34, .aload_n 0, 0, 0, 0), (35, .iconst 0, 0, 0, 0), (36, .putfield 146, 3, 10, 0), (39, .aload_n 0, 0, 0, 0), (40, .iconst 0, 0, 0, 0), (41, .putfield 193, 3, 14, 0), (44, .aload_n 0, 0, 0, 0), (45, .iconst 0, 0, 0, 0), (46, .putfield 219, 3, 12, 0), (49, .return_, 0, 0, 0)]
def gk4 : List (Nat × gI) := gk4_0
def gk5_0 : List (Nat × gI) := [(0, .aload_n 0, 0, 0, 0), (1, .invokespecial 3, 999, 0, 0), (4, .aload_n 0, 0, 0, 0), (5, .new 9, 2, 0, 0), (8, .dup, 0, 0, 0), (9, .invokespecial 11, 0, 0, 0), (12, .putfield 12, 3, 0, 0), (15, .aload_n 0, 0, 0, 0), (16, .new 16, 0, 0, 0), (19, .dup, 0, 0, 0), (20, .invokespecial 18, 1, 0, 0), (23, .putfield 19, 3, 1, 0), (26, .aload_n 0, 0, 0, 0), (27, .new 23, 1, 0, 0), (30, .dup, 0, 0, 0), (31, .invokespecial 25, 2, 0, 0), (34, .putfield 26, 3, 2, 0), (37, .aload_n 0, 0, 0, 0), (38, .new 23, 1, 0, 0), (41, .dup, 0, 0, 0), (42, .invokespecial 25, 2, 0, 0), (45, .putfield 30, 3, 3, 0), (48, .aload_n 0, 0, 0, 0), (49, .iconst 3, 0, 0, 3), (50, .newarray .int, 0, 0, 0), (52, .putfield 33, 3, 6, 0), (55, .aload_n 0, 0, 0, 0), (56, .bipush (12), 0, 0, 12), (58, .newarray .int, 0, 0, 0), (60, .putfield 37, 3, 7, 0), (63, .aload_n 0, 0, 0, 0), (64, .bipush (10), 0, 0, 10), (66, .newarray .int, 0, 0, 0), (68, .putfield 40, 3, 9, 0), (71, .aload_n 0, 0, 0, 0), (72, .iconst 2, 0, 0, 2), (73, .newarray .int, 0, 0, 0), (75, .putfield 43, 3, 11, 0), (78, .aload_n 0, 0, 0, 0), (79, .bipush (6), 0, 0, 6)]
def gk5_1 : List (Nat × gI) := [(81, .newarray .int, 0, 0, 0), (83, .putfield 46, 3, 13, 0), (86, .aload_n 0, 0, 0, 0), (87, .sipush (256), 0, 0, 256), (90, .newarray .int, 0, 0, 0), (92, .putfield 49, 3, 15, 0), (95, .aload_n 0, 0, 0, 0), (96, .invokevirtual 52, 4, 0, 0), (99, .return_, 0, 0, 0)]
def gk5 : List (Nat × gI) := gk5_0 ++ gk5_1
def gk6_0 : List (Nat × gI) := [(0, .iconst 0, 0, 0, 0), (1, .istore_n 1, 0, 0, 0), (2, .iload_n 1, 0, 0, 0), (3, .bipush (36), 0, 0, 36), (5, .if_icmp .ge (16), 21, 0, 0), (8, .aload_n 0, 0, 0, 0), (9, .getfield 16, 4, 9, 0), (12, .iload_n 1, 0, 0, 0), (13, .iconst 0, 0, 0, 0), (14, .iastore, 0, 0, 0), (15, .iinc 1 (1), 0, 0, 1), (18, .goto (-16), 2, 0, 0), (21, .aload_n 0, 0, 0, 0), (22, .getfield 16, 4, 9, 0), (25, .iconst 0, 0, 0, 0), (26, .iconst 3, 0, 0, 3), (27, .iastore, 0, 0, 0), (28, .aload_n 0, 0, 0, 0), (29, .getfield 19, 4, 10, 0), (32, .iconst 0, 0, 0, 0), (33, .iconst 0, 0, 0, 0), (34, .iastore, 0, 0, 0), (35, .aload_n 0, 0, 0, 0), (36, .getfield 19, 4, 10, 0), (39, .iconst 1, 0, 0, 1), (40, .iconst 0, 0, 0, 0), (41, .iastore, 0, 0, 0), (42, .aload_n 0, 0, 0, 0), (43, .getfield 19, 4, 10, 0), (46, .iconst 2, 0, 0, 2), (47, .iconst 1, 0, 0, 1), (48, .iastore, 0, 0, 0), (49, .aload_n 0, 0, 0, 0), (50, .getfield 19, 4, 10, 0), (53, .iconst 3, 0, 0, 3), (54, .iconst 2, 0, 0, 2), (55, .iastore, 0, 0, 0), (56, .aload_n 0, 0, 0, 0), (57, .getfield 19, 4, 10, 0), (60, .iconst 4, 0, 0, 4)]
def gk6_1 : List (Nat × gI) := [(61, .iconst 3, 0, 0, 3), (62, .iastore, 0, 0, 0), (63, .return_, 0, 0, 0)]
def gk6 : List (Nat × gI) := gk6_0 ++ gk6_1
def gk7_0 : List (Nat × gI) := [(0, .iconst 0, 0, 0, 0), (1, .istore_n 1, 0, 0, 0), (2, .iload_n 1, 0, 0, 0), (3, .bipush (36), 0, 0, 36), (5, .if_icmp .ge (21), 26, 0, 0), (8, .aload_n 0, 0, 0, 0), (9, .getfield 13, 4, 8, 0), (12, .iload_n 1, 0, 0, 0), (13, .aload_n 0, 0, 0, 0), (14, .getfield 16, 4, 9, 0), (17, .iload_n 1, 0, 0, 0), (18, .iaload, 0, 0, 0), (19, .iastore, 0, 0, 0), (20, .iinc 1 (1), 0, 0, 1), (23, .goto (-21), 2, 0, 0), (26, .iconst 0, 0, 0, 0), (27, .istore_n 1, 0, 0, 0), (28, .iload_n 1, 0, 0, 0), (29, .iconst 5, 0, 0, 5), (30, .if_icmp .ge (21), 51, 0, 0), (33, .aload_n 0, 0, 0, 0), (34, .getfield 22, 4, 11, 0), (37, .iload_n 1, 0, 0, 0), (38, .aload_n 0, 0, 0, 0), (39, .getfield 19, 4, 10, 0), (42, .iload_n 1, 0, 0, 0), (43, .iaload, 0, 0, 0), (44, .iastore, 0, 0, 0), (45, .iinc 1 (1), 0, 0, 1), (48, .goto (-20), 28, 0, 0), (51, .aload_n 0, 0, 0, 0), (52, .iconst 0, 0, 0, 0), (53, .putfield 70, 4, 2, 0), (56, .aload_n 0, 0, 0, 0), (57, .iconst 0, 0, 0, 0), (58, .putfield 141, 4, 17, 0), (61, .aload_n 0, 0, 0, 0), (62, .iconst 0, 0, 0, 0), (63, .putfield 144, 4, 20, 0), (66, .aload_n 0, 0, 0, 0)]
def gk7_1 : List (Nat × gI) := [(67, .iconst 0, 0, 0, 0), (68, .putfield 147, 4, 13, 0), (71, .aload_n 0, 0, 0, 0), (72, .getfield 31, 4, 15, 0), (75, .iconst 0, 0, 0, 0), (76, .iconst 0, 0, 0, 0), (77, .bastore, 0, 0, 0), (78, .aload_n 0, 0, 0, 0), (79, .getfield 31, 4, 15, 0), (82, .iconst 1, 0, 0, 1), (83, .iconst 0, 0, 0, 0), (84, .bastore, 0, 0, 0), (85, .return_, 0, 0, 0)]
def gk7 : List (Nat × gI) := gk7_0 ++ gk7_1
def gk8_0 : List (Nat × gI) := [(0, .aload_n 0, 0, 0, 0), (1, .invokespecial 1, 999, 0, 0), (4, .aload_n 0, 0, 0, 0), (5, .bipush (120), 0, 0, 120), (7, .newarray .int, 0, 0, 0), (9, .putfield 7, 4, 1, 0), (12, .aload_n 0, 0, 0, 0), (13, .bipush (36), 0, 0, 36), (15, .newarray .int, 0, 0, 0), (17, .putfield 13, 4, 8, 0), (20, .aload_n 0, 0, 0, 0), (21, .bipush (36), 0, 0, 36), (23, .newarray .int, 0, 0, 0), (25, .putfield 16, 4, 9, 0), (28, .aload_n 0, 0, 0, 0), (29, .iconst 5, 0, 0, 5), (30, .newarray .int, 0, 0, 0), (32, .putfield 19, 4, 10, 0), (35, .aload_n 0, 0, 0, 0), (36, .iconst 5, 0, 0, 5), (37, .newarray .int, 0, 0, 0), (39, .putfield 22, 4, 11, 0), (42, .aload_n 0, 0, 0, 0), (43, .bipush (50), 0, 0, 50), (45, .newarray .int, 0, 0, 0), (47, .putfield 25, 4, 12, 0), (50, .aload_n 0, 0, 0, 0), (51, .bipush (10), 0, 0, 10), (53, .newarray .int, 0, 0, 0), (55, .putfield 28, 4, 14, 0), (58, .aload_n 0, 0, 0, 0), (59, .iconst 2, 0, 0, 2), (60, .newarray .boolean, 1, 0, 0), (62, .putfield 31, 4, 15, 0), (65, .aload_n 0, 0, 0, 0), (66, .bipush (12), 0, 0, 12), (68, .newarray .int, 0, 0, 0), (70, .putfield 35, 4, 16, 0), (73, .aload_n 0, 0, 0, 0), (74, .bipush (6), 0, 0, 6)]
def gk8_1 : List (Nat × gI) := [(76, .newarray .int, 0, 0, 0), (78, .putfield 38, 4, 18, 0), (81, .aload_n 0, 0, 0, 0), (82, .bipush (6), 0, 0, 6), (84, .newarray .int, 0, 0, 0), (86, .putfield 41, 4, 19, 0), (89, .aload_n 0, 0, 0, 0), (90, .bipush (6), 0, 0, 6), (92, .newarray .int, 0, 0, 0), (94, .putfield 44, 4, 21, 0), (97, .aload_n 0, 0, 0, 0), (98, .sipush (256), 0, 0, 256), (101, .newarray .int, 0, 0, 0), (103, .putfield 47, 4, 22, 0), (106, .aload_n 0, 0, 0, 0), (107, .sipush (256), 0, 0, 256), (110, .newarray .boolean, 1, 0, 0), (112, .putfield 50, 4, 23, 0), (115, .aload_n 0, 0, 0, 0), (116, .sipush (2048), 0, 0, 2048), (119, .newarray .boolean, 1, 0, 0), (121, .putfield 53, 4, 24, 0), (124, .aload_n 0, 0, 0, 0), (125, .invokevirtual 56, 6, 0, 0), (128, .aload_n 0, 0, 0, 0), (129, .invokevirtual 59, 7, 0, 0), (132, .return_, 0, 0, 0)]
def gk8 : List (Nat × gI) := gk8_0 ++ gk8_1
def gk9_0 : List (Nat × gI) := [(0, .iload_n 1, 0, 0, 0), (1, .ifCond .lt (10), 11, 0, 0), (4, .iload_n 1, 0, 0, 0), (5, .sipush (255), 0, 0, 255), (8, .if_icmp .le (5), 13, 0, 0), (11, .iconst (-1), 0, 0, (-1)), (12, .ireturn, 0, 0, 0), (13, .aload_n 0, 0, 0, 0), (14, .getfield 12, 3, 0, 0), (17, .getfield 55, 2, 1, 0), (20, .bipush (120), 0, 0, 120), (22, .if_icmp .lt (6), 28, 0, 0), (25, .bipush (-3), 0, 0, (-3)), (27, .ireturn, 0, 0, 0), (28, .aload_n 0, 0, 0, 0), (29, .getfield 12, 3, 0, 0), (32, .getfield 59, 2, 0, 0), (35, .aload_n 0, 0, 0, 0), (36, .getfield 12, 3, 0, 0), (39, .getfield 55, 2, 1, 0), (42, .iload_n 1, 0, 0, 0), (43, .iastore, 0, 0, 0), (44, .aload_n 0, 0, 0, 0), (45, .getfield 12, 3, 0, 0), (48, .dup, 0, 0, 0), (49, .getfield 55, 2, 1, 0), (52, .iconst 1, 0, 0, 1), (53, .iadd, 0, 0, 0), (54, .putfield 55, 2, 1, 0), (57, .aload_n 0, 0, 0, 0), (58, .getfield 12, 3, 0, 0), (61, .getfield 55, 2, 1, 0), (64, .ireturn, 0, 0, 0)]
def gk9 : List (Nat × gI) := gk9_0
def gk10_0 : List (Nat × gI) := [(0, .iload_n 0, 0, 0, 0), (1, .iload_n 1, 0, 0, 0), (2, .if_icmp .lt (12), 14, 0, 0), (5, .iload_n 0, 0, 0, 0), (6, .iload_n 2, 0, 0, 0), (7, .if_icmp .gt (7), 14, 0, 0), (10, .iconst 1, 0, 0, 1), (11, .goto (4), 15, 0, 0), (14, .iconst 0, 0, 0, 0), (15, .ireturn, 0, 0, 0)]
def gk10 : List (Nat × gI) := gk10_0
def gk11_0 : List (Nat × gI) := [(0, .aload_n 0, 0, 0, 0), (1, .iconst 0, 0, 0, 0), (2, .putfield 62, 4, 0, 0), (5, .iload_n 1, 0, 0, 0), (6, .iconst 0, 0, 0, 0), (7, .sipush (255), 0, 0, 255), (10, .invokestatic 66, 10, 3, 0), (13, .ifCond .ne (5), 18, 0, 0), (16, .iconst (-1), 0, 0, (-1)), (17, .ireturn, 0, 0, 0), (18, .aload_n 0, 0, 0, 0), (19, .getfield 70, 4, 2, 0), (22, .bipush (120), 0, 0, 120), (24, .if_icmp .ne (6), 30, 0, 0), (27, .bipush (-3), 0, 0, (-3)), (29, .ireturn, 0, 0, 0), (30, .aload_n 0, 0, 0, 0), (31, .getfield 7, 4, 1, 0), (34, .aload_n 0, 0, 0, 0), (35, .getfield 70, 4, 2, 0), (38, .iload_n 1, 0, 0, 0), (39, .iastore, 0, 0, 0), (40, .aload_n 0, 0, 0, 0), (41, .dup, 0, 0, 0), (42, .getfield 70, 4, 2, 0), (45, .iconst 1, 0, 0, 1), (46, .iadd, 0, 0, 0), (47, .putfield 70, 4, 2, 0), (50, .aload_n 0, 0, 0, 0), (51, .getfield 70, 4, 2, 0), (54, .ireturn, 0, 0, 0)]
def gk11 : List (Nat × gI) := gk11_0
def gk12_0 : List (Nat × gI) := [(0, .aload_n 0, 0, 0, 0), (1, .getfield 12, 3, 0, 0), (4, .getfield 55, 2, 1, 0), (7, .istore_n 1, 0, 0, 0), (8, .aload_n 0, 0, 0, 0), (9, .getfield 12, 3, 0, 0), (12, .iconst 0, 0, 0, 0), (13, .putfield 55, 2, 1, 0), (16, .iload_n 1, 0, 0, 0), (17, .ireturn, 0, 0, 0)]
def gk12 : List (Nat × gI) := gk12_0
def gk13_0 : List (Nat × gI) := [(0, .aload_n 0, 0, 0, 0), (1, .iconst 0, 0, 0, 0), (2, .putfield 62, 4, 0, 0), (5, .aload_n 0, 0, 0, 0), (6, .getfield 70, 4, 2, 0), (9, .istore_n 1, 0, 0, 0), (10, .aload_n 0, 0, 0, 0), (11, .iconst 0, 0, 0, 0), (12, .putfield 70, 4, 2, 0), (15, .iload_n 1, 0, 0, 0), (16, .ireturn, 0, 0, 0)]
def gk13 : List (Nat × gI) := gk13_0
def gk14_0 : List (Nat × gI) := [(0, .aload_n 0, 0, 0, 0), (1, .iconst 3, 0, 0, 3), (2, .putfield 43, 0, 0, 0), (5, .aload_n 0, 0, 0, 0), (6, .iconst 0, 0, 0, 0), (7, .putfield 46, 0, 1, 0), (10, .aload_n 0, 0, 0, 0), (11, .iconst 0, 0, 0, 0), (12, .putfield 49, 0, 2, 0), (15, .aload_n 0, 0, 0, 0), (16, .iconst 0, 0, 0, 0), (17, .putfield 52, 0, 3, 0), (20, .aload_n 0, 0, 0, 0), (21, .iconst 0, 0, 0, 0), (22, .putfield 55, 0, 4, 0), (25, .aload_n 0, 0, 0, 0), (26, .iconst 0, 0, 0, 0), (27, .putfield 58, 0, 5, 0), (30, .return_, 0, 0, 0)]
def gk14 : List (Nat × gI) := gk14_0
def gk15_0 : List (Nat × gI) := [(0, .aload_n 0, 0, 0, 0), (1, .iconst 0, 0, 0, 0), (2, .putfield 15, 2, 2, 0), (5, .return_, 0, 0, 0)]
def gk15 : List (Nat × gI) := gk15_0
def gk16_0 : List (Nat × gI) := [(0, .iconst 0, 0, 0, 0), (1, .istore_n 1, 0, 0, 0), (2, .aload_n 0, 0, 0, 0), (3, .getfield 15, 2, 2, 0), (6, .aload_n 0, 0, 0, 0), (7, .getfield 19, 2, 1, 0), (10, .if_icmp .ge (68), 78, 0, 0), (13, .aload_n 0, 0, 0, 0), (14, .getfield 9, 2, 0, 0), (17, .aload_n 0, 0, 0, 0), (18, .getfield 15, 2, 2, 0), (21, .iaload, 0, 0, 0), (22, .bipush (48), 0, 0, 48), (24, .if_icmp .lt (54), 78, 0, 0), (27, .aload_n 0, 0, 0, 0), (28, .getfield 9, 2, 0, 0), (31, .aload_n 0, 0, 0, 0), (32, .getfield 15, 2, 2, 0), (35, .iaload, 0, 0, 0), (36, .bipush (57), 0, 0, 57), (38, .if_icmp .gt (40), 78, 0, 0), (41, .iload_n 1, 0, 0, 0), (42, .bipush (99), 0, 0, 99), (44, .if_icmp .gt (21), 65, 0, 0), (47, .bipush (10), 0, 0, 10), (49, .iload_n 1, 0, 0, 0), (50, .imul, 0, 0, 0), (51, .aload_n 0, 0, 0, 0), (52, .getfield 9, 2, 0, 0), (55, .aload_n 0, 0, 0, 0), (56, .getfield 15, 2, 2, 0), (59, .iaload, 0, 0, 0), (60, .iadd, 0, 0, 0), (61, .bipush (48), 0, 0, 48), (63, .isub, 0, 0, 0), (64, .istore_n 1, 0, 0, 0), (65, .aload_n 0, 0, 0, 0), (66, .dup, 0, 0, 0), (67, .getfield 15, 2, 2, 0), (70, .iconst 1, 0, 0, 1)]
def gk16_1 : List (Nat × gI) := [(71, .iadd, 0, 0, 0), (72, .putfield 15, 2, 2, 0), (75, .goto (-73), 2, 0, 0), (78, .aload_n 0, 0, 0, 0), (79, .getfield 9, 2, 0, 0), (82, .aload_n 0, 0, 0, 0), (83, .getfield 22, 2, 3, 0), (86, .iaload, 0, 0, 0), (87, .bipush (48), 0, 0, 48), (89, .if_icmp .ne (20), 109, 0, 0), (92, .aload_n 0, 0, 0, 0), (93, .getfield 15, 2, 2, 0), (96, .aload_n 0, 0, 0, 0), (97, .getfield 22, 2, 3, 0), (100, .isub, 0, 0, 0), (101, .iconst 1, 0, 0, 1), (102, .if_icmp .le (7), 109, 0, 0), (105, .iconst 1, 0, 0, 1), (106, .goto (4), 110, 0, 0), (109, .iconst 0, 0, 0, 0), (110, .istore_n 2, 0, 0, 0), (111, .aload_n 0, 0, 0, 0), (112, .iload_n 1, 0, 0, 0), (113, .putfield 31, 2, 5, 0), (116, .aload_n 0, 0, 0, 0), (117, .iload_n 1, 0, 0, 0), (118, .bipush (99), 0, 0, 99), (120, .if_icmp .gt (7), 127, 0, 0), (123, .iload_n 2, 0, 0, 0), (124, .ifCond .eq (7), 131, 0, 0), (127, .iconst 4, 0, 0, 4), (128, .goto (4), 132, 0, 0), (131, .iconst 2, 0, 0, 2), (132, .putfield 25, 2, 4, 0), (135, .return_, 0, 0, 0)]
def gk16 : List (Nat × gI) := gk16_0 ++ gk16_1
def gk17_0 : List (Nat × gI) := [(0, .iload_n 0, 0, 0, 0), (1, .bipush (97), 0, 0, 97), (3, .if_icmp .lt (13), 16, 0, 0), (6, .iload_n 0, 0, 0, 0), (7, .bipush (122), 0, 0, 122), (9, .if_icmp .gt (7), 16, 0, 0), (12, .iconst 1, 0, 0, 1), (13, .goto (4), 17, 0, 0), (16, .iconst 0, 0, 0, 0), (17, .ireturn, 0, 0, 0)]
def gk17 : List (Nat × gI) := gk17_0
def gk18_0 : List (Nat × gI) := [(0, .aload_n 0, 0, 0, 0), (1, .getfield 15, 2, 2, 0), (4, .aload_n 0, 0, 0, 0), (5, .getfield 19, 2, 1, 0), (8, .if_icmp .ge (30), 38, 0, 0), (11, .aload_n 0, 0, 0, 0), (12, .getfield 9, 2, 0, 0), (15, .aload_n 0, 0, 0, 0), (16, .getfield 15, 2, 2, 0), (19, .iaload, 0, 0, 0), (20, .bipush (32), 0, 0, 32), (22, .if_icmp .ne (16), 38, 0, 0), (25, .aload_n 0, 0, 0, 0), (26, .dup, 0, 0, 0), (27, .getfield 15, 2, 2, 0), (30, .iconst 1, 0, 0, 1), (31, .iadd, 0, 0, 0), (32, .putfield 15, 2, 2, 0), (35, .goto (-35), 0, 0, 0), (38, .aload_n 0, 0, 0, 0), (39, .aload_n 0, 0, 0, 0), (40, .getfield 15, 2, 2, 0), (43, .putfield 22, 2, 3, 0), (46, .aload_n 0, 0, 0, 0), (47, .getfield 15, 2, 2, 0), (50, .aload_n 0, 0, 0, 0), (51, .getfield 19, 2, 1, 0), (54, .if_icmp .lt (9), 63, 0, 0), (57, .aload_n 0, 0, 0, 0), (58, .iconst 0, 0, 0, 0), (59, .putfield 25, 2, 4, 0), (62, .return_, 0, 0, 0), (63, .aload_n 0, 0, 0, 0), (64, .getfield 9, 2, 0, 0), (67, .aload_n 0, 0, 0, 0), (68, .getfield 15, 2, 2, 0), (71, .iaload, 0, 0, 0), (72, .istore_n 1, 0, 0, 0), (73, .iload_n 1, 0, 0, 0), (74, .bipush (48), 0, 0, 48)]
def gk18_1 : List (Nat × gI) := [(76, .if_icmp .lt (14), 90, 0, 0), (79, .iload_n 1, 0, 0, 0), (80, .bipush (57), 0, 0, 57), (82, .if_icmp .gt (8), 90, 0, 0), (85, .aload_n 0, 0, 0, 0), (86, .invokevirtual 28, 16, 0, 0), (89, .return_, 0, 0, 0), (90, .aload_n 0, 0, 0, 0), (91, .dup, 0, 0, 0), (92, .getfield 15, 2, 2, 0), (95, .iconst 1, 0, 0, 1), (96, .iadd, 0, 0, 0), (97, .putfield 15, 2, 2, 0), (100, .aload_n 0, 0, 0, 0), (101, .iload_n 1, 0, 0, 0), (102, .bipush (97), 0, 0, 97), (104, .isub, 0, 0, 0), (105, .putfield 31, 2, 5, 0), (108, .aload_n 0, 0, 0, 0), (109, .iload_n 1, 0, 0, 0), (110, .bipush (59), 0, 0, 59), (112, .if_icmp .ne (7), 119, 0, 0), (115, .iconst 3, 0, 0, 3), (116, .goto (15), 131, 0, 0), (119, .iload_n 1, 0, 0, 0), (120, .invokestatic 34, 17, 1, 0), (123, .ifCond .eq (7), 130, 0, 0), (126, .iconst 1, 0, 0, 1), (127, .goto (4), 131, 0, 0), (130, .iconst 4, 0, 0, 4), (131, .putfield 25, 2, 4, 0), (134, .return_, 0, 0, 0)]
def gk18 : List (Nat × gI) := gk18_0 ++ gk18_1
def gk19_0 : List (Nat × gI) := [(0, .iload_n 0, 0, 0, 0), (1, .iload_n 1, 0, 0, 0), (2, .ishr, 0, 0, 0), (3, .iconst 1, 0, 0, 1), (4, .iand, 0, 0, 0), (5, .ireturn, 0, 0, 0)]
def gk19 : List (Nat × gI) := gk19_0
def gk20_0 : List (Nat × gI) := [(0, .aload_n 0, 0, 0, 0), (1, .invokevirtual 38, 18, 0, 0), (4, .aload_n 0, 0, 0, 0), (5, .getfield 25, 2, 4, 0), (8, .iload_n 1, 0, 0, 0), (9, .if_icmp .ne (35), 44, 0, 0), (12, .aload_n 0, 0, 0, 0), (13, .getfield 31, 2, 5, 0), (16, .ifCond .lt (28), 44, 0, 0), (19, .aload_n 0, 0, 0, 0), (20, .getfield 31, 2, 5, 0), (23, .bipush (32), 0, 0, 32), (25, .if_icmp .ge (19), 44, 0, 0), (28, .iload_n 2, 0, 0, 0), (29, .aload_n 0, 0, 0, 0), (30, .getfield 31, 2, 5, 0), (33, .invokestatic 41, 19, 2, 0), (36, .iconst 1, 0, 0, 1), (37, .if_icmp .ne (7), 44, 0, 0), (40, .iconst 1, 0, 0, 1), (41, .goto (4), 45, 0, 0), (44, .iconst 0, 0, 0, 0), (45, .istore_n 3, 0, 0, 0), (46, .iload_n 3, 0, 0, 0), (47, .ifCond .eq (10), 57, 0, 0), (50, .aload_n 0, 0, 0, 0), (51, .getfield 31, 2, 5, 0), (54, .goto (4), 58, 0, 0), (57, .iconst (-1), 0, 0, (-1)), (58, .ireturn, 0, 0, 0)]
def gk20 : List (Nat × gI) := gk20_0
def gk21_0 : List (Nat × gI) := [(0, .aload_n 1, 0, 0, 0), (1, .iconst 2, 0, 0, 2), (2, .bipush (124), 0, 0, 124), (4, .invokevirtual 83, 20, 2, 0), (7, .istore_n 2, 0, 0, 0), (8, .iload_n 2, 0, 0, 0), (9, .ifCond .ge (5), 14, 0, 0), (12, .iconst 0, 0, 0, 0), (13, .ireturn, 0, 0, 0), (14, .aload_n 0, 0, 0, 0), (15, .iload_n 2, 0, 0, 0), (16, .putfield 43, 0, 0, 0), (19, .iconst 1, 0, 0, 1), (20, .ireturn, 0, 0, 0)]
def gk21 : List (Nat × gI) := gk21_0
def gk22_0 : List (Nat × gI) := [(0, .iconst 1, 0, 0, 1), (1, .aload_n 0, 0, 0, 0), (2, .getfield 43, 0, 0, 0), (5, .ishl, 0, 0, 0), (6, .iconst 1, 0, 0, 1), (7, .isub, 0, 0, 0), (8, .ireturn, 0, 0, 0)]
def gk22 : List (Nat × gI) := gk22_0
def gk23_0 : List (Nat × gI) := [(0, .iload_n 0, 0, 0, 0), (1, .ifCond .ge (7), 8, 0, 0), (4, .iconst 0, 0, 0, 0), (5, .goto (6), 11, 0, 0), (8, .iconst 1, 0, 0, 1), (9, .iload_n 0, 0, 0, 0), (10, .ishl, 0, 0, 0), (11, .ireturn, 0, 0, 0)]
def gk23 : List (Nat × gI) := gk23_0
def gk24_0 : List (Nat × gI) := [(0, .aload_n 1, 0, 0, 0), (1, .iconst 2, 0, 0, 2), (2, .aload_n 0, 0, 0, 0), (3, .invokevirtual 87, 22, 0, 0), (6, .aload_n 0, 0, 0, 0), (7, .getfield 46, 0, 1, 0), (10, .iconst (-1), 0, 0, (-1)), (11, .ixor, 0, 0, 0), (12, .iand, 0, 0, 0), (13, .invokevirtual 83, 20, 2, 0), (16, .istore_n 2, 0, 0, 0), (17, .aload_n 0, 0, 0, 0), (18, .dup, 0, 0, 0), (19, .getfield 46, 0, 1, 0), (22, .iload_n 2, 0, 0, 0), (23, .invokestatic 91, 23, 1, 0), (26, .ior, 0, 0, 0), (27, .putfield 46, 0, 1, 0), (30, .iload_n 2, 0, 0, 0), (31, .ifCond .lt (7), 38, 0, 0), (34, .iconst 1, 0, 0, 1), (35, .goto (4), 39, 0, 0), (38, .iconst 0, 0, 0, 0), (39, .ireturn, 0, 0, 0)]
def gk24 : List (Nat × gI) := gk24_0
def gk25_0 : List (Nat × gI) := [(0, .aload_n 1, 0, 0, 0), (1, .iconst 2, 0, 0, 2), (2, .aload_n 0, 0, 0, 0), (3, .invokevirtual 87, 22, 0, 0), (6, .aload_n 0, 0, 0, 0), (7, .getfield 49, 0, 2, 0), (10, .iconst (-1), 0, 0, (-1)), (11, .ixor, 0, 0, 0), (12, .iand, 0, 0, 0), (13, .invokevirtual 83, 20, 2, 0), (16, .istore_n 2, 0, 0, 0), (17, .aload_n 0, 0, 0, 0), (18, .dup, 0, 0, 0), (19, .getfield 49, 0, 2, 0), (22, .iload_n 2, 0, 0, 0), (23, .invokestatic 91, 23, 1, 0), (26, .ior, 0, 0, 0), (27, .putfield 49, 0, 2, 0), (30, .iload_n 2, 0, 0, 0), (31, .ifCond .lt (7), 38, 0, 0), (34, .iconst 1, 0, 0, 1), (35, .goto (4), 39, 0, 0), (38, .iconst 0, 0, 0, 0), (39, .ireturn, 0, 0, 0)]
def gk25 : List (Nat × gI) := gk25_0
def gk26_0 : List (Nat × gI) := [(0, .iload_n 0, 0, 0, 0), (1, .iload_n 0, 0, 0, 0), (2, .iconst 1, 0, 0, 1), (3, .iushr, 0, 0, 0), (4, .ldc_w 265, 0, 0, 1431655765), (7, .iand, 0, 0, 0), (8, .isub, 0, 0, 0), (9, .istore_n 0, 0, 0, 0), (10, .iload_n 0, 0, 0, 0), (11, .ldc_w 266, 0, 0, 858993459), (14, .iand, 0, 0, 0), (15, .iload_n 0, 0, 0, 0), (16, .iconst 2, 0, 0, 2), (17, .iushr, 0, 0, 0), (18, .ldc_w 266, 0, 0, 858993459), (21, .iand, 0, 0, 0), (22, .iadd, 0, 0, 0), (23, .istore_n 0, 0, 0, 0), (24, .iload_n 0, 0, 0, 0), (25, .iload_n 0, 0, 0, 0), (26, .iconst 4, 0, 0, 4), (27, .iushr, 0, 0, 0), (28, .iadd, 0, 0, 0), (29, .ldc_w 267, 0, 0, 252645135), (32, .iand, 0, 0, 0), (33, .istore_n 0, 0, 0, 0), (34, .iload_n 0, 0, 0, 0), (35, .iload_n 0, 0, 0, 0), (36, .bipush (8), 0, 0, 8), (38, .iushr, 0, 0, 0), (39, .iadd, 0, 0, 0), (40, .istore_n 0, 0, 0, 0), (41, .iload_n 0, 0, 0, 0), (42, .iload_n 0, 0, 0, 0), (43, .bipush (16), 0, 0, 16), (45, .iushr, 0, 0, 0), (46, .iadd, 0, 0, 0), (47, .istore_n 0, 0, 0, 0), (48, .iload_n 0, 0, 0, 0), (49, .bipush (63), 0, 0, 63)]
def gk26_1 : List (Nat × gI) := [(51, .iand, 0, 0, 0), (52, .ireturn, 0, 0, 0)]
def gk26 : List (Nat × gI) := gk26_0 ++ gk26_1
def gk27_0 : List (Nat × gI) := [(0, .aload_n 0, 0, 0, 0), (1, .getfield 52, 0, 3, 0), (4, .invokestatic 95, 26, 1, 0), (7, .bipush (8), 0, 0, 8), (9, .if_icmp .lt (5), 14, 0, 0), (12, .iconst 0, 0, 0, 0), (13, .ireturn, 0, 0, 0), (14, .aload_n 1, 0, 0, 0), (15, .iconst 1, 0, 0, 1), (16, .ldc 100, 0, 0, 67108863), (18, .aload_n 0, 0, 0, 0), (19, .getfield 52, 0, 3, 0), (22, .iconst (-1), 0, 0, (-1)), (23, .ixor, 0, 0, 0), (24, .iand, 0, 0, 0), (25, .invokevirtual 83, 20, 2, 0), (28, .istore_n 3, 0, 0, 0), (29, .iload_n 3, 0, 0, 0), (30, .ifCond .ge (5), 35, 0, 0), (33, .iconst 0, 0, 0, 0), (34, .ireturn, 0, 0, 0), (35, .aload_n 1, 0, 0, 0), (36, .iconst 2, 0, 0, 2), (37, .aload_n 0, 0, 0, 0), (38, .invokevirtual 87, 22, 0, 0), (41, .invokevirtual 83, 20, 2, 0), (44, .istore 4, 0, 0, 0), (46, .iload 4, 0, 0, 0), (48, .ifCond .ge (5), 53, 0, 0), (51, .iconst 0, 0, 0, 0), (52, .ireturn, 0, 0, 0), (53, .iload_n 2, 0, 0, 0), (54, .iconst 2, 0, 0, 2), (55, .if_icmp .ne (8), 63, 0, 0), (58, .bipush (-9), 0, 0, (-9)), (60, .goto (20), 80, 0, 0), (63, .aload_n 1, 0, 0, 0), (64, .iconst 2, 0, 0, 2), (65, .aload_n 0, 0, 0, 0), (66, .invokevirtual 87, 22, 0, 0)]
def gk27_1 : List (Nat × gI) := [(69, .iload 4, 0, 0, 0), (71, .invokestatic 91, 23, 1, 0), (74, .iconst (-1), 0, 0, (-1)), (75, .ixor, 0, 0, 0), (76, .iand, 0, 0, 0), (77, .invokevirtual 83, 20, 2, 0), (80, .istore 5, 0, 0, 0), (82, .iload 5, 0, 0, 0), (84, .iconst (-1), 0, 0, (-1)), (85, .if_icmp .ne (5), 90, 0, 0), (88, .iconst 0, 0, 0, 0), (89, .ireturn, 0, 0, 0), (90, .aload_n 0, 0, 0, 0), (91, .dup, 0, 0, 0), (92, .getfield 52, 0, 3, 0), (95, .iconst 1, 0, 0, 1), (96, .iload_n 3, 0, 0, 0), (97, .ishl, 0, 0, 0), (98, .ior, 0, 0, 0), (99, .putfield 52, 0, 3, 0), (102, .aload_n 0, 0, 0, 0), (103, .getfield 9, 0, 6, 0), (106, .iload_n 3, 0, 0, 0), (107, .iload_n 2, 0, 0, 0), (108, .iastore, 0, 0, 0), (109, .aload_n 0, 0, 0, 0), (110, .getfield 15, 0, 7, 0), (113, .iload_n 3, 0, 0, 0), (114, .iload 4, 0, 0, 0), (116, .iastore, 0, 0, 0), (117, .aload_n 0, 0, 0, 0), (118, .getfield 18, 0, 8, 0), (121, .iload_n 3, 0, 0, 0), (122, .iload 5, 0, 0, 0), (124, .iastore, 0, 0, 0), (125, .iconst 1, 0, 0, 1), (126, .ireturn, 0, 0, 0)]
def gk27 : List (Nat × gI) := gk27_0 ++ gk27_1
def gk28_0 : List (Nat × gI) := [(0, .aload_n 1, 0, 0, 0), (1, .iconst 1, 0, 0, 1), (2, .aload_n 0, 0, 0, 0), (3, .getfield 52, 0, 3, 0), (6, .aload_n 0, 0, 0, 0), (7, .getfield 55, 0, 4, 0), (10, .iconst (-1), 0, 0, (-1)), (11, .ixor, 0, 0, 0), (12, .iand, 0, 0, 0), (13, .invokevirtual 83, 20, 2, 0), (16, .istore_n 2, 0, 0, 0), (17, .aload_n 0, 0, 0, 0), (18, .dup, 0, 0, 0), (19, .getfield 55, 0, 4, 0), (22, .iload_n 2, 0, 0, 0), (23, .invokestatic 91, 23, 1, 0), (26, .ior, 0, 0, 0), (27, .putfield 55, 0, 4, 0), (30, .iload_n 2, 0, 0, 0), (31, .ifCond .lt (7), 38, 0, 0), (34, .iconst 1, 0, 0, 1), (35, .goto (4), 39, 0, 0), (38, .iconst 0, 0, 0, 0), (39, .ireturn, 0, 0, 0)]
def gk28 : List (Nat × gI) := gk28_0
def gk29_0 : List (Nat × gI) := [(0, .aload_n 1, 0, 0, 0), (1, .iconst 1, 0, 0, 1), (2, .aload_n 0, 0, 0, 0), (3, .getfield 52, 0, 3, 0), (6, .aload_n 0, 0, 0, 0), (7, .getfield 58, 0, 5, 0), (10, .iconst (-1), 0, 0, (-1)), (11, .ixor, 0, 0, 0), (12, .iand, 0, 0, 0), (13, .invokevirtual 83, 20, 2, 0), (16, .istore_n 2, 0, 0, 0), (17, .aload_n 0, 0, 0, 0), (18, .dup, 0, 0, 0), (19, .getfield 58, 0, 5, 0), (22, .iload_n 2, 0, 0, 0), (23, .invokestatic 91, 23, 1, 0), (26, .ior, 0, 0, 0), (27, .putfield 58, 0, 5, 0), (30, .iload_n 2, 0, 0, 0), (31, .ifCond .lt (7), 38, 0, 0), (34, .iconst 1, 0, 0, 1), (35, .goto (4), 39, 0, 0), (38, .iconst 0, 0, 0, 0), (39, .ireturn, 0, 0, 0)]
def gk29 : List (Nat × gI) := gk29_0
def gk30_0 : List (Nat × gI) := [(0, .aload_n 1, 0, 0, 0), (1, .getfield 32, 2, 4, 0), (4, .iconst 1, 0, 0, 1), (5, .if_icmp .eq (5), 10, 0, 0), (8, .iconst 0, 0, 0, 0), (9, .ireturn, 0, 0, 0), (10, .aload_n 1, 0, 0, 0), (11, .getfield 61, 2, 5, 0), (14, .bipush (97), 0, 0, 97), (16, .iadd, 0, 0, 0), (17, .tableswitch (150) (98) (115) #[117, 138, 111, 131, 150, 150, 150, 124, 150, 144, 150, 150, 87, 150, 150, 150, 150, 105], 0, 0, 0), (104, .iload_n 2, 0, 0, 0), (105, .ifCond .ne (15), 120, 0, 0), (108, .aload_n 0, 0, 0, 0), (109, .aload_n 1, 0, 0, 0), (110, .invokevirtual 64, 21, 1, 0), (113, .ifCond .eq (7), 120, 0, 0), (116, .iconst 1, 0, 0, 1), (117, .goto (4), 121, 0, 0), (120, .iconst 0, 0, 0, 0), (121, .ireturn, 0, 0, 0), (122, .aload_n 0, 0, 0, 0), (123, .aload_n 1, 0, 0, 0), (124, .invokevirtual 68, 24, 1, 0), (127, .ireturn, 0, 0, 0), (128, .aload_n 0, 0, 0, 0), (129, .aload_n 1, 0, 0, 0), (130, .invokevirtual 71, 25, 1, 0), (133, .ireturn, 0, 0, 0), (134, .aload_n 0, 0, 0, 0), (135, .aload_n 1, 0, 0, 0), (136, .iconst 0, 0, 0, 0), (137, .invokevirtual 74, 27, 2, 0), (140, .ireturn, 0, 0, 0), (141, .aload_n 0, 0, 0, 0), (142, .aload_n 1, 0, 0, 0), (143, .iconst 1, 0, 0, 1), (144, .invokevirtual 74, 27, 2, 0), (147, .ireturn, 0, 0, 0), (148, .aload_n 0, 0, 0, 0)]
def gk30_1 : List (Nat × gI) := [(149, .aload_n 1, 0, 0, 0), (150, .iconst 2, 0, 0, 2), (151, .invokevirtual 74, 27, 2, 0), (154, .ireturn, 0, 0, 0), (155, .aload_n 0, 0, 0, 0), (156, .aload_n 1, 0, 0, 0), (157, .invokevirtual 77, 28, 1, 0), (160, .ireturn, 0, 0, 0), (161, .aload_n 0, 0, 0, 0), (162, .aload_n 1, 0, 0, 0), (163, .invokevirtual 80, 29, 1, 0), (166, .ireturn, 0, 0, 0), (167, .iconst 0, 0, 0, 0), (168, .ireturn, 0, 0, 0)]
def gk30 : List (Nat × gI) := gk30_0 ++ gk30_1
def gk31_0 : List (Nat × gI) := [(0, .aload_n 0, 0, 0, 0), (1, .invokevirtual 38, 18, 0, 0), (4, .aload_n 0, 0, 0, 0), (5, .getfield 25, 2, 4, 0), (8, .iconst 3, 0, 0, 3), (9, .if_icmp .ne (7), 16, 0, 0), (12, .iconst 1, 0, 0, 1), (13, .goto (4), 17, 0, 0), (16, .iconst 0, 0, 0, 0), (17, .ireturn, 0, 0, 0)]
def gk31 : List (Nat × gI) := gk31_0
def gk32_0 : List (Nat × gI) := [(0, .aload_n 0, 0, 0, 0), (1, .invokevirtual 21, 14, 0, 0), (4, .aload_n 1, 0, 0, 0), (5, .invokevirtual 24, 15, 0, 0), (8, .iconst 0, 0, 0, 0), (9, .istore_n 2, 0, 0, 0), (10, .iload_n 2, 0, 0, 0), (11, .bipush (120), 0, 0, 120), (13, .if_icmp .gt (40), 53, 0, 0), (16, .aload_n 1, 0, 0, 0), (17, .invokevirtual 29, 18, 0, 0), (20, .aload_n 1, 0, 0, 0), (21, .getfield 32, 2, 4, 0), (24, .ifCond .ne (5), 29, 0, 0), (27, .iload_n 2, 0, 0, 0), (28, .ireturn, 0, 0, 0), (29, .aload_n 0, 0, 0, 0), (30, .aload_n 1, 0, 0, 0), (31, .iload_n 2, 0, 0, 0), (32, .invokevirtual 35, 30, 2, 0), (35, .ifCond .eq (10), 45, 0, 0), (38, .aload_n 1, 0, 0, 0), (39, .invokevirtual 39, 31, 0, 0), (42, .ifCond .ne (5), 47, 0, 0), (45, .iconst (-1), 0, 0, (-1)), (46, .ireturn, 0, 0, 0), (47, .iinc 2 (1), 0, 0, 1), (50, .goto (-40), 10, 0, 0), (53, .iconst (-1), 0, 0, (-1)), (54, .ireturn, 0, 0, 0)]
def gk32 : List (Nat × gI) := gk32_0
def gk33_0 : List (Nat × gI) := [(0, .aload_n 0, 0, 0, 0), (1, .getfield 15, 1, 6, 0), (4, .aload_n 0, 0, 0, 0), (5, .getfield 51, 1, 3, 0), (8, .aload_n 1, 0, 0, 0), (9, .getfield 67, 0, 6, 0), (12, .iload_n 2, 0, 0, 0), (13, .iaload, 0, 0, 0), (14, .iastore, 0, 0, 0), (15, .aload_n 0, 0, 0, 0), (16, .getfield 19, 1, 7, 0), (19, .aload_n 0, 0, 0, 0), (20, .getfield 51, 1, 3, 0), (23, .iload_n 2, 0, 0, 0), (24, .bipush (97), 0, 0, 97), (26, .iadd, 0, 0, 0), (27, .iastore, 0, 0, 0), (28, .aload_n 0, 0, 0, 0), (29, .getfield 22, 1, 8, 0), (32, .aload_n 0, 0, 0, 0), (33, .getfield 51, 1, 3, 0), (36, .aload_n 1, 0, 0, 0), (37, .getfield 75, 0, 7, 0), (40, .iload_n 2, 0, 0, 0), (41, .iaload, 0, 0, 0), (42, .iastore, 0, 0, 0), (43, .aload_n 0, 0, 0, 0), (44, .getfield 25, 1, 9, 0), (47, .aload_n 0, 0, 0, 0), (48, .getfield 51, 1, 3, 0), (51, .aload_n 1, 0, 0, 0), (52, .getfield 76, 0, 8, 0), (55, .iload_n 2, 0, 0, 0), (56, .iaload, 0, 0, 0), (57, .iastore, 0, 0, 0), (58, .aload_n 0, 0, 0, 0), (59, .dup, 0, 0, 0), (60, .getfield 54, 1, 4, 0), (63, .aload_n 1, 0, 0, 0), (64, .getfield 77, 0, 4, 0)]
def gk33_1 : List (Nat × gI) := [(67, .iload_n 2, 0, 0, 0), (68, .invokestatic 63, 19, 2, 0), (71, .aload_n 0, 0, 0, 0), (72, .getfield 51, 1, 3, 0), (75, .ishl, 0, 0, 0), (76, .ior, 0, 0, 0), (77, .putfield 54, 1, 4, 0), (80, .aload_n 0, 0, 0, 0), (81, .dup, 0, 0, 0), (82, .getfield 57, 1, 5, 0), (85, .aload_n 1, 0, 0, 0), (86, .getfield 80, 0, 5, 0), (89, .iload_n 2, 0, 0, 0), (90, .invokestatic 63, 19, 2, 0), (93, .aload_n 0, 0, 0, 0), (94, .getfield 51, 1, 3, 0), (97, .ishl, 0, 0, 0), (98, .ior, 0, 0, 0), (99, .putfield 57, 1, 5, 0), (102, .aload_n 0, 0, 0, 0), (103, .dup, 0, 0, 0), (104, .getfield 51, 1, 3, 0), (107, .iconst 1, 0, 0, 1), (108, .iadd, 0, 0, 0), (109, .putfield 51, 1, 3, 0), (112, .return_, 0, 0, 0)]
def gk33 : List (Nat × gI) := gk33_0 ++ gk33_1
def gk34_0 : List (Nat × gI) := [(0, .iconst 0, 0, 0, 0), (1, .istore_n 2, 0, 0, 0), (2, .aload_n 0, 0, 0, 0), (3, .arraylength, 0, 0, 0), (4, .istore_n 3, 0, 0, 0), (5, .iload_n 2, 0, 0, 0), (6, .iload_n 3, 0, 0, 0), (7, .if_icmp .ge (13), 20, 0, 0), (10, .aload_n 0, 0, 0, 0), (11, .iload_n 2, 0, 0, 0), (12, .iload_n 1, 0, 0, 0), (13, .iastore, 0, 0, 0), (14, .iinc 2 (1), 0, 0, 1), (17, .goto (-12), 5, 0, 0), (20, .return_, 0, 0, 0)]
def gk34 : List (Nat × gI) := gk34_0
def gk35_0 : List (Nat × gI) := [(0, .iconst 1, 0, 0, 1), (1, .aload_n 0, 0, 0, 0), (2, .getfield 51, 1, 3, 0), (5, .ishl, 0, 0, 0), (6, .iconst 1, 0, 0, 1), (7, .isub, 0, 0, 0), (8, .ireturn, 0, 0, 0)]
def gk35 : List (Nat × gI) := gk35_0
def gk36_0 : List (Nat × gI) := [(0, .iconst 0, 0, 0, 0), (1, .istore_n 2, 0, 0, 0), (2, .iload_n 2, 0, 0, 0), (3, .aload_n 0, 0, 0, 0), (4, .getfield 9, 1, 0, 0), (7, .if_icmp .ge (25), 32, 0, 0), (10, .iload_n 1, 0, 0, 0), (11, .iload_n 2, 0, 0, 0), (12, .invokestatic 63, 19, 2, 0), (15, .iconst 1, 0, 0, 1), (16, .if_icmp .ne (10), 26, 0, 0), (19, .aload_n 0, 0, 0, 0), (20, .getfield 37, 1, 13, 0), (23, .iload_n 2, 0, 0, 0), (24, .iload_n 1, 0, 0, 0), (25, .iastore, 0, 0, 0), (26, .iinc 2 (1), 0, 0, 1), (29, .goto (-27), 2, 0, 0), (32, .return_, 0, 0, 0)]
def gk36 : List (Nat × gI) := gk36_0
def gk37_0 : List (Nat × gI) := [(0, .iconst 0, 0, 0, 0), (1, .istore_n 2, 0, 0, 0), (2, .iload_n 2, 0, 0, 0), (3, .aload_n 0, 0, 0, 0), (4, .getfield 9, 1, 0, 0), (7, .if_icmp .ge (18), 25, 0, 0), (10, .aload_n 0, 0, 0, 0), (11, .getfield 37, 1, 13, 0), (14, .iload_n 2, 0, 0, 0), (15, .iconst 1, 0, 0, 1), (16, .iload_n 2, 0, 0, 0), (17, .ishl, 0, 0, 0), (18, .iastore, 0, 0, 0), (19, .iinc 2 (1), 0, 0, 1), (22, .goto (-20), 2, 0, 0), (25, .iconst 0, 0, 0, 0), (26, .istore_n 2, 0, 0, 0), (27, .iload_n 2, 0, 0, 0), (28, .aload_n 0, 0, 0, 0), (29, .getfield 51, 1, 3, 0), (32, .if_icmp .ge (55), 87, 0, 0), (35, .aload_n 0, 0, 0, 0), (36, .getfield 15, 1, 6, 0), (39, .iload_n 2, 0, 0, 0), (40, .iaload, 0, 0, 0), (41, .iconst 2, 0, 0, 2), (42, .if_icmp .eq (39), 81, 0, 0), (45, .iload_n 1, 0, 0, 0), (46, .iload_n 2, 0, 0, 0), (47, .invokestatic 63, 19, 2, 0), (50, .iconst 1, 0, 0, 1), (51, .if_icmp .ne (30), 81, 0, 0), (54, .aload_n 0, 0, 0, 0), (55, .aload_n 0, 0, 0, 0), (56, .getfield 37, 1, 13, 0), (59, .aload_n 0, 0, 0, 0), (60, .getfield 22, 1, 8, 0), (63, .iload_n 2, 0, 0, 0), (64, .iaload, 0, 0, 0), (65, .iaload, 0, 0, 0)]
def gk37_1 : List (Nat × gI) := [(66, .aload_n 0, 0, 0, 0), (67, .getfield 37, 1, 13, 0), (70, .aload_n 0, 0, 0, 0), (71, .getfield 25, 1, 9, 0), (74, .iload_n 2, 0, 0, 0), (75, .iaload, 0, 0, 0), (76, .iaload, 0, 0, 0), (77, .ior, 0, 0, 0), (78, .invokevirtual 108, 36, 1, 0), (81, .iinc 2 (1), 0, 0, 1), (84, .goto (-57), 27, 0, 0), (87, .return_, 0, 0, 0)]
def gk37 : List (Nat × gI) := gk37_0 ++ gk37_1
def gk38_0 : List (Nat × gI) := [(0, .iconst 0, 0, 0, 0), (1, .istore_n 2, 0, 0, 0), (2, .iconst 0, 0, 0, 0), (3, .istore_n 3, 0, 0, 0), (4, .iload_n 3, 0, 0, 0), (5, .aload_n 0, 0, 0, 0), (6, .getfield 9, 1, 0, 0), (9, .if_icmp .ge (27), 36, 0, 0), (12, .iload_n 1, 0, 0, 0), (13, .iload_n 3, 0, 0, 0), (14, .invokestatic 63, 19, 2, 0), (17, .iconst 1, 0, 0, 1), (18, .if_icmp .ne (12), 30, 0, 0), (21, .iload_n 2, 0, 0, 0), (22, .aload_n 0, 0, 0, 0), (23, .getfield 37, 1, 13, 0), (26, .iload_n 3, 0, 0, 0), (27, .iaload, 0, 0, 0), (28, .ior, 0, 0, 0), (29, .istore_n 2, 0, 0, 0), (30, .iinc 3 (1), 0, 0, 1), (33, .goto (-29), 4, 0, 0), (36, .iload_n 2, 0, 0, 0), (37, .ireturn, 0, 0, 0)]
def gk38 : List (Nat × gI) := gk38_0
def gk39_0 : List (Nat × gI) := [(0, .iconst 0, 0, 0, 0), (1, .istore_n 2, 0, 0, 0), (2, .iconst 0, 0, 0, 0), (3, .istore_n 3, 0, 0, 0), (4, .iload_n 3, 0, 0, 0), (5, .aload_n 0, 0, 0, 0), (6, .getfield 51, 1, 3, 0), (9, .if_icmp .ge (39), 48, 0, 0), (12, .aload_n 0, 0, 0, 0), (13, .getfield 15, 1, 6, 0), (16, .iload_n 3, 0, 0, 0), (17, .iaload, 0, 0, 0), (18, .iconst 2, 0, 0, 2), (19, .if_icmp .ne (23), 42, 0, 0), (22, .iload_n 1, 0, 0, 0), (23, .iload_n 3, 0, 0, 0), (24, .invokestatic 63, 19, 2, 0), (27, .iconst 1, 0, 0, 1), (28, .if_icmp .ne (14), 42, 0, 0), (31, .iload_n 2, 0, 0, 0), (32, .iconst 1, 0, 0, 1), (33, .aload_n 0, 0, 0, 0), (34, .getfield 22, 1, 8, 0), (37, .iload_n 3, 0, 0, 0), (38, .iaload, 0, 0, 0), (39, .ishl, 0, 0, 0), (40, .ior, 0, 0, 0), (41, .istore_n 2, 0, 0, 0), (42, .iinc 3 (1), 0, 0, 1), (45, .goto (-41), 4, 0, 0), (48, .iload_n 2, 0, 0, 0), (49, .ireturn, 0, 0, 0)]
def gk39 : List (Nat × gI) := gk39_0
def gk40_0 : List (Nat × gI) := [(0, .aload_n 0, 0, 0, 0), (1, .getfield 22, 1, 8, 0), (4, .iload_n 1, 0, 0, 0), (5, .iaload, 0, 0, 0), (6, .istore 4, 0, 0, 0), (8, .aload_n 0, 0, 0, 0), (9, .getfield 25, 1, 9, 0), (12, .iload_n 1, 0, 0, 0), (13, .iaload, 0, 0, 0), (14, .istore 5, 0, 0, 0), (16, .aload_n 0, 0, 0, 0), (17, .getfield 37, 1, 13, 0), (20, .iload 4, 0, 0, 0), (22, .iaload, 0, 0, 0), (23, .iload 5, 0, 0, 0), (25, .invokestatic 63, 19, 2, 0), (28, .iconst 1, 0, 0, 1), (29, .if_icmp .ne (5), 34, 0, 0), (32, .iconst 0, 0, 0, 0), (33, .ireturn, 0, 0, 0), (34, .iload_n 2, 0, 0, 0), (35, .iload 4, 0, 0, 0), (37, .invokestatic 63, 19, 2, 0), (40, .iconst 1, 0, 0, 1), (41, .if_icmp .ne (15), 56, 0, 0), (44, .iload_n 2, 0, 0, 0), (45, .iload_n 3, 0, 0, 0), (46, .ior, 0, 0, 0), (47, .iload 5, 0, 0, 0), (49, .invokestatic 63, 19, 2, 0), (52, .iconst 1, 0, 0, 1), (53, .if_icmp .eq (23), 76, 0, 0), (56, .iload_n 2, 0, 0, 0), (57, .iload 5, 0, 0, 0), (59, .invokestatic 63, 19, 2, 0), (62, .iconst 1, 0, 0, 1), (63, .if_icmp .ne (17), 80, 0, 0), (66, .iload_n 3, 0, 0, 0), (67, .iload 4, 0, 0, 0), (69, .invokestatic 63, 19, 2, 0)]
def gk40_1 : List (Nat × gI) := [(72, .iconst 1, 0, 0, 1), (73, .if_icmp .ne (7), 80, 0, 0), (76, .iconst 1, 0, 0, 1), (77, .goto (4), 81, 0, 0), (80, .iconst 0, 0, 0, 0), (81, .ireturn, 0, 0, 0)]
def gk40 : List (Nat × gI) := gk40_0 ++ gk40_1
def gk41_0 : List (Nat × gI) := [(0, .iconst 0, 0, 0, 0), (1, .istore_n 3, 0, 0, 0), (2, .iload_n 3, 0, 0, 0), (3, .aload_n 0, 0, 0, 0), (4, .getfield 51, 1, 3, 0), (7, .if_icmp .ge (70), 77, 0, 0), (10, .aload_n 0, 0, 0, 0), (11, .getfield 15, 1, 6, 0), (14, .iload_n 3, 0, 0, 0), (15, .iaload, 0, 0, 0), (16, .iconst 1, 0, 0, 1), (17, .if_icmp .ne (54), 71, 0, 0), (20, .iload_n 1, 0, 0, 0), (21, .iload_n 3, 0, 0, 0), (22, .invokestatic 63, 19, 2, 0), (25, .ifCond .ne (46), 71, 0, 0), (28, .aload_n 0, 0, 0, 0), (29, .iload_n 3, 0, 0, 0), (30, .aload_n 0, 0, 0, 0), (31, .getfield 28, 1, 10, 0), (34, .iload_n 1, 0, 0, 0), (35, .iaload, 0, 0, 0), (36, .iload_n 2, 0, 0, 0), (37, .invokevirtual 111, 40, 3, 0), (40, .ifCond .eq (31), 71, 0, 0), (43, .aload_n 0, 0, 0, 0), (44, .getfield 34, 1, 12, 0), (47, .iload_n 1, 0, 0, 0), (48, .dup2, 0, 0, 0), (49, .iaload, 0, 0, 0), (50, .iconst 1, 0, 0, 1), (51, .iload_n 3, 0, 0, 0), (52, .ishl, 0, 0, 0), (53, .ior, 0, 0, 0), (54, .iastore, 0, 0, 0), (55, .aload_n 0, 0, 0, 0), (56, .getfield 34, 1, 12, 0), (59, .iload_n 1, 0, 0, 0), (60, .iconst 1, 0, 0, 1), (61, .iload_n 3, 0, 0, 0)]
def gk41_1 : List (Nat × gI) := [(62, .ishl, 0, 0, 0), (63, .ior, 0, 0, 0), (64, .dup2, 0, 0, 0), (65, .iaload, 0, 0, 0), (66, .iconst 1, 0, 0, 1), (67, .iload_n 3, 0, 0, 0), (68, .ishl, 0, 0, 0), (69, .ior, 0, 0, 0), (70, .iastore, 0, 0, 0), (71, .iinc 3 (1), 0, 0, 1), (74, .goto (-72), 2, 0, 0), (77, .return_, 0, 0, 0)]
def gk41 : List (Nat × gI) := gk41_0 ++ gk41_1
def gk42_0 : List (Nat × gI) := [(0, .aload_n 0, 0, 0, 0), (1, .getfield 34, 1, 12, 0), (4, .iconst 0, 0, 0, 0), (5, .invokestatic 83, 34, 2, 0), (8, .iconst 0, 0, 0, 0), (9, .istore_n 1, 0, 0, 0), (10, .iload_n 1, 0, 0, 0), (11, .aload_n 0, 0, 0, 0), (12, .invokevirtual 89, 35, 0, 0), (15, .if_icmp .gt (56), 71, 0, 0), (18, .aload_n 0, 0, 0, 0), (19, .iload_n 1, 0, 0, 0), (20, .invokevirtual 93, 37, 1, 0), (23, .aload_n 0, 0, 0, 0), (24, .getfield 28, 1, 10, 0), (27, .iload_n 1, 0, 0, 0), (28, .aload_n 0, 0, 0, 0), (29, .aload_n 0, 0, 0, 0), (30, .getfield 46, 1, 1, 0), (33, .invokevirtual 97, 38, 1, 0), (36, .iastore, 0, 0, 0), (37, .aload_n 0, 0, 0, 0), (38, .getfield 31, 1, 11, 0), (41, .iload_n 1, 0, 0, 0), (42, .aload_n 0, 0, 0, 0), (43, .aload_n 0, 0, 0, 0), (44, .iload_n 1, 0, 0, 0), (45, .invokevirtual 101, 39, 1, 0), (48, .invokevirtual 97, 38, 1, 0), (51, .iastore, 0, 0, 0), (52, .aload_n 0, 0, 0, 0), (53, .iload_n 1, 0, 0, 0), (54, .aload_n 0, 0, 0, 0), (55, .aload_n 0, 0, 0, 0), (56, .getfield 50, 1, 2, 0), (59, .invokevirtual 97, 38, 1, 0), (62, .invokevirtual 104, 41, 2, 0), (65, .iinc 1 (1), 0, 0, 1), (68, .goto (-58), 10, 0, 0), (71, .return_, 0, 0, 0)]
def gk42 : List (Nat × gI) := gk42_0
def gk43_0 : List (Nat × gI) := [(0, .aload_n 0, 0, 0, 0), (1, .aload_n 1, 0, 0, 0), (2, .getfield 40, 0, 0, 0), (5, .putfield 9, 1, 0, 0), (8, .aload_n 0, 0, 0, 0), (9, .aload_n 1, 0, 0, 0), (10, .getfield 43, 0, 1, 0), (13, .putfield 46, 1, 1, 0), (16, .aload_n 0, 0, 0, 0), (17, .aload_n 1, 0, 0, 0), (18, .getfield 47, 0, 2, 0), (21, .putfield 50, 1, 2, 0), (24, .aload_n 0, 0, 0, 0), (25, .iconst 0, 0, 0, 0), (26, .putfield 51, 1, 3, 0), (29, .aload_n 0, 0, 0, 0), (30, .iconst 0, 0, 0, 0), (31, .putfield 54, 1, 4, 0), (34, .aload_n 0, 0, 0, 0), (35, .iconst 0, 0, 0, 0), (36, .putfield 57, 1, 5, 0), (39, .iconst 0, 0, 0, 0), (40, .istore_n 2, 0, 0, 0), (41, .iload_n 2, 0, 0, 0), (42, .iconst 3, 0, 0, 3), (43, .if_icmp .ge (60), 103, 0, 0), (46, .iconst 0, 0, 0, 0), (47, .istore_n 3, 0, 0, 0), (48, .iload_n 3, 0, 0, 0), (49, .bipush (26), 0, 0, 26), (51, .if_icmp .ge (46), 97, 0, 0), (54, .aload_n 1, 0, 0, 0), (55, .getfield 60, 0, 3, 0), (58, .iload_n 3, 0, 0, 0), (59, .invokestatic 63, 19, 2, 0), (62, .iconst 1, 0, 0, 1), (63, .if_icmp .ne (28), 91, 0, 0), (66, .aload_n 1, 0, 0, 0), (67, .getfield 67, 0, 6, 0), (70, .iload_n 3, 0, 0, 0)]
def gk43_1 : List (Nat × gI) := [(71, .iaload, 0, 0, 0), (72, .iload_n 2, 0, 0, 0), (73, .if_icmp .ne (18), 91, 0, 0), (76, .aload_n 0, 0, 0, 0), (77, .getfield 51, 1, 3, 0), (80, .bipush (8), 0, 0, 8), (82, .if_icmp .ge (9), 91, 0, 0), (85, .aload_n 0, 0, 0, 0), (86, .aload_n 1, 0, 0, 0), (87, .iload_n 3, 0, 0, 0), (88, .invokevirtual 68, 33, 2, 0), (91, .iinc 3 (1), 0, 0, 1), (94, .goto (-46), 48, 0, 0), (97, .iinc 2 (1), 0, 0, 1), (100, .goto (-59), 41, 0, 0), (103, .aload_n 0, 0, 0, 0), (104, .invokevirtual 72, 42, 0, 0), (107, .return_, 0, 0, 0)]
def gk43 : List (Nat × gI) := gk43_0 ++ gk43_1
def gk44_0 : List (Nat × gI) := [(0, .aload_n 0, 0, 0, 0), (1, .getfield 28, 1, 10, 0), (4, .iload_n 1, 0, 0, 0), (5, .iaload, 0, 0, 0), (6, .aload_n 0, 0, 0, 0), (7, .getfield 31, 1, 11, 0), (10, .iload_n 1, 0, 0, 0), (11, .iaload, 0, 0, 0), (12, .iand, 0, 0, 0), (13, .ifCond .ne (7), 20, 0, 0), (16, .iconst 1, 0, 0, 1), (17, .goto (4), 21, 0, 0), (20, .iconst 0, 0, 0, 0), (21, .ireturn, 0, 0, 0)]
def gk44 : List (Nat × gI) := gk44_0
def gk45_0 : List (Nat × gI) := [(0, .aload_n 0, 0, 0, 0), (1, .getfield 19, 3, 1, 0), (4, .aload_n 0, 0, 0, 0), (5, .getfield 12, 3, 0, 0), (8, .invokevirtual 62, 32, 1, 0), (11, .istore_n 1, 0, 0, 0), (12, .iload_n 1, 0, 0, 0), (13, .ifCond .ge (14), 27, 0, 0), (16, .bipush (-10), 0, 0, (-10)), (18, .aload_n 0, 0, 0, 0), (19, .getfield 12, 3, 0, 0), (22, .getfield 66, 2, 3, 0), (25, .isub, 0, 0, 0), (26, .ireturn, 0, 0, 0), (27, .aload_n 0, 0, 0, 0), (28, .getfield 30, 3, 3, 0), (31, .aload_n 0, 0, 0, 0), (32, .getfield 19, 3, 1, 0), (35, .invokevirtual 69, 43, 1, 0), (38, .aload_n 0, 0, 0, 0), (39, .getfield 30, 3, 3, 0), (42, .aload_n 0, 0, 0, 0), (43, .getfield 30, 3, 3, 0), (46, .getfield 73, 1, 4, 0), (49, .invokevirtual 76, 44, 1, 0), (52, .ifCond .ne (14), 66, 0, 0), (55, .bipush (-10), 0, 0, (-10)), (57, .aload_n 0, 0, 0, 0), (58, .getfield 12, 3, 0, 0), (61, .getfield 55, 2, 1, 0), (64, .isub, 0, 0, 0), (65, .ireturn, 0, 0, 0), (66, .aload_n 0, 0, 0, 0), (67, .getfield 26, 3, 2, 0), (70, .astore_n 2, 0, 0, 0), (71, .aload_n 0, 0, 0, 0), (72, .aload_n 0, 0, 0, 0), (73, .getfield 30, 3, 3, 0), (76, .putfield 26, 3, 2, 0), (79, .aload_n 0, 0, 0, 0)]
def gk45_1 : List (Nat × gI) := [(80, .aload_n 2, 0, 0, 0), (81, .putfield 30, 3, 3, 0), (84, .aload_n 0, 0, 0, 0), (85, .getfield 12, 3, 0, 0), (88, .iconst 0, 0, 0, 0), (89, .putfield 55, 2, 1, 0), (92, .aload_n 0, 0, 0, 0), (93, .invokevirtual 52, 4, 0, 0), (96, .iload_n 1, 0, 0, 0), (97, .ireturn, 0, 0, 0)]
def gk45 : List (Nat × gI) := gk45_0 ++ gk45_1
def gk46_0 : List (Nat × gI) := [(0, .iload_n 1, 0, 0, 0), (1, .aload_n 0, 0, 0, 0), (2, .getfield 70, 4, 2, 0), (5, .if_icmp .ge (12), 17, 0, 0), (8, .aload_n 0, 0, 0, 0), (9, .getfield 7, 4, 1, 0), (12, .iload_n 1, 0, 0, 0), (13, .iaload, 0, 0, 0), (14, .goto (4), 18, 0, 0), (17, .iconst (-1), 0, 0, (-1)), (18, .ireturn, 0, 0, 0)]
def gk46 : List (Nat × gI) := gk46_0
def gk47_0 : List (Nat × gI) := [(0, .aload_n 0, 0, 0, 0), (1, .aload_n 0, 0, 0, 0), (2, .getfield 73, 4, 3, 0), (5, .invokevirtual 76, 46, 1, 0), (8, .bipush (32), 0, 0, 32), (10, .if_icmp .ne (16), 26, 0, 0), (13, .aload_n 0, 0, 0, 0), (14, .dup, 0, 0, 0), (15, .getfield 73, 4, 3, 0), (18, .iconst 1, 0, 0, 1), (19, .iadd, 0, 0, 0), (20, .putfield 73, 4, 3, 0), (23, .goto (-23), 0, 0, 0), (26, .aload_n 0, 0, 0, 0), (27, .aload_n 0, 0, 0, 0), (28, .getfield 73, 4, 3, 0), (31, .putfield 80, 4, 5, 0), (34, .aload_n 0, 0, 0, 0), (35, .aload_n 0, 0, 0, 0), (36, .getfield 73, 4, 3, 0), (39, .invokevirtual 76, 46, 1, 0), (42, .istore_n 1, 0, 0, 0), (43, .iload_n 1, 0, 0, 0), (44, .ifCond .ge (11), 55, 0, 0), (47, .aload_n 0, 0, 0, 0), (48, .iconst 0, 0, 0, 0), (49, .putfield 83, 4, 4, 0), (52, .goto (174), 226, 0, 0), (55, .iload_n 1, 0, 0, 0), (56, .bipush (48), 0, 0, 48), (58, .bipush (57), 0, 0, 57), (60, .invokestatic 66, 10, 3, 0), (63, .ifCond .eq (118), 181, 0, 0), (66, .aload_n 0, 0, 0, 0), (67, .iconst 0, 0, 0, 0), (68, .putfield 86, 4, 6, 0), (71, .aload_n 0, 0, 0, 0), (72, .aload_n 0, 0, 0, 0), (73, .getfield 73, 4, 3, 0), (76, .invokevirtual 76, 46, 1, 0)]
def gk47_1 : List (Nat × gI) := [(79, .bipush (48), 0, 0, 48), (81, .bipush (57), 0, 0, 57), (83, .invokestatic 66, 10, 3, 0), (86, .ifCond .eq (55), 141, 0, 0), (89, .aload_n 0, 0, 0, 0), (90, .aload_n 0, 0, 0, 0), (91, .getfield 86, 4, 6, 0), (94, .bipush (99), 0, 0, 99), (96, .if_icmp .le (10), 106, 0, 0), (99, .aload_n 0, 0, 0, 0), (100, .getfield 86, 4, 6, 0), (103, .goto (22), 125, 0, 0), (106, .bipush (10), 0, 0, 10), (108, .aload_n 0, 0, 0, 0), (109, .getfield 86, 4, 6, 0), (112, .imul, 0, 0, 0), (113, .aload_n 0, 0, 0, 0), (114, .aload_n 0, 0, 0, 0), (115, .getfield 73, 4, 3, 0), (118, .invokevirtual 76, 46, 1, 0), (121, .iadd, 0, 0, 0), (122, .bipush (48), 0, 0, 48), (124, .isub, 0, 0, 0), (125, .putfield 86, 4, 6, 0), (128, .aload_n 0, 0, 0, 0), (129, .dup, 0, 0, 0), (130, .getfield 73, 4, 3, 0), (133, .iconst 1, 0, 0, 1), (134, .iadd, 0, 0, 0), (135, .putfield 73, 4, 3, 0), (138, .goto (-67), 71, 0, 0), (141, .aload_n 0, 0, 0, 0), (142, .aload_n 0, 0, 0, 0), (143, .getfield 86, 4, 6, 0), (146, .bipush (99), 0, 0, 99), (148, .if_icmp .gt (22), 170, 0, 0), (151, .iload_n 1, 0, 0, 0), (152, .bipush (48), 0, 0, 48), (154, .if_icmp .ne (20), 174, 0, 0), (157, .aload_n 0, 0, 0, 0)]
def gk47_2 : List (Nat × gI) := [(158, .getfield 73, 4, 3, 0), (161, .aload_n 0, 0, 0, 0), (162, .getfield 80, 4, 5, 0), (165, .isub, 0, 0, 0), (166, .iconst 1, 0, 0, 1), (167, .if_icmp .le (7), 174, 0, 0), (170, .iconst 4, 0, 0, 4), (171, .goto (4), 175, 0, 0), (174, .iconst 2, 0, 0, 2), (175, .putfield 83, 4, 4, 0), (178, .goto (48), 226, 0, 0), (181, .aload_n 0, 0, 0, 0), (182, .dup, 0, 0, 0), (183, .getfield 73, 4, 3, 0), (186, .iconst 1, 0, 0, 1), (187, .iadd, 0, 0, 0), (188, .putfield 73, 4, 3, 0), (191, .aload_n 0, 0, 0, 0), (192, .iload_n 1, 0, 0, 0), (193, .putfield 86, 4, 6, 0), (196, .aload_n 0, 0, 0, 0), (197, .iload_n 1, 0, 0, 0), (198, .bipush (59), 0, 0, 59), (200, .if_icmp .ne (7), 207, 0, 0), (203, .iconst 3, 0, 0, 3), (204, .goto (19), 223, 0, 0), (207, .iload_n 1, 0, 0, 0), (208, .bipush (97), 0, 0, 97), (210, .bipush (122), 0, 0, 122), (212, .invokestatic 66, 10, 3, 0), (215, .ifCond .eq (7), 222, 0, 0), (218, .iconst 1, 0, 0, 1), (219, .goto (4), 223, 0, 0), (222, .iconst 4, 0, 0, 4), (223, .putfield 83, 4, 4, 0), (226, .return_, 0, 0, 0)]
def gk47 : List (Nat × gI) := gk47_0 ++ gk47_1 ++ gk47_2
def gk48_0 : List (Nat × gI) := [(0, .aload_n 0, 0, 0, 0), (1, .getfield 89, 4, 7, 0), (4, .ifCond .ge (7), 11, 0, 0), (7, .iconst 1, 0, 0, 1), (8, .goto (4), 12, 0, 0), (11, .iconst 0, 0, 0, 0), (12, .ireturn, 0, 0, 0)]
def gk48 : List (Nat × gI) := gk48_0
def gk49_0 : List (Nat × gI) := [(0, .aload_n 0, 0, 0, 0), (1, .getfield 86, 4, 6, 0), (4, .bipush (98), 0, 0, 98), (6, .if_icmp .eq (21), 27, 0, 0), (9, .aload_n 0, 0, 0, 0), (10, .getfield 86, 4, 6, 0), (13, .bipush (105), 0, 0, 105), (15, .if_icmp .eq (12), 27, 0, 0), (18, .aload_n 0, 0, 0, 0), (19, .getfield 86, 4, 6, 0), (22, .bipush (101), 0, 0, 101), (24, .if_icmp .ne (7), 31, 0, 0), (27, .iconst 1, 0, 0, 1), (28, .goto (4), 32, 0, 0), (31, .iconst 0, 0, 0, 0), (32, .istore_n 2, 0, 0, 0), (33, .iload_n 2, 0, 0, 0), (34, .ifCond .eq (22), 56, 0, 0), (37, .aload_n 0, 0, 0, 0), (38, .getfield 16, 4, 9, 0), (41, .iconst 3, 0, 0, 3), (42, .iaload, 0, 0, 0), (43, .bipush (8), 0, 0, 8), (45, .if_icmp .ge (7), 52, 0, 0), (48, .iconst 1, 0, 0, 1), (49, .goto (69), 118, 0, 0), (52, .iconst 0, 0, 0, 0), (53, .goto (65), 118, 0, 0), (56, .aload_n 0, 0, 0, 0), (57, .getfield 86, 4, 6, 0), (60, .bipush (110), 0, 0, 110), (62, .if_icmp .ne (15), 77, 0, 0), (65, .iload_n 1, 0, 0, 0), (66, .ifCond .ne (7), 73, 0, 0), (69, .iconst 1, 0, 0, 1), (70, .goto (48), 118, 0, 0), (73, .iconst 0, 0, 0, 0), (74, .goto (44), 118, 0, 0), (77, .aload_n 0, 0, 0, 0), (78, .getfield 86, 4, 6, 0)]
def gk49_1 : List (Nat × gI) := [(81, .bipush (115), 0, 0, 115), (83, .if_icmp .eq (30), 113, 0, 0), (86, .aload_n 0, 0, 0, 0), (87, .getfield 86, 4, 6, 0), (90, .bipush (100), 0, 0, 100), (92, .if_icmp .eq (21), 113, 0, 0), (95, .aload_n 0, 0, 0, 0), (96, .getfield 86, 4, 6, 0), (99, .bipush (99), 0, 0, 99), (101, .if_icmp .eq (12), 113, 0, 0), (104, .aload_n 0, 0, 0, 0), (105, .getfield 86, 4, 6, 0), (108, .bipush (107), 0, 0, 107), (110, .if_icmp .ne (7), 117, 0, 0), (113, .iconst 1, 0, 0, 1), (114, .goto (4), 118, 0, 0), (117, .iconst 0, 0, 0, 0), (118, .ireturn, 0, 0, 0)]
def gk49 : List (Nat × gI) := gk49_0 ++ gk49_1
def gk50_0 : List (Nat × gI) := [(0, .aload_n 0, 0, 0, 0), (1, .invokevirtual 92, 48, 0, 0), (4, .ifCond .ne (5), 9, 0, 0), (7, .iconst 0, 0, 0, 0), (8, .ireturn, 0, 0, 0), (9, .iload_n 1, 0, 0, 0), (10, .ifCond .ne (13), 23, 0, 0), (13, .aload_n 0, 0, 0, 0), (14, .aload_n 0, 0, 0, 0), (15, .getfield 80, 4, 5, 0), (18, .putfield 89, 4, 7, 0), (21, .iconst 0, 0, 0, 0), (22, .ireturn, 0, 0, 0), (23, .aload_n 0, 0, 0, 0), (24, .getfield 86, 4, 6, 0), (27, .istore_n 2, 0, 0, 0), (28, .aload_n 0, 0, 0, 0), (29, .invokevirtual 96, 47, 0, 0), (32, .iload_n 2, 0, 0, 0), (33, .ireturn, 0, 0, 0)]
def gk50 : List (Nat × gI) := gk50_0
def gk51_0 : List (Nat × gI) := [(0, .aload_n 0, 0, 0, 0), (1, .getfield 83, 4, 4, 0), (4, .iconst 2, 0, 0, 2), (5, .if_icmp .ne (19), 24, 0, 0), (8, .aload_n 0, 0, 0, 0), (9, .getfield 86, 4, 6, 0), (12, .iload_n 1, 0, 0, 0), (13, .iload_n 2, 0, 0, 0), (14, .invokestatic 66, 10, 3, 0), (17, .ifCond .eq (7), 24, 0, 0), (20, .iconst 1, 0, 0, 1), (21, .goto (4), 25, 0, 0), (24, .iconst 0, 0, 0, 0), (25, .ireturn, 0, 0, 0)]
def gk51 : List (Nat × gI) := gk51_0
def gk52_0 : List (Nat × gI) := [(0, .bipush (-9), 0, 0, (-9)), (2, .istore_n 2, 0, 0, 0), (3, .iconst 0, 0, 0, 0), (4, .istore_n 3, 0, 0, 0), (5, .iload_n 3, 0, 0, 0), (6, .aload_n 0, 0, 0, 0), (7, .iconst 3, 0, 0, 3), (8, .iaload, 0, 0, 0), (9, .if_icmp .ge (25), 34, 0, 0), (12, .aload_n 0, 0, 0, 0), (13, .bipush (12), 0, 0, 12), (15, .iload_n 3, 0, 0, 0), (16, .iadd, 0, 0, 0), (17, .iaload, 0, 0, 0), (18, .iload_n 1, 0, 0, 0), (19, .if_icmp .ne (7), 26, 0, 0), (22, .iload_n 3, 0, 0, 0), (23, .goto (4), 27, 0, 0), (26, .iload_n 2, 0, 0, 0), (27, .istore_n 2, 0, 0, 0), (28, .iinc 3 (1), 0, 0, 1), (31, .goto (-26), 5, 0, 0), (34, .iload_n 2, 0, 0, 0), (35, .ireturn, 0, 0, 0)]
def gk52 : List (Nat × gI) := gk52_0
def gk53_0 : List (Nat × gI) := [(0, .iload_n 0, 0, 0, 0), (1, .iload_n 1, 0, 0, 0), (2, .ishr, 0, 0, 0), (3, .iconst 1, 0, 0, 1), (4, .iand, 0, 0, 0), (5, .iconst 1, 0, 0, 1), (6, .if_icmp .ne (7), 13, 0, 0), (9, .iconst 1, 0, 0, 1), (10, .goto (4), 14, 0, 0), (13, .iconst 0, 0, 0, 0), (14, .ireturn, 0, 0, 0)]
def gk53 : List (Nat × gI) := gk53_0
def gk54_0 : List (Nat × gI) := [(0, .iload_n 2, 0, 0, 0), (1, .ifCond .eq (30), 31, 0, 0), (4, .aload_n 0, 0, 0, 0), (5, .getfield 83, 4, 4, 0), (8, .iconst 1, 0, 0, 1), (9, .if_icmp .ne (17), 26, 0, 0), (12, .aload_n 0, 0, 0, 0), (13, .getfield 16, 4, 9, 0), (16, .aload_n 0, 0, 0, 0), (17, .getfield 86, 4, 6, 0), (20, .invokestatic 99, 52, 2, 0), (23, .goto (33), 56, 0, 0), (26, .bipush (-9), 0, 0, (-9)), (28, .goto (28), 56, 0, 0), (31, .aload_n 0, 0, 0, 0), (32, .iconst 0, 0, 0, 0), (33, .aload_n 0, 0, 0, 0), (34, .getfield 16, 4, 9, 0), (37, .iconst 0, 0, 0, 0), (38, .iaload, 0, 0, 0), (39, .iconst 1, 0, 0, 1), (40, .isub, 0, 0, 0), (41, .invokevirtual 107, 51, 2, 0), (44, .ifCond .eq (10), 54, 0, 0), (47, .aload_n 0, 0, 0, 0), (48, .getfield 86, 4, 6, 0), (51, .goto (5), 56, 0, 0), (54, .bipush (-9), 0, 0, (-9)), (56, .istore_n 3, 0, 0, 0), (57, .iload_n 3, 0, 0, 0), (58, .bipush (-9), 0, 0, (-9)), (60, .if_icmp .eq (15), 75, 0, 0), (63, .iload_n 1, 0, 0, 0), (64, .iload_n 3, 0, 0, 0), (65, .invokestatic 111, 53, 2, 0), (68, .ifCond .ne (7), 75, 0, 0), (71, .iconst 1, 0, 0, 1), (72, .goto (4), 76, 0, 0), (75, .iconst 0, 0, 0, 0), (76, .istore 4, 0, 0, 0)]
def gk54_1 : List (Nat × gI) := [(78, .aload_n 0, 0, 0, 0), (79, .iload 4, 0, 0, 0), (81, .invokevirtual 103, 50, 1, 0), (84, .pop, 0, 0, 0), (85, .iload 4, 0, 0, 0), (87, .ifCond .eq (11), 98, 0, 0), (90, .iload_n 1, 0, 0, 0), (91, .iconst 1, 0, 0, 1), (92, .iload_n 3, 0, 0, 0), (93, .ishl, 0, 0, 0), (94, .ior, 0, 0, 0), (95, .goto (4), 99, 0, 0), (98, .iload_n 1, 0, 0, 0), (99, .ireturn, 0, 0, 0)]
def gk54 : List (Nat × gI) := gk54_0 ++ gk54_1
def gk55_0 : List (Nat × gI) := [(0, .aload_n 0, 0, 0, 0), (1, .getfield 16, 4, 9, 0), (4, .iconst 3, 0, 0, 3), (5, .iaload, 0, 0, 0), (6, .istore_n 2, 0, 0, 0), (7, .aload_n 0, 0, 0, 0), (8, .getfield 16, 4, 9, 0), (11, .iconst 4, 0, 0, 4), (12, .iload_n 2, 0, 0, 0), (13, .iadd, 0, 0, 0), (14, .iload_n 1, 0, 0, 0), (15, .bipush (98), 0, 0, 98), (17, .if_icmp .ne (7), 24, 0, 0), (20, .iconst 0, 0, 0, 0), (21, .goto (14), 35, 0, 0), (24, .iload_n 1, 0, 0, 0), (25, .bipush (105), 0, 0, 105), (27, .if_icmp .ne (7), 34, 0, 0), (30, .iconst 1, 0, 0, 1), (31, .goto (4), 35, 0, 0), (34, .iconst 2, 0, 0, 2), (35, .iastore, 0, 0, 0), (36, .aload_n 0, 0, 0, 0), (37, .getfield 16, 4, 9, 0), (40, .bipush (12), 0, 0, 12), (42, .iload_n 2, 0, 0, 0), (43, .iadd, 0, 0, 0), (44, .aload_n 0, 0, 0, 0), (45, .aload_n 0, 0, 0, 0), (46, .getfield 83, 4, 4, 0), (49, .iconst 1, 0, 0, 1), (50, .if_icmp .ne (23), 73, 0, 0), (53, .aload_n 0, 0, 0, 0), (54, .getfield 16, 4, 9, 0), (57, .aload_n 0, 0, 0, 0), (58, .getfield 86, 4, 6, 0), (61, .invokestatic 99, 52, 2, 0), (64, .bipush (-9), 0, 0, (-9)), (66, .if_icmp .ne (7), 73, 0, 0), (69, .iconst 1, 0, 0, 1)]
def gk55_1 : List (Nat × gI) := [(70, .goto (4), 74, 0, 0), (73, .iconst 0, 0, 0, 0), (74, .invokevirtual 103, 50, 1, 0), (77, .iastore, 0, 0, 0), (78, .aload_n 0, 0, 0, 0), (79, .getfield 16, 4, 9, 0), (82, .bipush (20), 0, 0, 20), (84, .iload_n 2, 0, 0, 0), (85, .iadd, 0, 0, 0), (86, .aload_n 0, 0, 0, 0), (87, .aload_n 0, 0, 0, 0), (88, .iconst 0, 0, 0, 0), (89, .aload_n 0, 0, 0, 0), (90, .getfield 16, 4, 9, 0), (93, .iconst 0, 0, 0, 0), (94, .iaload, 0, 0, 0), (95, .iconst 1, 0, 0, 1), (96, .isub, 0, 0, 0), (97, .invokevirtual 107, 51, 2, 0), (100, .invokevirtual 103, 50, 1, 0), (103, .iastore, 0, 0, 0), (104, .aload_n 0, 0, 0, 0), (105, .getfield 16, 4, 9, 0), (108, .bipush (28), 0, 0, 28), (110, .iload_n 2, 0, 0, 0), (111, .iadd, 0, 0, 0), (112, .iload_n 1, 0, 0, 0), (113, .bipush (101), 0, 0, 101), (115, .if_icmp .ne (8), 123, 0, 0), (118, .bipush (-9), 0, 0, (-9)), (120, .goto (44), 164, 0, 0), (123, .aload_n 0, 0, 0, 0), (124, .aload_n 0, 0, 0, 0), (125, .iconst 0, 0, 0, 0), (126, .aload_n 0, 0, 0, 0), (127, .getfield 16, 4, 9, 0), (130, .iconst 0, 0, 0, 0), (131, .iaload, 0, 0, 0), (132, .iconst 1, 0, 0, 1), (133, .isub, 0, 0, 0)]
def gk55_2 : List (Nat × gI) := [(134, .invokevirtual 107, 51, 2, 0), (137, .ifCond .eq (23), 160, 0, 0), (140, .aload_n 0, 0, 0, 0), (141, .getfield 86, 4, 6, 0), (144, .aload_n 0, 0, 0, 0), (145, .getfield 16, 4, 9, 0), (148, .bipush (20), 0, 0, 20), (150, .iload_n 2, 0, 0, 0), (151, .iadd, 0, 0, 0), (152, .iaload, 0, 0, 0), (153, .if_icmp .eq (7), 160, 0, 0), (156, .iconst 1, 0, 0, 1), (157, .goto (4), 161, 0, 0), (160, .iconst 0, 0, 0, 0), (161, .invokevirtual 103, 50, 1, 0), (164, .iastore, 0, 0, 0), (165, .aload_n 0, 0, 0, 0), (166, .getfield 16, 4, 9, 0), (169, .iconst 3, 0, 0, 3), (170, .dup2, 0, 0, 0), (171, .iaload, 0, 0, 0), (172, .iconst 1, 0, 0, 1), (173, .iadd, 0, 0, 0), (174, .iastore, 0, 0, 0), (175, .return_, 0, 0, 0)]
def gk55 : List (Nat × gI) := gk55_0 ++ gk55_1 ++ gk55_2
def gk56_0 : List (Nat × gI) := [(0, .iload_n 1, 0, 0, 0), (1, .bipush (110), 0, 0, 110), (3, .if_icmp .ne (23), 26, 0, 0), (6, .aload_n 0, 0, 0, 0), (7, .getfield 16, 4, 9, 0), (10, .iconst 0, 0, 0, 0), (11, .aload_n 0, 0, 0, 0), (12, .aload_n 0, 0, 0, 0), (13, .iconst 2, 0, 0, 2), (14, .bipush (6), 0, 0, 6), (16, .invokevirtual 107, 51, 2, 0), (19, .invokevirtual 103, 50, 1, 0), (22, .iastore, 0, 0, 0), (23, .goto (112), 135, 0, 0), (26, .iload_n 1, 0, 0, 0), (27, .bipush (115), 0, 0, 115), (29, .if_icmp .ne (23), 52, 0, 0), (32, .aload_n 0, 0, 0, 0), (33, .getfield 16, 4, 9, 0), (36, .iconst 1, 0, 0, 1), (37, .aload_n 0, 0, 0, 0), (38, .aload_n 0, 0, 0, 0), (39, .getfield 16, 4, 9, 0), (42, .iconst 1, 0, 0, 1), (43, .iaload, 0, 0, 0), (44, .iconst 0, 0, 0, 0), (45, .invokevirtual 114, 54, 2, 0), (48, .iastore, 0, 0, 0), (49, .goto (86), 135, 0, 0), (52, .iload_n 1, 0, 0, 0), (53, .bipush (100), 0, 0, 100), (55, .if_icmp .ne (23), 78, 0, 0), (58, .aload_n 0, 0, 0, 0), (59, .getfield 16, 4, 9, 0), (62, .iconst 2, 0, 0, 2), (63, .aload_n 0, 0, 0, 0), (64, .aload_n 0, 0, 0, 0), (65, .getfield 16, 4, 9, 0), (68, .iconst 2, 0, 0, 2), (69, .iaload, 0, 0, 0)]
def gk56_1 : List (Nat × gI) := [(70, .iconst 0, 0, 0, 0), (71, .invokevirtual 114, 54, 2, 0), (74, .iastore, 0, 0, 0), (75, .goto (60), 135, 0, 0), (78, .iload_n 1, 0, 0, 0), (79, .bipush (99), 0, 0, 99), (81, .if_icmp .ne (23), 104, 0, 0), (84, .aload_n 0, 0, 0, 0), (85, .getfield 19, 4, 10, 0), (88, .iconst 0, 0, 0, 0), (89, .aload_n 0, 0, 0, 0), (90, .aload_n 0, 0, 0, 0), (91, .getfield 19, 4, 10, 0), (94, .iconst 0, 0, 0, 0), (95, .iaload, 0, 0, 0), (96, .iconst 1, 0, 0, 1), (97, .invokevirtual 114, 54, 2, 0), (100, .iastore, 0, 0, 0), (101, .goto (34), 135, 0, 0), (104, .iload_n 1, 0, 0, 0), (105, .bipush (107), 0, 0, 107), (107, .if_icmp .ne (23), 130, 0, 0), (110, .aload_n 0, 0, 0, 0), (111, .getfield 19, 4, 10, 0), (114, .iconst 1, 0, 0, 1), (115, .aload_n 0, 0, 0, 0), (116, .aload_n 0, 0, 0, 0), (117, .getfield 19, 4, 10, 0), (120, .iconst 1, 0, 0, 1), (121, .iaload, 0, 0, 0), (122, .iconst 1, 0, 0, 1), (123, .invokevirtual 114, 54, 2, 0), (126, .iastore, 0, 0, 0), (127, .goto (8), 135, 0, 0), (130, .aload_n 0, 0, 0, 0), (131, .iload_n 1, 0, 0, 0), (132, .invokevirtual 118, 55, 1, 0), (135, .return_, 0, 0, 0)]
def gk56 : List (Nat × gI) := gk56_0 ++ gk56_1
def gk57_0 : List (Nat × gI) := [(0, .iconst 4, 0, 0, 4), (1, .istore_n 2, 0, 0, 0), (2, .iload_n 2, 0, 0, 0), (3, .bipush (36), 0, 0, 36), (5, .if_icmp .ge (47), 52, 0, 0), (8, .aload_n 0, 0, 0, 0), (9, .getfield 16, 4, 9, 0), (12, .iload_n 2, 0, 0, 0), (13, .iload_n 1, 0, 0, 0), (14, .iadd, 0, 0, 0), (15, .iaload, 0, 0, 0), (16, .istore_n 3, 0, 0, 0), (17, .aload_n 0, 0, 0, 0), (18, .getfield 16, 4, 9, 0), (21, .iload_n 2, 0, 0, 0), (22, .iload_n 1, 0, 0, 0), (23, .iadd, 0, 0, 0), (24, .aload_n 0, 0, 0, 0), (25, .getfield 16, 4, 9, 0), (28, .iload_n 2, 0, 0, 0), (29, .iload_n 1, 0, 0, 0), (30, .iadd, 0, 0, 0), (31, .iconst 1, 0, 0, 1), (32, .iadd, 0, 0, 0), (33, .iaload, 0, 0, 0), (34, .iastore, 0, 0, 0), (35, .aload_n 0, 0, 0, 0), (36, .getfield 16, 4, 9, 0), (39, .iload_n 2, 0, 0, 0), (40, .iload_n 1, 0, 0, 0), (41, .iadd, 0, 0, 0), (42, .iconst 1, 0, 0, 1), (43, .iadd, 0, 0, 0), (44, .iload_n 3, 0, 0, 0), (45, .iastore, 0, 0, 0), (46, .iinc 2 (8), 0, 0, 8), (49, .goto (-47), 2, 0, 0), (52, .iconst 0, 0, 0, 0), (53, .istore_n 2, 0, 0, 0), (54, .iload_n 2, 0, 0, 0)]
def gk57_1 : List (Nat × gI) := [(55, .iconst 1, 0, 0, 1), (56, .if_icmp .gt (46), 102, 0, 0), (59, .aload_n 0, 0, 0, 0), (60, .getfield 19, 4, 10, 0), (63, .iload_n 2, 0, 0, 0), (64, .iaload, 0, 0, 0), (65, .iload_n 1, 0, 0, 0), (66, .invokestatic 111, 53, 2, 0), (69, .aload_n 0, 0, 0, 0), (70, .getfield 19, 4, 10, 0), (73, .iload_n 2, 0, 0, 0), (74, .iaload, 0, 0, 0), (75, .iload_n 1, 0, 0, 0), (76, .iconst 1, 0, 0, 1), (77, .iadd, 0, 0, 0), (78, .invokestatic 111, 53, 2, 0), (81, .if_icmp .eq (15), 96, 0, 0), (84, .aload_n 0, 0, 0, 0), (85, .getfield 19, 4, 10, 0), (88, .iload_n 2, 0, 0, 0), (89, .dup2, 0, 0, 0), (90, .iaload, 0, 0, 0), (91, .iconst 3, 0, 0, 3), (92, .iload_n 1, 0, 0, 0), (93, .ishl, 0, 0, 0), (94, .ixor, 0, 0, 0), (95, .iastore, 0, 0, 0), (96, .iinc 2 (1), 0, 0, 1), (99, .goto (-45), 54, 0, 0), (102, .return_, 0, 0, 0)]
def gk57 : List (Nat × gI) := gk57_0 ++ gk57_1
def gk58_0 : List (Nat × gI) := [(0, .iconst 0, 0, 0, 0), (1, .istore_n 1, 0, 0, 0), (2, .iload_n 1, 0, 0, 0), (3, .aload_n 0, 0, 0, 0), (4, .getfield 16, 4, 9, 0), (7, .iconst 3, 0, 0, 3), (8, .iaload, 0, 0, 0), (9, .if_icmp .ge (83), 92, 0, 0), (12, .iconst 0, 0, 0, 0), (13, .istore_n 2, 0, 0, 0), (14, .iload_n 2, 0, 0, 0), (15, .iconst 1, 0, 0, 1), (16, .iadd, 0, 0, 0), (17, .aload_n 0, 0, 0, 0), (18, .getfield 16, 4, 9, 0), (21, .iconst 3, 0, 0, 3), (22, .iaload, 0, 0, 0), (23, .if_icmp .ge (63), 86, 0, 0), (26, .bipush (100), 0, 0, 100), (28, .aload_n 0, 0, 0, 0), (29, .getfield 16, 4, 9, 0), (32, .iconst 4, 0, 0, 4), (33, .iload_n 2, 0, 0, 0), (34, .iadd, 0, 0, 0), (35, .iaload, 0, 0, 0), (36, .imul, 0, 0, 0), (37, .aload_n 0, 0, 0, 0), (38, .getfield 16, 4, 9, 0), (41, .bipush (12), 0, 0, 12), (43, .iload_n 2, 0, 0, 0), (44, .iadd, 0, 0, 0), (45, .iaload, 0, 0, 0), (46, .iadd, 0, 0, 0), (47, .bipush (100), 0, 0, 100), (49, .aload_n 0, 0, 0, 0), (50, .getfield 16, 4, 9, 0), (53, .iconst 4, 0, 0, 4), (54, .iload_n 2, 0, 0, 0), (55, .iadd, 0, 0, 0), (56, .iconst 1, 0, 0, 1)]
def gk58_1 : List (Nat × gI) := [(57, .iadd, 0, 0, 0), (58, .iaload, 0, 0, 0), (59, .imul, 0, 0, 0), (60, .aload_n 0, 0, 0, 0), (61, .getfield 16, 4, 9, 0), (64, .bipush (12), 0, 0, 12), (66, .iload_n 2, 0, 0, 0), (67, .iadd, 0, 0, 0), (68, .iconst 1, 0, 0, 1), (69, .iadd, 0, 0, 0), (70, .iaload, 0, 0, 0), (71, .iadd, 0, 0, 0), (72, .if_icmp .le (8), 80, 0, 0), (75, .aload_n 0, 0, 0, 0), (76, .iload_n 2, 0, 0, 0), (77, .invokevirtual 122, 57, 1, 0), (80, .iinc 2 (1), 0, 0, 1), (83, .goto (-69), 14, 0, 0), (86, .iinc 1 (1), 0, 0, 1), (89, .goto (-87), 2, 0, 0), (92, .return_, 0, 0, 0)]
def gk58 : List (Nat × gI) := gk58_0 ++ gk58_1
def gk59_0 : List (Nat × gI) := [(0, .iconst 0, 0, 0, 0), (1, .istore_n 3, 0, 0, 0), (2, .iload_n 3, 0, 0, 0), (3, .aload_n 1, 0, 0, 0), (4, .iconst 0, 0, 0, 0), (5, .iaload, 0, 0, 0), (6, .if_icmp .ge (16), 22, 0, 0), (9, .aload_n 0, 0, 0, 0), (10, .getfield 44, 4, 21, 0), (13, .iload_n 3, 0, 0, 0), (14, .iload_n 3, 0, 0, 0), (15, .iastore, 0, 0, 0), (16, .iinc 3 (1), 0, 0, 1), (19, .goto (-17), 2, 0, 0), (22, .iconst 0, 0, 0, 0), (23, .istore_n 3, 0, 0, 0), (24, .iload_n 3, 0, 0, 0), (25, .aload_n 1, 0, 0, 0), (26, .iconst 0, 0, 0, 0), (27, .iaload, 0, 0, 0), (28, .if_icmp .ge (117), 145, 0, 0), (31, .iconst 0, 0, 0, 0), (32, .istore 4, 0, 0, 0), (34, .iload 4, 0, 0, 0), (36, .aload_n 1, 0, 0, 0), (37, .iconst 3, 0, 0, 3), (38, .iaload, 0, 0, 0), (39, .if_icmp .ge (100), 139, 0, 0), (42, .iload_n 2, 0, 0, 0), (43, .iload 4, 0, 0, 0), (45, .invokestatic 111, 53, 2, 0), (48, .ifCond .eq (85), 133, 0, 0), (51, .aload_n 1, 0, 0, 0), (52, .iconst 4, 0, 0, 4), (53, .iload 4, 0, 0, 0), (55, .iadd, 0, 0, 0), (56, .iaload, 0, 0, 0), (57, .iconst 2, 0, 0, 2), (58, .if_icmp .eq (75), 133, 0, 0), (61, .aload_n 1, 0, 0, 0)]
def gk59_1 : List (Nat × gI) := [(62, .bipush (20), 0, 0, 20), (64, .iload 4, 0, 0, 0), (66, .iadd, 0, 0, 0), (67, .iaload, 0, 0, 0), (68, .istore 5, 0, 0, 0), (70, .aload_n 1, 0, 0, 0), (71, .bipush (28), 0, 0, 28), (73, .iload 4, 0, 0, 0), (75, .iadd, 0, 0, 0), (76, .iaload, 0, 0, 0), (77, .istore 6, 0, 0, 0), (79, .aload_n 0, 0, 0, 0), (80, .getfield 44, 4, 21, 0), (83, .iload 5, 0, 0, 0), (85, .iaload, 0, 0, 0), (86, .aload_n 0, 0, 0, 0), (87, .getfield 44, 4, 21, 0), (90, .iload 6, 0, 0, 0), (92, .iaload, 0, 0, 0), (93, .if_icmp .ge (13), 106, 0, 0), (96, .aload_n 0, 0, 0, 0), (97, .getfield 44, 4, 21, 0), (100, .iload 5, 0, 0, 0), (102, .iaload, 0, 0, 0), (103, .goto (10), 113, 0, 0), (106, .aload_n 0, 0, 0, 0), (107, .getfield 44, 4, 21, 0), (110, .iload 6, 0, 0, 0), (112, .iaload, 0, 0, 0), (113, .istore 7, 0, 0, 0), (115, .aload_n 0, 0, 0, 0), (116, .getfield 44, 4, 21, 0), (119, .iload 5, 0, 0, 0), (121, .iload 7, 0, 0, 0), (123, .iastore, 0, 0, 0), (124, .aload_n 0, 0, 0, 0), (125, .getfield 44, 4, 21, 0), (128, .iload 6, 0, 0, 0), (130, .iload 7, 0, 0, 0), (132, .iastore, 0, 0, 0)]
def gk59_2 : List (Nat × gI) := [(133, .iinc 4 (1), 0, 0, 1), (136, .goto (-102), 34, 0, 0), (139, .iinc 3 (1), 0, 0, 1), (142, .goto (-118), 24, 0, 0), (145, .return_, 0, 0, 0)]
def gk59 : List (Nat × gI) := gk59_0 ++ gk59_1 ++ gk59_2
def gk60_0 : List (Nat × gI) := [(0, .iconst 0, 0, 0, 0), (1, .istore_n 3, 0, 0, 0), (2, .iconst 0, 0, 0, 0), (3, .istore 4, 0, 0, 0), (5, .iload 4, 0, 0, 0), (7, .aload_n 1, 0, 0, 0), (8, .iconst 0, 0, 0, 0), (9, .iaload, 0, 0, 0), (10, .if_icmp .ge (63), 73, 0, 0), (13, .iconst 0, 0, 0, 0), (14, .istore 5, 0, 0, 0), (16, .iload 5, 0, 0, 0), (18, .aload_n 1, 0, 0, 0), (19, .iconst 0, 0, 0, 0), (20, .iaload, 0, 0, 0), (21, .if_icmp .ge (46), 67, 0, 0), (24, .iload_n 3, 0, 0, 0), (25, .iload_n 2, 0, 0, 0), (26, .iload 5, 0, 0, 0), (28, .invokestatic 111, 53, 2, 0), (31, .ifCond .eq (27), 58, 0, 0), (34, .aload_n 0, 0, 0, 0), (35, .getfield 44, 4, 21, 0), (38, .iload 4, 0, 0, 0), (40, .iaload, 0, 0, 0), (41, .aload_n 0, 0, 0, 0), (42, .getfield 44, 4, 21, 0), (45, .iload 5, 0, 0, 0), (47, .iaload, 0, 0, 0), (48, .if_icmp .ne (10), 58, 0, 0), (51, .iconst 1, 0, 0, 1), (52, .iload 4, 0, 0, 0), (54, .ishl, 0, 0, 0), (55, .goto (4), 59, 0, 0), (58, .iconst 0, 0, 0, 0), (59, .ior, 0, 0, 0), (60, .istore_n 3, 0, 0, 0), (61, .iinc 5 (1), 0, 0, 1), (64, .goto (-48), 16, 0, 0), (67, .iinc 4 (1), 0, 0, 1)]
def gk60_1 : List (Nat × gI) := [(70, .goto (-65), 5, 0, 0), (73, .iload_n 3, 0, 0, 0), (74, .ireturn, 0, 0, 0)]
def gk60 : List (Nat × gI) := gk60_0 ++ gk60_1
def gk61_0 : List (Nat × gI) := [(0, .aload_n 0, 0, 0, 0), (1, .aload_n 1, 0, 0, 0), (2, .iload_n 2, 0, 0, 0), (3, .invokevirtual 150, 59, 2, 0), (6, .aload_n 0, 0, 0, 0), (7, .aload_n 1, 0, 0, 0), (8, .aload_n 1, 0, 0, 0), (9, .iconst 1, 0, 0, 1), (10, .iaload, 0, 0, 0), (11, .invokevirtual 154, 60, 2, 0), (14, .ireturn, 0, 0, 0)]
def gk61 : List (Nat × gI) := gk61_0
def gk62_0 : List (Nat × gI) := [(0, .aload_n 0, 0, 0, 0), (1, .aload_n 1, 0, 0, 0), (2, .iload_n 2, 0, 0, 0), (3, .invokevirtual 150, 59, 2, 0), (6, .iconst 0, 0, 0, 0), (7, .istore_n 3, 0, 0, 0), (8, .iconst 0, 0, 0, 0), (9, .istore 4, 0, 0, 0), (11, .iload 4, 0, 0, 0), (13, .aload_n 1, 0, 0, 0), (14, .iconst 3, 0, 0, 3), (15, .iaload, 0, 0, 0), (16, .if_icmp .ge (44), 60, 0, 0), (19, .iload_n 3, 0, 0, 0), (20, .iload_n 2, 0, 0, 0), (21, .iload 4, 0, 0, 0), (23, .invokestatic 111, 53, 2, 0), (26, .ifCond .eq (25), 51, 0, 0), (29, .aload_n 1, 0, 0, 0), (30, .iconst 4, 0, 0, 4), (31, .iload 4, 0, 0, 0), (33, .iadd, 0, 0, 0), (34, .iaload, 0, 0, 0), (35, .iconst 2, 0, 0, 2), (36, .if_icmp .ne (15), 51, 0, 0), (39, .iconst 1, 0, 0, 1), (40, .aload_n 1, 0, 0, 0), (41, .bipush (20), 0, 0, 20), (43, .iload 4, 0, 0, 0), (45, .iadd, 0, 0, 0), (46, .iaload, 0, 0, 0), (47, .ishl, 0, 0, 0), (48, .goto (4), 52, 0, 0), (51, .iconst 0, 0, 0, 0), (52, .ior, 0, 0, 0), (53, .istore_n 3, 0, 0, 0), (54, .iinc 4 (1), 0, 0, 1), (57, .goto (-46), 11, 0, 0), (60, .aload_n 0, 0, 0, 0), (61, .aload_n 1, 0, 0, 0)]
def gk62_1 : List (Nat × gI) := [(62, .iload_n 3, 0, 0, 0), (63, .invokevirtual 154, 60, 2, 0), (66, .ireturn, 0, 0, 0)]
def gk62 : List (Nat × gI) := gk62_0 ++ gk62_1
def gk63_0 : List (Nat × gI) := [(0, .aload_n 0, 0, 0, 0), (1, .iconst 0, 0, 0, 0), (2, .putfield 62, 4, 0, 0), (5, .aload_n 0, 0, 0, 0), (6, .iconst (-1), 0, 0, (-1)), (7, .putfield 89, 4, 7, 0), (10, .aload_n 0, 0, 0, 0), (11, .iconst 0, 0, 0, 0), (12, .putfield 73, 4, 3, 0), (15, .aload_n 0, 0, 0, 0), (16, .invokevirtual 56, 6, 0, 0), (19, .iconst 0, 0, 0, 0), (20, .istore_n 1, 0, 0, 0), (21, .aload_n 0, 0, 0, 0), (22, .invokevirtual 96, 47, 0, 0), (25, .aload_n 0, 0, 0, 0), (26, .invokevirtual 92, 48, 0, 0), (29, .ifCond .eq (72), 101, 0, 0), (32, .aload_n 0, 0, 0, 0), (33, .getfield 83, 4, 4, 0), (36, .ifCond .eq (65), 101, 0, 0), (39, .aload_n 0, 0, 0, 0), (40, .aload_n 0, 0, 0, 0), (41, .getfield 83, 4, 4, 0), (44, .iconst 1, 0, 0, 1), (45, .if_icmp .ne (15), 60, 0, 0), (48, .aload_n 0, 0, 0, 0), (49, .iload_n 1, 0, 0, 0), (50, .invokevirtual 125, 49, 1, 0), (53, .ifCond .eq (7), 60, 0, 0), (56, .iconst 1, 0, 0, 1), (57, .goto (4), 61, 0, 0), (60, .iconst 0, 0, 0, 0), (61, .invokevirtual 103, 50, 1, 0), (64, .istore_n 2, 0, 0, 0), (65, .aload_n 0, 0, 0, 0), (66, .invokevirtual 92, 48, 0, 0), (69, .ifCond .eq (8), 77, 0, 0), (72, .aload_n 0, 0, 0, 0), (73, .iload_n 2, 0, 0, 0)]
def gk63_1 : List (Nat × gI) := [(74, .invokevirtual 129, 56, 1, 0), (77, .aload_n 0, 0, 0, 0), (78, .aload_n 0, 0, 0, 0), (79, .getfield 83, 4, 4, 0), (82, .iconst 3, 0, 0, 3), (83, .if_icmp .ne (7), 90, 0, 0), (86, .iconst 1, 0, 0, 1), (87, .goto (4), 91, 0, 0), (90, .iconst 0, 0, 0, 0), (91, .invokevirtual 103, 50, 1, 0), (94, .pop, 0, 0, 0), (95, .iinc 1 (1), 0, 0, 1), (98, .goto (-73), 25, 0, 0), (101, .aload_n 0, 0, 0, 0), (102, .invokevirtual 92, 48, 0, 0), (105, .ifCond .eq (54), 159, 0, 0), (108, .aload_n 0, 0, 0, 0), (109, .invokevirtual 132, 58, 0, 0), (112, .aload_n 0, 0, 0, 0), (113, .aload_n 0, 0, 0, 0), (114, .aload_n 0, 0, 0, 0), (115, .getfield 16, 4, 9, 0), (118, .aload_n 0, 0, 0, 0), (119, .getfield 19, 4, 10, 0), (122, .iconst 0, 0, 0, 0), (123, .iaload, 0, 0, 0), (124, .invokevirtual 135, 61, 2, 0), (127, .aload_n 0, 0, 0, 0), (128, .aload_n 0, 0, 0, 0), (129, .getfield 16, 4, 9, 0), (132, .aload_n 0, 0, 0, 0), (133, .getfield 19, 4, 10, 0), (136, .iconst 0, 0, 0, 0), (137, .iaload, 0, 0, 0), (138, .invokevirtual 138, 62, 2, 0), (141, .iand, 0, 0, 0), (142, .ifCond .ne (10), 152, 0, 0), (145, .aload_n 0, 0, 0, 0), (146, .getfield 89, 4, 7, 0), (149, .goto (7), 156, 0, 0)]
def gk63_2 : List (Nat × gI) := [(152, .aload_n 0, 0, 0, 0), (153, .getfield 70, 4, 2, 0), (156, .putfield 89, 4, 7, 0), (159, .aload_n 0, 0, 0, 0), (160, .invokevirtual 92, 48, 0, 0), (163, .ifCond .ne (11), 174, 0, 0), (166, .bipush (-10), 0, 0, (-10)), (168, .aload_n 0, 0, 0, 0), (169, .getfield 89, 4, 7, 0), (172, .isub, 0, 0, 0), (173, .ireturn, 0, 0, 0), (174, .aload_n 0, 0, 0, 0), (175, .invokevirtual 59, 7, 0, 0), (178, .iload_n 1, 0, 0, 0), (179, .ireturn, 0, 0, 0)]
def gk63 : List (Nat × gI) := gk63_0 ++ gk63_1 ++ gk63_2
def gk64_0 : List (Nat × gI) := [(0, .iload_n 1, 0, 0, 0), (1, .ifCond .lt (18), 19, 0, 0), (4, .iload_n 1, 0, 0, 0), (5, .aload_n 0, 0, 0, 0), (6, .getfield 26, 3, 2, 0), (9, .getfield 112, 1, 3, 0), (12, .if_icmp .ge (7), 19, 0, 0), (15, .iconst 1, 0, 0, 1), (16, .goto (4), 20, 0, 0), (19, .iconst 0, 0, 0, 0), (20, .ireturn, 0, 0, 0)]
def gk64 : List (Nat × gI) := gk64_0
def gk65_0 : List (Nat × gI) := [(0, .aload_n 0, 0, 0, 0), (1, .getfield 34, 1, 12, 0), (4, .iload_n 1, 0, 0, 0), (5, .iaload, 0, 0, 0), (6, .iload_n 2, 0, 0, 0), (7, .invokestatic 63, 19, 2, 0), (10, .iconst 1, 0, 0, 1), (11, .if_icmp .ne (5), 16, 0, 0), (14, .iconst 2, 0, 0, 2), (15, .ireturn, 0, 0, 0), (16, .aload_n 0, 0, 0, 0), (17, .iload_n 1, 0, 0, 0), (18, .iconst 1, 0, 0, 1), (19, .iload_n 2, 0, 0, 0), (20, .ishl, 0, 0, 0), (21, .ixor, 0, 0, 0), (22, .invokevirtual 115, 44, 1, 0), (25, .ifCond .eq (7), 32, 0, 0), (28, .iconst 0, 0, 0, 0), (29, .goto (4), 33, 0, 0), (32, .iconst 3, 0, 0, 3), (33, .ireturn, 0, 0, 0)]
def gk65 : List (Nat × gI) := gk65_0
def gk66_0 : List (Nat × gI) := [(0, .aload_n 0, 0, 0, 0), (1, .getfield 102, 3, 5, 0), (4, .iload_n 1, 0, 0, 0), (5, .invokestatic 98, 19, 2, 0), (8, .iconst 1, 0, 0, 1), (9, .if_icmp .ne (7), 16, 0, 0), (12, .iconst 1, 0, 0, 1), (13, .goto (15), 28, 0, 0), (16, .aload_n 0, 0, 0, 0), (17, .getfield 26, 3, 2, 0), (20, .aload_n 0, 0, 0, 0), (21, .getfield 95, 3, 4, 0), (24, .iload_n 1, 0, 0, 0), (25, .invokevirtual 225, 65, 2, 0), (28, .ireturn, 0, 0, 0)]
def gk66 : List (Nat × gI) := gk66_0
def gk67_0 : List (Nat × gI) := [(0, .aload_n 0, 0, 0, 0), (1, .iload_n 1, 0, 0, 0), (2, .invokevirtual 80, 64, 1, 0), (5, .ifCond .ne (5), 10, 0, 0), (8, .iconst (-1), 0, 0, (-1)), (9, .ireturn, 0, 0, 0), (10, .iload_n 2, 0, 0, 0), (11, .tableswitch (105) (0) (6) #[41, 51, 61, 71, 81, 90, 99], 0, 0, 0), (52, .aload_n 0, 0, 0, 0), (53, .getfield 26, 3, 2, 0), (56, .getfield 83, 1, 6, 0), (59, .iload_n 1, 0, 0, 0), (60, .iaload, 0, 0, 0), (61, .ireturn, 0, 0, 0), (62, .aload_n 0, 0, 0, 0), (63, .getfield 26, 3, 2, 0), (66, .getfield 86, 1, 7, 0), (69, .iload_n 1, 0, 0, 0), (70, .iaload, 0, 0, 0), (71, .ireturn, 0, 0, 0), (72, .aload_n 0, 0, 0, 0), (73, .getfield 26, 3, 2, 0), (76, .getfield 89, 1, 8, 0), (79, .iload_n 1, 0, 0, 0), (80, .iaload, 0, 0, 0), (81, .ireturn, 0, 0, 0), (82, .aload_n 0, 0, 0, 0), (83, .getfield 26, 3, 2, 0), (86, .getfield 92, 1, 9, 0), (89, .iload_n 1, 0, 0, 0), (90, .iaload, 0, 0, 0), (91, .ireturn, 0, 0, 0), (92, .aload_n 0, 0, 0, 0), (93, .getfield 95, 3, 4, 0), (96, .iload_n 1, 0, 0, 0), (97, .invokestatic 98, 19, 2, 0), (100, .ireturn, 0, 0, 0), (101, .aload_n 0, 0, 0, 0), (102, .getfield 102, 3, 5, 0), (105, .iload_n 1, 0, 0, 0)]
def gk67_1 : List (Nat × gI) := [(106, .invokestatic 98, 19, 2, 0), (109, .ireturn, 0, 0, 0), (110, .aload_n 0, 0, 0, 0), (111, .iload_n 1, 0, 0, 0), (112, .invokevirtual 105, 66, 1, 0), (115, .ireturn, 0, 0, 0), (116, .iconst (-1), 0, 0, (-1)), (117, .ireturn, 0, 0, 0)]
def gk67 : List (Nat × gI) := gk67_0 ++ gk67_1
def gk68_0 : List (Nat × gI) := [(0, .iload_n 1, 0, 0, 0), (1, .iconst 0, 0, 0, 0), (2, .aload_n 0, 0, 0, 0), (3, .getfield 13, 4, 8, 0), (6, .iconst 3, 0, 0, 3), (7, .iaload, 0, 0, 0), (8, .iconst 1, 0, 0, 1), (9, .isub, 0, 0, 0), (10, .invokestatic 66, 10, 3, 0), (13, .ireturn, 0, 0, 0)]
def gk68 : List (Nat × gI) := gk68_0
def gk69_0 : List (Nat × gI) := [(0, .iconst 0, 0, 0, 0), (1, .istore_n 2, 0, 0, 0), (2, .iconst 0, 0, 0, 0), (3, .istore_n 3, 0, 0, 0), (4, .iload_n 3, 0, 0, 0), (5, .aload_n 0, 0, 0, 0), (6, .getfield 13, 4, 8, 0), (9, .iconst 0, 0, 0, 0), (10, .iaload, 0, 0, 0), (11, .if_icmp .ge (47), 58, 0, 0), (14, .iload_n 2, 0, 0, 0), (15, .ifCond .ne (31), 46, 0, 0), (18, .aload_n 0, 0, 0, 0), (19, .getfield 44, 4, 21, 0), (22, .iload_n 3, 0, 0, 0), (23, .iaload, 0, 0, 0), (24, .aload_n 0, 0, 0, 0), (25, .getfield 44, 4, 21, 0), (28, .iload_n 1, 0, 0, 0), (29, .iaload, 0, 0, 0), (30, .if_icmp .ne (20), 50, 0, 0), (33, .aload_n 0, 0, 0, 0), (34, .getfield 13, 4, 8, 0), (37, .iconst 2, 0, 0, 2), (38, .iaload, 0, 0, 0), (39, .iload_n 3, 0, 0, 0), (40, .invokestatic 111, 53, 2, 0), (43, .ifCond .eq (7), 50, 0, 0), (46, .iconst 1, 0, 0, 1), (47, .goto (4), 51, 0, 0), (50, .iconst 0, 0, 0, 0), (51, .istore_n 2, 0, 0, 0), (52, .iinc 3 (1), 0, 0, 1), (55, .goto (-51), 4, 0, 0), (58, .iload_n 2, 0, 0, 0), (59, .ireturn, 0, 0, 0)]
def gk69 : List (Nat × gI) := gk69_0
def gk70_0 : List (Nat × gI) := [(0, .aload_n 0, 0, 0, 0), (1, .getfield 22, 4, 11, 0), (4, .iconst 1, 0, 0, 1), (5, .iaload, 0, 0, 0), (6, .iload_n 1, 0, 0, 0), (7, .invokestatic 111, 53, 2, 0), (10, .ifCond .eq (5), 15, 0, 0), (13, .iconst 1, 0, 0, 1), (14, .ireturn, 0, 0, 0), (15, .aload_n 0, 0, 0, 0), (16, .getfield 13, 4, 8, 0), (19, .iconst 4, 0, 0, 4), (20, .iload_n 1, 0, 0, 0), (21, .iadd, 0, 0, 0), (22, .iaload, 0, 0, 0), (23, .iconst 1, 0, 0, 1), (24, .if_icmp .ne (113), 137, 0, 0), (27, .aload_n 0, 0, 0, 0), (28, .getfield 13, 4, 8, 0), (31, .bipush (20), 0, 0, 20), (33, .iload_n 1, 0, 0, 0), (34, .iadd, 0, 0, 0), (35, .iaload, 0, 0, 0), (36, .istore_n 3, 0, 0, 0), (37, .aload_n 0, 0, 0, 0), (38, .getfield 13, 4, 8, 0), (41, .bipush (28), 0, 0, 28), (43, .iload_n 1, 0, 0, 0), (44, .iadd, 0, 0, 0), (45, .iaload, 0, 0, 0), (46, .istore 4, 0, 0, 0), (48, .aload_n 0, 0, 0, 0), (49, .aload_n 0, 0, 0, 0), (50, .getfield 13, 4, 8, 0), (53, .iload_n 2, 0, 0, 0), (54, .iconst 1, 0, 0, 1), (55, .iload_n 1, 0, 0, 0), (56, .ishl, 0, 0, 0), (57, .iconst (-1), 0, 0, (-1)), (58, .ixor, 0, 0, 0)]
def gk70_1 : List (Nat × gI) := [(59, .iand, 0, 0, 0), (60, .invokevirtual 135, 61, 2, 0), (63, .istore 5, 0, 0, 0), (65, .iload 5, 0, 0, 0), (67, .iload_n 3, 0, 0, 0), (68, .invokestatic 111, 53, 2, 0), (71, .istore 6, 0, 0, 0), (73, .iload 5, 0, 0, 0), (75, .iload 4, 0, 0, 0), (77, .invokestatic 111, 53, 2, 0), (80, .istore 7, 0, 0, 0), (82, .aload_n 0, 0, 0, 0), (83, .getfield 44, 4, 21, 0), (86, .iload_n 3, 0, 0, 0), (87, .iaload, 0, 0, 0), (88, .aload_n 0, 0, 0, 0), (89, .getfield 44, 4, 21, 0), (92, .iload 4, 0, 0, 0), (94, .iaload, 0, 0, 0), (95, .if_icmp .eq (42), 137, 0, 0), (98, .iload 6, 0, 0, 0), (100, .ifCond .eq (8), 108, 0, 0), (103, .iload 7, 0, 0, 0), (105, .ifCond .ne (30), 135, 0, 0), (108, .iload 6, 0, 0, 0), (110, .ifCond .eq (12), 122, 0, 0), (113, .aload_n 0, 0, 0, 0), (114, .iload 4, 0, 0, 0), (116, .invokevirtual 157, 69, 1, 0), (119, .ifCond .ne (16), 135, 0, 0), (122, .iload 7, 0, 0, 0), (124, .ifCond .eq (13), 137, 0, 0), (127, .aload_n 0, 0, 0, 0), (128, .iload_n 3, 0, 0, 0), (129, .invokevirtual 157, 69, 1, 0), (132, .ifCond .eq (5), 137, 0, 0), (135, .iconst 2, 0, 0, 2), (136, .ireturn, 0, 0, 0), (137, .iload_n 2, 0, 0, 0), (138, .iconst 1, 0, 0, 1)]
def gk70_2 : List (Nat × gI) := [(139, .iload_n 1, 0, 0, 0), (140, .ishl, 0, 0, 0), (141, .ixor, 0, 0, 0), (142, .istore_n 3, 0, 0, 0), (143, .aload_n 0, 0, 0, 0), (144, .aload_n 0, 0, 0, 0), (145, .getfield 13, 4, 8, 0), (148, .iload_n 3, 0, 0, 0), (149, .invokevirtual 135, 61, 2, 0), (152, .aload_n 0, 0, 0, 0), (153, .aload_n 0, 0, 0, 0), (154, .getfield 13, 4, 8, 0), (157, .iload_n 3, 0, 0, 0), (158, .invokevirtual 138, 62, 2, 0), (161, .iand, 0, 0, 0), (162, .ifCond .ne (7), 169, 0, 0), (165, .iconst 0, 0, 0, 0), (166, .goto (4), 170, 0, 0), (169, .iconst 3, 0, 0, 3), (170, .ireturn, 0, 0, 0)]
def gk70 : List (Nat × gI) := gk70_0 ++ gk70_1 ++ gk70_2
def gk71_0 : List (Nat × gI) := [(0, .aload_n 0, 0, 0, 0), (1, .iconst 0, 0, 0, 0), (2, .putfield 62, 4, 0, 0), (5, .aload_n 0, 0, 0, 0), (6, .iload_n 1, 0, 0, 0), (7, .invokevirtual 160, 68, 1, 0), (10, .ifCond .eq (13), 23, 0, 0), (13, .iload_n 2, 0, 0, 0), (14, .iconst 0, 0, 0, 0), (15, .bipush (6), 0, 0, 6), (17, .invokestatic 66, 10, 3, 0), (20, .ifCond .ne (5), 25, 0, 0), (23, .iconst (-1), 0, 0, (-1)), (24, .ireturn, 0, 0, 0), (25, .iload_n 2, 0, 0, 0), (26, .iconst 4, 0, 0, 4), (27, .if_icmp .ge (62), 89, 0, 0), (30, .iload_n 2, 0, 0, 0), (31, .ifCond .ne (14), 45, 0, 0), (34, .aload_n 0, 0, 0, 0), (35, .getfield 13, 4, 8, 0), (38, .iconst 4, 0, 0, 4), (39, .iload_n 1, 0, 0, 0), (40, .iadd, 0, 0, 0), (41, .iaload, 0, 0, 0), (42, .goto (46), 88, 0, 0), (45, .iload_n 2, 0, 0, 0), (46, .iconst 1, 0, 0, 1), (47, .if_icmp .ne (15), 62, 0, 0), (50, .aload_n 0, 0, 0, 0), (51, .getfield 13, 4, 8, 0), (54, .bipush (12), 0, 0, 12), (56, .iload_n 1, 0, 0, 0), (57, .iadd, 0, 0, 0), (58, .iaload, 0, 0, 0), (59, .goto (29), 88, 0, 0), (62, .iload_n 2, 0, 0, 0), (63, .iconst 2, 0, 0, 2), (64, .if_icmp .ne (15), 79, 0, 0), (67, .aload_n 0, 0, 0, 0)]
def gk71_1 : List (Nat × gI) := [(68, .getfield 13, 4, 8, 0), (71, .bipush (20), 0, 0, 20), (73, .iload_n 1, 0, 0, 0), (74, .iadd, 0, 0, 0), (75, .iaload, 0, 0, 0), (76, .goto (12), 88, 0, 0), (79, .aload_n 0, 0, 0, 0), (80, .getfield 13, 4, 8, 0), (83, .bipush (28), 0, 0, 28), (85, .iload_n 1, 0, 0, 0), (86, .iadd, 0, 0, 0), (87, .iaload, 0, 0, 0), (88, .ireturn, 0, 0, 0), (89, .iload_n 2, 0, 0, 0), (90, .iconst 4, 0, 0, 4), (91, .if_icmp .ne (16), 107, 0, 0), (94, .aload_n 0, 0, 0, 0), (95, .getfield 22, 4, 11, 0), (98, .iconst 0, 0, 0, 0), (99, .iaload, 0, 0, 0), (100, .iload_n 1, 0, 0, 0), (101, .ishr, 0, 0, 0), (102, .iconst 1, 0, 0, 1), (103, .iand, 0, 0, 0), (104, .goto (32), 136, 0, 0), (107, .iload_n 2, 0, 0, 0), (108, .iconst 5, 0, 0, 5), (109, .if_icmp .ne (16), 125, 0, 0), (112, .aload_n 0, 0, 0, 0), (113, .getfield 22, 4, 11, 0), (116, .iconst 1, 0, 0, 1), (117, .iaload, 0, 0, 0), (118, .iload_n 1, 0, 0, 0), (119, .ishr, 0, 0, 0), (120, .iconst 1, 0, 0, 1), (121, .iand, 0, 0, 0), (122, .goto (14), 136, 0, 0), (125, .aload_n 0, 0, 0, 0), (126, .iload_n 1, 0, 0, 0), (127, .aload_n 0, 0, 0, 0)]
def gk71_2 : List (Nat × gI) := [(128, .getfield 22, 4, 11, 0), (131, .iconst 0, 0, 0, 0), (132, .iaload, 0, 0, 0), (133, .invokevirtual 163, 70, 2, 0), (136, .ireturn, 0, 0, 0)]
def gk71 : List (Nat × gI) := gk71_0 ++ gk71_1 ++ gk71_2
def gk72_0 : List (Nat × gI) := [(0, .iload_n 1, 0, 0, 0), (1, .invokestatic 109, 17, 1, 0), (4, .ifCond .ne (5), 9, 0, 0), (7, .iconst (-1), 0, 0, (-1)), (8, .ireturn, 0, 0, 0), (9, .iconst 0, 0, 0, 0), (10, .istore_n 2, 0, 0, 0), (11, .iload_n 2, 0, 0, 0), (12, .aload_n 0, 0, 0, 0), (13, .getfield 26, 3, 2, 0), (16, .getfield 112, 1, 3, 0), (19, .if_icmp .ge (24), 43, 0, 0), (22, .aload_n 0, 0, 0, 0), (23, .getfield 26, 3, 2, 0), (26, .getfield 86, 1, 7, 0), (29, .iload_n 2, 0, 0, 0), (30, .iaload, 0, 0, 0), (31, .iload_n 1, 0, 0, 0), (32, .if_icmp .ne (5), 37, 0, 0), (35, .iload_n 2, 0, 0, 0), (36, .ireturn, 0, 0, 0), (37, .iinc 2 (1), 0, 0, 1), (40, .goto (-29), 11, 0, 0), (43, .bipush (-9), 0, 0, (-9)), (45, .ireturn, 0, 0, 0)]
def gk72 : List (Nat × gI) := gk72_0
def gk73_0 : List (Nat × gI) := [(0, .aload_n 0, 0, 0, 0), (1, .iconst 0, 0, 0, 0), (2, .putfield 62, 4, 0, 0), (5, .iload_n 1, 0, 0, 0), (6, .bipush (97), 0, 0, 97), (8, .bipush (122), 0, 0, 122), (10, .invokestatic 66, 10, 3, 0), (13, .ifCond .eq (14), 27, 0, 0), (16, .aload_n 0, 0, 0, 0), (17, .getfield 13, 4, 8, 0), (20, .iload_n 1, 0, 0, 0), (21, .invokestatic 99, 52, 2, 0), (24, .goto (4), 28, 0, 0), (27, .iconst (-1), 0, 0, (-1)), (28, .ireturn, 0, 0, 0)]
def gk73 : List (Nat × gI) := gk73_0
def gk74_0 : List (Nat × gI) := [(0, .iload_n 1, 0, 0, 0), (1, .ifCond .lt (18), 19, 0, 0), (4, .iload_n 1, 0, 0, 0), (5, .aload_n 0, 0, 0, 0), (6, .getfield 26, 3, 2, 0), (9, .getfield 202, 1, 0, 0), (12, .if_icmp .ge (7), 19, 0, 0), (15, .iconst 1, 0, 0, 1), (16, .goto (4), 20, 0, 0), (19, .iconst 0, 0, 0, 0), (20, .ireturn, 0, 0, 0)]
def gk74 : List (Nat × gI) := gk74_0
def gk75_0 : List (Nat × gI) := [(0, .aload_n 0, 0, 0, 0), (1, .iload_n 1, 0, 0, 0), (2, .invokevirtual 93, 37, 1, 0), (5, .iconst 0, 0, 0, 0), (6, .istore_n 3, 0, 0, 0), (7, .iload_n 3, 0, 0, 0), (8, .iload_n 2, 0, 0, 0), (9, .if_icmp .ge (22), 31, 0, 0), (12, .aload_n 0, 0, 0, 0), (13, .getfield 37, 1, 13, 0), (16, .iload_n 2, 0, 0, 0), (17, .iaload, 0, 0, 0), (18, .iload_n 3, 0, 0, 0), (19, .invokestatic 63, 19, 2, 0), (22, .ifCond .ne (9), 31, 0, 0), (25, .iinc 3 (1), 0, 0, 1), (28, .goto (-21), 7, 0, 0), (31, .iload_n 3, 0, 0, 0), (32, .ireturn, 0, 0, 0)]
def gk75 : List (Nat × gI) := gk75_0
def gk76_0 : List (Nat × gI) := [(0, .aload_n 0, 0, 0, 0), (1, .iload_n 1, 0, 0, 0), (2, .invokevirtual 115, 74, 1, 0), (5, .ifCond .ne (5), 10, 0, 0), (8, .iconst (-1), 0, 0, (-1)), (9, .ireturn, 0, 0, 0), (10, .iload_n 2, 0, 0, 0), (11, .tableswitch (104) (0) (4) #[33, 50, 67, 80, 92], 0, 0, 0), (44, .aload_n 0, 0, 0, 0), (45, .getfield 26, 3, 2, 0), (48, .getfield 118, 1, 10, 0), (51, .aload_n 0, 0, 0, 0), (52, .getfield 95, 3, 4, 0), (55, .iaload, 0, 0, 0), (56, .iload_n 1, 0, 0, 0), (57, .invokestatic 98, 19, 2, 0), (60, .ireturn, 0, 0, 0), (61, .aload_n 0, 0, 0, 0), (62, .getfield 26, 3, 2, 0), (65, .getfield 121, 1, 11, 0), (68, .aload_n 0, 0, 0, 0), (69, .getfield 95, 3, 4, 0), (72, .iaload, 0, 0, 0), (73, .iload_n 1, 0, 0, 0), (74, .invokestatic 98, 19, 2, 0), (77, .ireturn, 0, 0, 0), (78, .aload_n 0, 0, 0, 0), (79, .getfield 26, 3, 2, 0), (82, .aload_n 0, 0, 0, 0), (83, .getfield 95, 3, 4, 0), (86, .iload_n 1, 0, 0, 0), (87, .invokevirtual 124, 75, 2, 0), (90, .ireturn, 0, 0, 0), (91, .aload_n 0, 0, 0, 0), (92, .getfield 26, 3, 2, 0), (95, .getfield 127, 1, 1, 0), (98, .iload_n 1, 0, 0, 0), (99, .invokestatic 98, 19, 2, 0), (102, .ireturn, 0, 0, 0), (103, .aload_n 0, 0, 0, 0)]
def gk76_1 : List (Nat × gI) := [(104, .getfield 26, 3, 2, 0), (107, .getfield 130, 1, 2, 0), (110, .iload_n 1, 0, 0, 0), (111, .invokestatic 98, 19, 2, 0), (114, .ireturn, 0, 0, 0), (115, .iconst (-1), 0, 0, (-1)), (116, .ireturn, 0, 0, 0)]
def gk76 : List (Nat × gI) := gk76_0 ++ gk76_1
def gk77_0 : List (Nat × gI) := [(0, .iload_n 1, 0, 0, 0), (1, .iconst 0, 0, 0, 0), (2, .aload_n 0, 0, 0, 0), (3, .getfield 13, 4, 8, 0), (6, .iconst 0, 0, 0, 0), (7, .iaload, 0, 0, 0), (8, .iconst 1, 0, 0, 1), (9, .isub, 0, 0, 0), (10, .invokestatic 66, 10, 3, 0), (13, .ireturn, 0, 0, 0)]
def gk77 : List (Nat × gI) := gk77_0
def gk78_0 : List (Nat × gI) := [(0, .aload_n 0, 0, 0, 0), (1, .iconst 0, 0, 0, 0), (2, .putfield 62, 4, 0, 0), (5, .aload_n 0, 0, 0, 0), (6, .iload_n 1, 0, 0, 0), (7, .invokevirtual 167, 77, 1, 0), (10, .ifCond .eq (12), 22, 0, 0), (13, .iload_n 2, 0, 0, 0), (14, .iconst 0, 0, 0, 0), (15, .iconst 4, 0, 0, 4), (16, .invokestatic 66, 10, 3, 0), (19, .ifCond .ne (5), 24, 0, 0), (22, .iconst (-1), 0, 0, (-1)), (23, .ireturn, 0, 0, 0), (24, .iload_n 2, 0, 0, 0), (25, .iconst 2, 0, 0, 2), (26, .if_icmp .le (28), 54, 0, 0), (29, .iload_n 2, 0, 0, 0), (30, .iconst 3, 0, 0, 3), (31, .if_icmp .ne (12), 43, 0, 0), (34, .aload_n 0, 0, 0, 0), (35, .getfield 13, 4, 8, 0), (38, .iconst 1, 0, 0, 1), (39, .iaload, 0, 0, 0), (40, .goto (9), 49, 0, 0), (43, .aload_n 0, 0, 0, 0), (44, .getfield 13, 4, 8, 0), (47, .iconst 2, 0, 0, 2), (48, .iaload, 0, 0, 0), (49, .iload_n 1, 0, 0, 0), (50, .ishr, 0, 0, 0), (51, .iconst 1, 0, 0, 1), (52, .iand, 0, 0, 0), (53, .ireturn, 0, 0, 0), (54, .aload_n 0, 0, 0, 0), (55, .aload_n 0, 0, 0, 0), (56, .getfield 13, 4, 8, 0), (59, .aload_n 0, 0, 0, 0), (60, .getfield 22, 4, 11, 0), (63, .iconst 0, 0, 0, 0)]
def gk78_1 : List (Nat × gI) := [(64, .iaload, 0, 0, 0), (65, .invokevirtual 135, 61, 2, 0), (68, .istore_n 3, 0, 0, 0), (69, .aload_n 0, 0, 0, 0), (70, .aload_n 0, 0, 0, 0), (71, .getfield 13, 4, 8, 0), (74, .aload_n 0, 0, 0, 0), (75, .getfield 22, 4, 11, 0), (78, .iconst 0, 0, 0, 0), (79, .iaload, 0, 0, 0), (80, .invokevirtual 138, 62, 2, 0), (83, .istore 4, 0, 0, 0), (85, .iload_n 2, 0, 0, 0), (86, .ifCond .ne (11), 97, 0, 0), (89, .iload_n 3, 0, 0, 0), (90, .iload_n 1, 0, 0, 0), (91, .ishr, 0, 0, 0), (92, .iconst 1, 0, 0, 1), (93, .iand, 0, 0, 0), (94, .goto (23), 117, 0, 0), (97, .iload_n 2, 0, 0, 0), (98, .iconst 1, 0, 0, 1), (99, .if_icmp .ne (12), 111, 0, 0), (102, .iload 4, 0, 0, 0), (104, .iload_n 1, 0, 0, 0), (105, .ishr, 0, 0, 0), (106, .iconst 1, 0, 0, 1), (107, .iand, 0, 0, 0), (108, .goto (9), 117, 0, 0), (111, .aload_n 0, 0, 0, 0), (112, .getfield 44, 4, 21, 0), (115, .iload_n 1, 0, 0, 0), (116, .iaload, 0, 0, 0), (117, .ireturn, 0, 0, 0)]
def gk78 : List (Nat × gI) := gk78_0 ++ gk78_1
def gk79_0 : List (Nat × gI) := [(0, .iconst 0, 0, 0, 0), (1, .istore_n 1, 0, 0, 0), (2, .iconst 0, 0, 0, 0), (3, .istore_n 2, 0, 0, 0), (4, .iload_n 2, 0, 0, 0), (5, .aload_n 0, 0, 0, 0), (6, .getfield 26, 3, 2, 0), (9, .getfield 112, 1, 3, 0), (12, .if_icmp .ge (23), 35, 0, 0), (15, .aload_n 0, 0, 0, 0), (16, .iload_n 2, 0, 0, 0), (17, .invokevirtual 105, 66, 1, 0), (20, .ifCond .ne (9), 29, 0, 0), (23, .iload_n 1, 0, 0, 0), (24, .iconst 1, 0, 0, 1), (25, .iload_n 2, 0, 0, 0), (26, .ishl, 0, 0, 0), (27, .ior, 0, 0, 0), (28, .istore_n 1, 0, 0, 0), (29, .iinc 2 (1), 0, 0, 1), (32, .goto (-28), 4, 0, 0), (35, .iload_n 1, 0, 0, 0), (36, .ireturn, 0, 0, 0)]
def gk79 : List (Nat × gI) := gk79_0
def gk80_0 : List (Nat × gI) := [(0, .iconst 0, 0, 0, 0), (1, .istore_n 2, 0, 0, 0), (2, .iconst 0, 0, 0, 0), (3, .istore_n 3, 0, 0, 0), (4, .iload_n 3, 0, 0, 0), (5, .aload_n 0, 0, 0, 0), (6, .getfield 9, 1, 0, 0), (9, .if_icmp .ge (22), 31, 0, 0), (12, .aload_n 0, 0, 0, 0), (13, .iload_n 1, 0, 0, 0), (14, .iload_n 3, 0, 0, 0), (15, .invokevirtual 119, 75, 2, 0), (18, .iload_n 3, 0, 0, 0), (19, .if_icmp .ne (6), 25, 0, 0), (22, .iinc 2 (1), 0, 0, 1), (25, .iinc 3 (1), 0, 0, 1), (28, .goto (-24), 4, 0, 0), (31, .iload_n 2, 0, 0, 0), (32, .ireturn, 0, 0, 0)]
def gk80 : List (Nat × gI) := gk80_0
def gk81_0 : List (Nat × gI) := [(0, .iconst 0, 0, 0, 0), (1, .istore_n 2, 0, 0, 0), (2, .iconst 0, 0, 0, 0), (3, .istore_n 3, 0, 0, 0), (4, .iload_n 3, 0, 0, 0), (5, .aload_n 0, 0, 0, 0), (6, .getfield 26, 3, 2, 0), (9, .getfield 112, 1, 3, 0), (12, .if_icmp .ge (105), 117, 0, 0), (15, .aload_n 0, 0, 0, 0), (16, .getfield 102, 3, 5, 0), (19, .iload_n 3, 0, 0, 0), (20, .invokestatic 98, 19, 2, 0), (23, .iconst 1, 0, 0, 1), (24, .if_icmp .eq (87), 111, 0, 0), (27, .aload_n 0, 0, 0, 0), (28, .getfield 26, 3, 2, 0), (31, .iload_n 1, 0, 0, 0), (32, .iload_n 3, 0, 0, 0), (33, .invokevirtual 225, 65, 2, 0), (36, .ifCond .eq (6), 42, 0, 0), (39, .goto (72), 111, 0, 0), (42, .iload_n 1, 0, 0, 0), (43, .iconst 1, 0, 0, 1), (44, .iload_n 3, 0, 0, 0), (45, .ishl, 0, 0, 0), (46, .ixor, 0, 0, 0), (47, .istore 4, 0, 0, 0), (49, .aload_n 0, 0, 0, 0), (50, .getfield 49, 3, 15, 0), (53, .iload_n 1, 0, 0, 0), (54, .iaload, 0, 0, 0), (55, .aload_n 0, 0, 0, 0), (56, .getfield 33, 3, 6, 0), (59, .aload_n 0, 0, 0, 0), (60, .getfield 26, 3, 2, 0), (63, .getfield 83, 1, 6, 0), (66, .iload_n 3, 0, 0, 0), (67, .iaload, 0, 0, 0), (68, .iaload, 0, 0, 0)]
def gk81_1 : List (Nat × gI) := [(69, .iadd, 0, 0, 0), (70, .istore 5, 0, 0, 0), (72, .aload_n 0, 0, 0, 0), (73, .getfield 49, 3, 15, 0), (76, .iload 4, 0, 0, 0), (78, .iaload, 0, 0, 0), (79, .iconst (-1), 0, 0, (-1)), (80, .if_icmp .eq (15), 95, 0, 0), (83, .aload_n 0, 0, 0, 0), (84, .getfield 49, 3, 15, 0), (87, .iload 4, 0, 0, 0), (89, .iaload, 0, 0, 0), (90, .iload 5, 0, 0, 0), (92, .if_icmp .le (19), 111, 0, 0), (95, .aload_n 0, 0, 0, 0), (96, .getfield 49, 3, 15, 0), (99, .iload 4, 0, 0, 0), (101, .iload 5, 0, 0, 0), (103, .iastore, 0, 0, 0), (104, .iload_n 2, 0, 0, 0), (105, .iload 5, 0, 0, 0), (107, .invokestatic 208, 998, 2, 0), (110, .istore_n 2, 0, 0, 0), (111, .iinc 3 (1), 0, 0, 1), (114, .goto (-110), 4, 0, 0), (117, .iload_n 2, 0, 0, 0), (118, .ireturn, 0, 0, 0)]
def gk81 : List (Nat × gI) := gk81_0 ++ gk81_1
def gk82_0 : List (Nat × gI) := [(0, .aload_n 0, 0, 0, 0), (1, .getfield 26, 3, 2, 0), (4, .invokevirtual 166, 35, 0, 0), (7, .istore_n 1, 0, 0, 0), (8, .iconst 0, 0, 0, 0), (9, .istore_n 2, 0, 0, 0), (10, .iconst 0, 0, 0, 0), (11, .istore_n 3, 0, 0, 0), (12, .iload_n 3, 0, 0, 0), (13, .iload_n 2, 0, 0, 0), (14, .if_icmp .gt (53), 67, 0, 0), (17, .iload_n 3, 0, 0, 0), (18, .sipush (2295), 0, 0, 2295), (21, .if_icmp .gt (46), 67, 0, 0), (24, .iconst 0, 0, 0, 0), (25, .istore 4, 0, 0, 0), (27, .iload 4, 0, 0, 0), (29, .iload_n 1, 0, 0, 0), (30, .if_icmp .gt (31), 61, 0, 0), (33, .aload_n 0, 0, 0, 0), (34, .getfield 49, 3, 15, 0), (37, .iload 4, 0, 0, 0), (39, .iaload, 0, 0, 0), (40, .iload_n 3, 0, 0, 0), (41, .if_icmp .ne (14), 55, 0, 0), (44, .iload_n 2, 0, 0, 0), (45, .aload_n 0, 0, 0, 0), (46, .iload 4, 0, 0, 0), (48, .invokevirtual 230, 81, 1, 0), (51, .invokestatic 208, 998, 2, 0), (54, .istore_n 2, 0, 0, 0), (55, .iinc 4 (1), 0, 0, 1), (58, .goto (-31), 27, 0, 0), (61, .iinc 3 (1), 0, 0, 1), (64, .goto (-52), 12, 0, 0), (67, .return_, 0, 0, 0)]
def gk82 : List (Nat × gI) := gk82_0
def gk83_0 : List (Nat × gI) := [(0, .aload_n 0, 0, 0, 0), (1, .getfield 26, 3, 2, 0), (4, .invokevirtual 166, 35, 0, 0), (7, .istore 5, 0, 0, 0), (9, .iconst 0, 0, 0, 0), (10, .istore 6, 0, 0, 0), (12, .iload 6, 0, 0, 0), (14, .iload 5, 0, 0, 0), (16, .if_icmp .gt (96), 112, 0, 0), (19, .aload_n 0, 0, 0, 0), (20, .getfield 26, 3, 2, 0), (23, .getfield 118, 1, 10, 0), (26, .iload 6, 0, 0, 0), (28, .iaload, 0, 0, 0), (29, .istore 7, 0, 0, 0), (31, .iload 6, 0, 0, 0), (33, .iload_n 1, 0, 0, 0), (34, .iand, 0, 0, 0), (35, .iload_n 2, 0, 0, 0), (36, .if_icmp .ne (50), 86, 0, 0), (39, .aload_n 0, 0, 0, 0), (40, .getfield 26, 3, 2, 0), (43, .getfield 121, 1, 11, 0), (46, .iload 6, 0, 0, 0), (48, .iaload, 0, 0, 0), (49, .iload 7, 0, 0, 0), (51, .iconst (-1), 0, 0, (-1)), (52, .ixor, 0, 0, 0), (53, .iand, 0, 0, 0), (54, .iload_n 3, 0, 0, 0), (55, .iand, 0, 0, 0), (56, .iload_n 3, 0, 0, 0), (57, .if_icmp .ne (29), 86, 0, 0), (60, .iload 7, 0, 0, 0), (62, .iload 4, 0, 0, 0), (64, .iand, 0, 0, 0), (65, .iload 4, 0, 0, 0), (67, .if_icmp .ne (19), 86, 0, 0), (70, .aload_n 0, 0, 0, 0), (71, .getfield 26, 3, 2, 0)]
def gk83_1 : List (Nat × gI) := [(74, .iload 6, 0, 0, 0), (76, .invokevirtual 76, 44, 1, 0), (79, .ifCond .eq (7), 86, 0, 0), (82, .iconst 1, 0, 0, 1), (83, .goto (4), 87, 0, 0), (86, .iconst 0, 0, 0, 0), (87, .istore 8, 0, 0, 0), (89, .aload_n 0, 0, 0, 0), (90, .getfield 49, 3, 15, 0), (93, .iload 6, 0, 0, 0), (95, .iload 8, 0, 0, 0), (97, .ifCond .eq (7), 104, 0, 0), (100, .iconst 0, 0, 0, 0), (101, .goto (4), 105, 0, 0), (104, .iconst (-1), 0, 0, (-1)), (105, .iastore, 0, 0, 0), (106, .iinc 6 (1), 0, 0, 1), (109, .goto (-97), 12, 0, 0), (112, .aload_n 0, 0, 0, 0), (113, .invokevirtual 227, 82, 0, 0), (116, .return_, 0, 0, 0)]
def gk83 : List (Nat × gI) := gk83_0 ++ gk83_1
def gk84_0 : List (Nat × gI) := [(0, .aload_n 0, 0, 0, 0), (1, .aload_n 0, 0, 0, 0), (2, .getfield 26, 3, 2, 0), (5, .invokevirtual 166, 35, 0, 0), (8, .aload_n 0, 0, 0, 0), (9, .getfield 95, 3, 4, 0), (12, .iconst 0, 0, 0, 0), (13, .iconst 0, 0, 0, 0), (14, .invokevirtual 169, 83, 4, 0), (17, .iconst 0, 0, 0, 0), (18, .istore_n 1, 0, 0, 0), (19, .iconst 0, 0, 0, 0), (20, .istore_n 2, 0, 0, 0), (21, .iload_n 2, 0, 0, 0), (22, .aload_n 0, 0, 0, 0), (23, .getfield 26, 3, 2, 0), (26, .invokevirtual 166, 35, 0, 0), (29, .if_icmp .gt (22), 51, 0, 0), (32, .aload_n 0, 0, 0, 0), (33, .getfield 49, 3, 15, 0), (36, .iload_n 2, 0, 0, 0), (37, .iaload, 0, 0, 0), (38, .iconst (-1), 0, 0, (-1)), (39, .if_icmp .eq (6), 45, 0, 0), (42, .iinc 1 (1), 0, 0, 1), (45, .iinc 2 (1), 0, 0, 1), (48, .goto (-27), 21, 0, 0), (51, .iload_n 1, 0, 0, 0), (52, .ireturn, 0, 0, 0)]
def gk84 : List (Nat × gI) := gk84_0
def gk85_0 : List (Nat × gI) := [(0, .aload_n 0, 0, 0, 0), (1, .aload_n 0, 0, 0, 0), (2, .getfield 26, 3, 2, 0), (5, .invokevirtual 166, 35, 0, 0), (8, .aload_n 0, 0, 0, 0), (9, .getfield 95, 3, 4, 0), (12, .iconst 0, 0, 0, 0), (13, .iconst 0, 0, 0, 0), (14, .invokevirtual 169, 83, 4, 0), (17, .iconst 0, 0, 0, 0), (18, .istore_n 1, 0, 0, 0), (19, .iconst 0, 0, 0, 0), (20, .istore_n 2, 0, 0, 0), (21, .iload_n 2, 0, 0, 0), (22, .aload_n 0, 0, 0, 0), (23, .getfield 26, 3, 2, 0), (26, .invokevirtual 166, 35, 0, 0), (29, .if_icmp .gt (20), 49, 0, 0), (32, .iload_n 1, 0, 0, 0), (33, .aload_n 0, 0, 0, 0), (34, .getfield 49, 3, 15, 0), (37, .iload_n 2, 0, 0, 0), (38, .iaload, 0, 0, 0), (39, .invokestatic 208, 998, 2, 0), (42, .istore_n 1, 0, 0, 0), (43, .iinc 2 (1), 0, 0, 1), (46, .goto (-25), 21, 0, 0), (49, .iload_n 1, 0, 0, 0), (50, .ireturn, 0, 0, 0)]
def gk85 : List (Nat × gI) := gk85_0
def gk86_0 : List (Nat × gI) := [(0, .iload_n 1, 0, 0, 0), (1, .tableswitch (135) (0) (8) #[51, 56, 69, 82, 103, 108, 120, 125, 130], 0, 0, 0), (52, .aload_n 0, 0, 0, 0), (53, .getfield 95, 3, 4, 0), (56, .ireturn, 0, 0, 0), (57, .aload_n 0, 0, 0, 0), (58, .getfield 26, 3, 2, 0), (61, .getfield 118, 1, 10, 0), (64, .aload_n 0, 0, 0, 0), (65, .getfield 95, 3, 4, 0), (68, .iaload, 0, 0, 0), (69, .ireturn, 0, 0, 0), (70, .aload_n 0, 0, 0, 0), (71, .getfield 26, 3, 2, 0), (74, .getfield 121, 1, 11, 0), (77, .aload_n 0, 0, 0, 0), (78, .getfield 95, 3, 4, 0), (81, .iaload, 0, 0, 0), (82, .ireturn, 0, 0, 0), (83, .aload_n 0, 0, 0, 0), (84, .getfield 26, 3, 2, 0), (87, .getfield 118, 1, 10, 0), (90, .aload_n 0, 0, 0, 0), (91, .getfield 95, 3, 4, 0), (94, .iaload, 0, 0, 0), (95, .aload_n 0, 0, 0, 0), (96, .getfield 26, 3, 2, 0), (99, .getfield 130, 1, 2, 0), (102, .iand, 0, 0, 0), (103, .ireturn, 0, 0, 0), (104, .aload_n 0, 0, 0, 0), (105, .invokevirtual 133, 79, 0, 0), (108, .ireturn, 0, 0, 0), (109, .aload_n 0, 0, 0, 0), (110, .getfield 26, 3, 2, 0), (113, .aload_n 0, 0, 0, 0), (114, .getfield 95, 3, 4, 0), (117, .invokevirtual 137, 80, 1, 0), (120, .ireturn, 0, 0, 0), (121, .aload_n 0, 0, 0, 0)]
def gk86_1 : List (Nat × gI) := [(122, .invokevirtual 140, 84, 0, 0), (125, .ireturn, 0, 0, 0), (126, .aload_n 0, 0, 0, 0), (127, .invokevirtual 143, 85, 0, 0), (130, .ireturn, 0, 0, 0), (131, .aload_n 0, 0, 0, 0), (132, .getfield 146, 3, 10, 0), (135, .ireturn, 0, 0, 0), (136, .iconst (-1), 0, 0, (-1)), (137, .ireturn, 0, 0, 0)]
def gk86 : List (Nat × gI) := gk86_0 ++ gk86_1
def gk87_0 : List (Nat × gI) := [(0, .iconst 0, 0, 0, 0), (1, .istore_n 1, 0, 0, 0), (2, .iconst 0, 0, 0, 0), (3, .istore_n 2, 0, 0, 0), (4, .iload_n 2, 0, 0, 0), (5, .aload_n 0, 0, 0, 0), (6, .getfield 13, 4, 8, 0), (9, .iconst 3, 0, 0, 3), (10, .iaload, 0, 0, 0), (11, .if_icmp .ge (33), 44, 0, 0), (14, .iload_n 1, 0, 0, 0), (15, .aload_n 0, 0, 0, 0), (16, .iload_n 2, 0, 0, 0), (17, .aload_n 0, 0, 0, 0), (18, .getfield 22, 4, 11, 0), (21, .iconst 0, 0, 0, 0), (22, .iaload, 0, 0, 0), (23, .invokevirtual 163, 70, 2, 0), (26, .ifCond .ne (9), 35, 0, 0), (29, .iconst 1, 0, 0, 1), (30, .iload_n 2, 0, 0, 0), (31, .ishl, 0, 0, 0), (32, .goto (4), 36, 0, 0), (35, .iconst 0, 0, 0, 0), (36, .ior, 0, 0, 0), (37, .istore_n 1, 0, 0, 0), (38, .iinc 2 (1), 0, 0, 1), (41, .goto (-37), 4, 0, 0), (44, .iload_n 1, 0, 0, 0), (45, .ireturn, 0, 0, 0)]
def gk87 : List (Nat × gI) := gk87_0
def gk88_0 : List (Nat × gI) := [(0, .aload_n 0, 0, 0, 0), (1, .aload_n 0, 0, 0, 0), (2, .getfield 13, 4, 8, 0), (5, .aload_n 0, 0, 0, 0), (6, .getfield 22, 4, 11, 0), (9, .iconst 0, 0, 0, 0), (10, .iaload, 0, 0, 0), (11, .invokevirtual 150, 59, 2, 0), (14, .iconst 0, 0, 0, 0), (15, .istore_n 1, 0, 0, 0), (16, .iconst 0, 0, 0, 0), (17, .istore_n 2, 0, 0, 0), (18, .iload_n 2, 0, 0, 0), (19, .aload_n 0, 0, 0, 0), (20, .getfield 13, 4, 8, 0), (23, .iconst 0, 0, 0, 0), (24, .iaload, 0, 0, 0), (25, .if_icmp .ge (27), 52, 0, 0), (28, .iload_n 1, 0, 0, 0), (29, .aload_n 0, 0, 0, 0), (30, .getfield 44, 4, 21, 0), (33, .iload_n 2, 0, 0, 0), (34, .iaload, 0, 0, 0), (35, .iload_n 2, 0, 0, 0), (36, .if_icmp .ne (7), 43, 0, 0), (39, .iconst 1, 0, 0, 1), (40, .goto (4), 44, 0, 0), (43, .iconst 0, 0, 0, 0), (44, .iadd, 0, 0, 0), (45, .istore_n 1, 0, 0, 0), (46, .iinc 2 (1), 0, 0, 1), (49, .goto (-31), 18, 0, 0), (52, .iload_n 1, 0, 0, 0), (53, .ireturn, 0, 0, 0)]
def gk88 : List (Nat × gI) := gk88_0
def gk89_0 : List (Nat × gI) := [(0, .iconst 1, 0, 0, 1), (1, .aload_n 0, 0, 0, 0), (2, .getfield 13, 4, 8, 0), (5, .iconst 3, 0, 0, 3), (6, .iaload, 0, 0, 0), (7, .ishl, 0, 0, 0), (8, .ireturn, 0, 0, 0)]
def gk89 : List (Nat × gI) := gk89_0
def gk90_0 : List (Nat × gI) := [(0, .iconst 0, 0, 0, 0), (1, .istore_n 1, 0, 0, 0), (2, .iload_n 1, 0, 0, 0), (3, .aload_n 0, 0, 0, 0), (4, .invokevirtual 183, 89, 0, 0), (7, .if_icmp .ge (52), 59, 0, 0), (10, .iconst 0, 0, 0, 0), (11, .istore_n 2, 0, 0, 0), (12, .iload_n 2, 0, 0, 0), (13, .aload_n 0, 0, 0, 0), (14, .getfield 13, 4, 8, 0), (17, .iconst 3, 0, 0, 3), (18, .iaload, 0, 0, 0), (19, .if_icmp .ge (34), 53, 0, 0), (22, .aload_n 0, 0, 0, 0), (23, .getfield 53, 4, 24, 0), (26, .bipush (8), 0, 0, 8), (28, .iload_n 1, 0, 0, 0), (29, .imul, 0, 0, 0), (30, .iload_n 2, 0, 0, 0), (31, .iadd, 0, 0, 0), (32, .aload_n 0, 0, 0, 0), (33, .iload_n 2, 0, 0, 0), (34, .iload_n 1, 0, 0, 0), (35, .invokevirtual 163, 70, 2, 0), (38, .ifCond .ne (7), 45, 0, 0), (41, .iconst 1, 0, 0, 1), (42, .goto (4), 46, 0, 0), (45, .iconst 0, 0, 0, 0), (46, .bastore, 0, 0, 0), (47, .iinc 2 (1), 0, 0, 1), (50, .goto (-38), 12, 0, 0), (53, .iinc 1 (1), 0, 0, 1), (56, .goto (-54), 2, 0, 0), (59, .return_, 0, 0, 0)]
def gk90 : List (Nat × gI) := gk90_0
def gk91_0 : List (Nat × gI) := [(0, .aload_n 0, 0, 0, 0), (1, .getfield 22, 4, 11, 0), (4, .iconst 2, 0, 0, 2), (5, .aload_n 0, 0, 0, 0), (6, .getfield 13, 4, 8, 0), (9, .iconst 4, 0, 0, 4), (10, .iload_n 1, 0, 0, 0), (11, .iadd, 0, 0, 0), (12, .iaload, 0, 0, 0), (13, .iadd, 0, 0, 0), (14, .iaload, 0, 0, 0), (15, .ireturn, 0, 0, 0)]
def gk91 : List (Nat × gI) := gk91_0
def gk92_0 : List (Nat × gI) := [(0, .aload_n 0, 0, 0, 0), (1, .invokevirtual 186, 90, 0, 0), (4, .iconst 0, 0, 0, 0), (5, .istore_n 2, 0, 0, 0), (6, .iload_n 2, 0, 0, 0), (7, .aload_n 0, 0, 0, 0), (8, .invokevirtual 183, 89, 0, 0), (11, .if_icmp .ge (31), 42, 0, 0), (14, .aload_n 0, 0, 0, 0), (15, .getfield 47, 4, 22, 0), (18, .iload_n 2, 0, 0, 0), (19, .iload_n 2, 0, 0, 0), (20, .aload_n 0, 0, 0, 0), (21, .getfield 22, 4, 11, 0), (24, .iconst 0, 0, 0, 0), (25, .iaload, 0, 0, 0), (26, .if_icmp .ne (7), 33, 0, 0), (29, .iconst 0, 0, 0, 0), (30, .goto (5), 35, 0, 0), (33, .ldc 189, 0, 0, 99999), (35, .iastore, 0, 0, 0), (36, .iinc 2 (1), 0, 0, 1), (39, .goto (-33), 6, 0, 0), (42, .iconst 1, 0, 0, 1), (43, .istore_n 2, 0, 0, 0), (44, .iload_n 2, 0, 0, 0), (45, .ifCond .eq (159), 204, 0, 0), (48, .iconst 0, 0, 0, 0), (49, .istore_n 2, 0, 0, 0), (50, .iconst 0, 0, 0, 0), (51, .istore_n 3, 0, 0, 0), (52, .iload_n 3, 0, 0, 0), (53, .aload_n 0, 0, 0, 0), (54, .invokevirtual 183, 89, 0, 0), (57, .if_icmp .ge (144), 201, 0, 0), (60, .iconst 0, 0, 0, 0), (61, .istore 4, 0, 0, 0), (63, .iload 4, 0, 0, 0), (65, .aload_n 0, 0, 0, 0), (66, .getfield 13, 4, 8, 0)]
def gk92_1 : List (Nat × gI) := [(69, .iconst 3, 0, 0, 3), (70, .iaload, 0, 0, 0), (71, .if_icmp .ge (124), 195, 0, 0), (74, .aload_n 0, 0, 0, 0), (75, .getfield 47, 4, 22, 0), (78, .iload_n 3, 0, 0, 0), (79, .iaload, 0, 0, 0), (80, .ldc 189, 0, 0, 99999), (82, .if_icmp .ge (34), 116, 0, 0), (85, .aload_n 0, 0, 0, 0), (86, .getfield 53, 4, 24, 0), (89, .bipush (8), 0, 0, 8), (91, .iload_n 3, 0, 0, 0), (92, .imul, 0, 0, 0), (93, .iload 4, 0, 0, 0), (95, .iadd, 0, 0, 0), (96, .baload, 0, 0, 0), (97, .ifCond .eq (19), 116, 0, 0), (100, .aload_n 0, 0, 0, 0), (101, .getfield 47, 4, 22, 0), (104, .iload_n 3, 0, 0, 0), (105, .iaload, 0, 0, 0), (106, .aload_n 0, 0, 0, 0), (107, .iload 4, 0, 0, 0), (109, .invokevirtual 190, 91, 1, 0), (112, .iadd, 0, 0, 0), (113, .goto (5), 118, 0, 0), (116, .ldc 189, 0, 0, 99999), (118, .istore 5, 0, 0, 0), (120, .iload_n 2, 0, 0, 0), (121, .ifCond .ne (19), 140, 0, 0), (124, .iload 5, 0, 0, 0), (126, .aload_n 0, 0, 0, 0), (127, .getfield 47, 4, 22, 0), (130, .iload_n 3, 0, 0, 0), (131, .iconst 1, 0, 0, 1), (132, .iload 4, 0, 0, 0), (134, .ishl, 0, 0, 0), (135, .ixor, 0, 0, 0), (136, .iaload, 0, 0, 0)]
def gk92_2 : List (Nat × gI) := [(137, .if_icmp .ge (7), 144, 0, 0), (140, .iconst 1, 0, 0, 1), (141, .goto (4), 145, 0, 0), (144, .iconst 0, 0, 0, 0), (145, .istore_n 2, 0, 0, 0), (146, .aload_n 0, 0, 0, 0), (147, .getfield 47, 4, 22, 0), (150, .iload_n 3, 0, 0, 0), (151, .iconst 1, 0, 0, 1), (152, .iload 4, 0, 0, 0), (154, .ishl, 0, 0, 0), (155, .ixor, 0, 0, 0), (156, .iload 5, 0, 0, 0), (158, .aload_n 0, 0, 0, 0), (159, .getfield 47, 4, 22, 0), (162, .iload_n 3, 0, 0, 0), (163, .iconst 1, 0, 0, 1), (164, .iload 4, 0, 0, 0), (166, .ishl, 0, 0, 0), (167, .ixor, 0, 0, 0), (168, .iaload, 0, 0, 0), (169, .if_icmp .ge (8), 177, 0, 0), (172, .iload 5, 0, 0, 0), (174, .goto (14), 188, 0, 0), (177, .aload_n 0, 0, 0, 0), (178, .getfield 47, 4, 22, 0), (181, .iload_n 3, 0, 0, 0), (182, .iconst 1, 0, 0, 1), (183, .iload 4, 0, 0, 0), (185, .ishl, 0, 0, 0), (186, .ixor, 0, 0, 0), (187, .iaload, 0, 0, 0), (188, .iastore, 0, 0, 0), (189, .iinc 4 (1), 0, 0, 1), (192, .goto (-129), 63, 0, 0), (195, .iinc 3 (1), 0, 0, 1), (198, .goto (-146), 52, 0, 0), (201, .goto (-157), 44, 0, 0), (204, .iconst 0, 0, 0, 0), (205, .istore_n 3, 0, 0, 0)]
def gk92_3 : List (Nat × gI) := [(206, .iconst 0, 0, 0, 0), (207, .istore 4, 0, 0, 0), (209, .iconst 0, 0, 0, 0), (210, .istore 5, 0, 0, 0), (212, .iload 5, 0, 0, 0), (214, .aload_n 0, 0, 0, 0), (215, .invokevirtual 183, 89, 0, 0), (218, .if_icmp .ge (67), 285, 0, 0), (221, .iload_n 3, 0, 0, 0), (222, .aload_n 0, 0, 0, 0), (223, .getfield 47, 4, 22, 0), (226, .iload 5, 0, 0, 0), (228, .iaload, 0, 0, 0), (229, .ldc 189, 0, 0, 99999), (231, .if_icmp .ge (7), 238, 0, 0), (234, .iconst 1, 0, 0, 1), (235, .goto (4), 239, 0, 0), (238, .iconst 0, 0, 0, 0), (239, .iadd, 0, 0, 0), (240, .istore_n 3, 0, 0, 0), (241, .aload_n 0, 0, 0, 0), (242, .getfield 47, 4, 22, 0), (245, .iload 5, 0, 0, 0), (247, .iaload, 0, 0, 0), (248, .ldc 189, 0, 0, 99999), (250, .if_icmp .ge (25), 275, 0, 0), (253, .aload_n 0, 0, 0, 0), (254, .getfield 47, 4, 22, 0), (257, .iload 5, 0, 0, 0), (259, .iaload, 0, 0, 0), (260, .iload 4, 0, 0, 0), (262, .if_icmp .le (13), 275, 0, 0), (265, .aload_n 0, 0, 0, 0), (266, .getfield 47, 4, 22, 0), (269, .iload 5, 0, 0, 0), (271, .iaload, 0, 0, 0), (272, .goto (5), 277, 0, 0), (275, .iload 4, 0, 0, 0), (277, .istore 4, 0, 0, 0), (279, .iinc 5 (1), 0, 0, 1)]
def gk92_4 : List (Nat × gI) := [(282, .goto (-70), 212, 0, 0), (285, .iload_n 1, 0, 0, 0), (286, .ifCond .eq (8), 294, 0, 0), (289, .iload 4, 0, 0, 0), (291, .goto (4), 295, 0, 0), (294, .iload_n 3, 0, 0, 0), (295, .ireturn, 0, 0, 0)]
def gk92 : List (Nat × gI) := gk92_0 ++ gk92_1 ++ gk92_2 ++ gk92_3 ++ gk92_4
def gk93_0 : List (Nat × gI) := [(0, .aload_n 0, 0, 0, 0), (1, .iconst 0, 0, 0, 0), (2, .putfield 62, 4, 0, 0), (5, .iload_n 1, 0, 0, 0), (6, .iconst 0, 0, 0, 0), (7, .bipush (8), 0, 0, 8), (9, .invokestatic 66, 10, 3, 0), (12, .ifCond .ne (5), 17, 0, 0), (15, .iconst (-1), 0, 0, (-1)), (16, .ireturn, 0, 0, 0), (17, .iload_n 1, 0, 0, 0), (18, .iconst 4, 0, 0, 4), (19, .if_icmp .ge (71), 90, 0, 0), (22, .aload_n 0, 0, 0, 0), (23, .aload_n 0, 0, 0, 0), (24, .getfield 13, 4, 8, 0), (27, .aload_n 0, 0, 0, 0), (28, .getfield 22, 4, 11, 0), (31, .iconst 0, 0, 0, 0), (32, .iaload, 0, 0, 0), (33, .invokevirtual 135, 61, 2, 0), (36, .istore_n 2, 0, 0, 0), (37, .iload_n 1, 0, 0, 0), (38, .ifCond .ne (12), 50, 0, 0), (41, .aload_n 0, 0, 0, 0), (42, .getfield 22, 4, 11, 0), (45, .iconst 0, 0, 0, 0), (46, .iaload, 0, 0, 0), (47, .goto (42), 89, 0, 0), (50, .iload_n 1, 0, 0, 0), (51, .iconst 1, 0, 0, 1), (52, .if_icmp .ne (7), 59, 0, 0), (55, .iload_n 2, 0, 0, 0), (56, .goto (33), 89, 0, 0), (59, .iload_n 1, 0, 0, 0), (60, .iconst 2, 0, 0, 2), (61, .if_icmp .ne (20), 81, 0, 0), (64, .aload_n 0, 0, 0, 0), (65, .aload_n 0, 0, 0, 0), (66, .getfield 13, 4, 8, 0)]
def gk93_1 : List (Nat × gI) := [(69, .aload_n 0, 0, 0, 0), (70, .getfield 22, 4, 11, 0), (73, .iconst 0, 0, 0, 0), (74, .iaload, 0, 0, 0), (75, .invokevirtual 138, 62, 2, 0), (78, .goto (11), 89, 0, 0), (81, .iload_n 2, 0, 0, 0), (82, .aload_n 0, 0, 0, 0), (83, .getfield 13, 4, 8, 0), (86, .iconst 2, 0, 0, 2), (87, .iaload, 0, 0, 0), (88, .iand, 0, 0, 0), (89, .ireturn, 0, 0, 0), (90, .iload_n 1, 0, 0, 0), (91, .iconst 4, 0, 0, 4), (92, .if_icmp .ne (10), 102, 0, 0), (95, .aload_n 0, 0, 0, 0), (96, .invokevirtual 170, 87, 0, 0), (99, .goto (43), 142, 0, 0), (102, .iload_n 1, 0, 0, 0), (103, .iconst 5, 0, 0, 5), (104, .if_icmp .ne (10), 114, 0, 0), (107, .aload_n 0, 0, 0, 0), (108, .invokevirtual 174, 88, 0, 0), (111, .goto (31), 142, 0, 0), (114, .iload_n 1, 0, 0, 0), (115, .bipush (8), 0, 0, 8), (117, .if_icmp .ne (10), 127, 0, 0), (120, .aload_n 0, 0, 0, 0), (121, .getfield 147, 4, 13, 0), (124, .goto (18), 142, 0, 0), (127, .aload_n 0, 0, 0, 0), (128, .iload_n 1, 0, 0, 0), (129, .bipush (7), 0, 0, 7), (131, .if_icmp .ne (7), 138, 0, 0), (134, .iconst 1, 0, 0, 1), (135, .goto (4), 139, 0, 0), (138, .iconst 0, 0, 0, 0), (139, .invokevirtual 177, 92, 1, 0), (142, .ireturn, 0, 0, 0)]
def gk93 : List (Nat × gI) := gk93_0 ++ gk93_1
def gk94_0 : List (Nat × gI) := [(0, .aload_n 0, 0, 0, 0), (1, .getfield 95, 3, 4, 0), (4, .aload_n 0, 0, 0, 0), (5, .getfield 102, 3, 5, 0), (8, .bipush (8), 0, 0, 8), (10, .ishl, 0, 0, 0), (11, .ior, 0, 0, 0), (12, .aload_n 0, 0, 0, 0), (13, .getfield 33, 3, 6, 0), (16, .iconst 0, 0, 0, 0), (17, .iaload, 0, 0, 0), (18, .bipush (16), 0, 0, 16), (20, .ishl, 0, 0, 0), (21, .ior, 0, 0, 0), (22, .aload_n 0, 0, 0, 0), (23, .getfield 33, 3, 6, 0), (26, .iconst 1, 0, 0, 1), (27, .iaload, 0, 0, 0), (28, .bipush (20), 0, 0, 20), (30, .ishl, 0, 0, 0), (31, .ior, 0, 0, 0), (32, .aload_n 0, 0, 0, 0), (33, .getfield 33, 3, 6, 0), (36, .iconst 2, 0, 0, 2), (37, .iaload, 0, 0, 0), (38, .bipush (24), 0, 0, 24), (40, .ishl, 0, 0, 0), (41, .ior, 0, 0, 0), (42, .ireturn, 0, 0, 0)]
def gk94 : List (Nat × gI) := gk94_0
def gk95_0 : List (Nat × gI) := [(0, .aload_n 0, 0, 0, 0), (1, .getfield 146, 3, 10, 0), (4, .bipush (10), 0, 0, 10), (6, .if_icmp .lt (37), 43, 0, 0), (9, .iconst 1, 0, 0, 1), (10, .istore_n 1, 0, 0, 0), (11, .iload_n 1, 0, 0, 0), (12, .bipush (10), 0, 0, 10), (14, .if_icmp .ge (23), 37, 0, 0), (17, .aload_n 0, 0, 0, 0), (18, .getfield 40, 3, 9, 0), (21, .iload_n 1, 0, 0, 0), (22, .iconst 1, 0, 0, 1), (23, .isub, 0, 0, 0), (24, .aload_n 0, 0, 0, 0), (25, .getfield 40, 3, 9, 0), (28, .iload_n 1, 0, 0, 0), (29, .iaload, 0, 0, 0), (30, .iastore, 0, 0, 0), (31, .iinc 1 (1), 0, 0, 1), (34, .goto (-23), 11, 0, 0), (37, .aload_n 0, 0, 0, 0), (38, .bipush (9), 0, 0, 9), (40, .putfield 146, 3, 10, 0), (43, .aload_n 0, 0, 0, 0), (44, .getfield 40, 3, 9, 0), (47, .aload_n 0, 0, 0, 0), (48, .getfield 146, 3, 10, 0), (51, .aload_n 0, 0, 0, 0), (52, .invokevirtual 216, 94, 0, 0), (55, .iastore, 0, 0, 0), (56, .aload_n 0, 0, 0, 0), (57, .dup, 0, 0, 0), (58, .getfield 146, 3, 10, 0), (61, .iconst 1, 0, 0, 1), (62, .iadd, 0, 0, 0), (63, .putfield 146, 3, 10, 0), (66, .return_, 0, 0, 0)]
def gk95 : List (Nat × gI) := gk95_0
def gk96_0 : List (Nat × gI) := [(0, .aload_n 0, 0, 0, 0), (1, .iload_n 1, 0, 0, 0), (2, .invokevirtual 80, 64, 1, 0), (5, .ifCond .ne (5), 10, 0, 0), (8, .iconst (-1), 0, 0, (-1)), (9, .ireturn, 0, 0, 0), (10, .aload_n 0, 0, 0, 0), (11, .iload_n 1, 0, 0, 0), (12, .invokevirtual 105, 66, 1, 0), (15, .ifCond .eq (6), 21, 0, 0), (18, .bipush (-2), 0, 0, (-2)), (20, .ireturn, 0, 0, 0), (21, .aload_n 0, 0, 0, 0), (22, .invokevirtual 149, 95, 0, 0), (25, .aload_n 0, 0, 0, 0), (26, .dup, 0, 0, 0), (27, .getfield 95, 3, 4, 0), (30, .iconst 1, 0, 0, 1), (31, .iload_n 1, 0, 0, 0), (32, .ishl, 0, 0, 0), (33, .ixor, 0, 0, 0), (34, .putfield 95, 3, 4, 0), (37, .aload_n 0, 0, 0, 0), (38, .getfield 95, 3, 4, 0), (41, .ireturn, 0, 0, 0)]
def gk96 : List (Nat × gI) := gk96_0
def gk97_0 : List (Nat × gI) := [(0, .aload_n 0, 0, 0, 0), (1, .getfield 147, 4, 13, 0), (4, .bipush (10), 0, 0, 10), (6, .if_icmp .ne (37), 43, 0, 0), (9, .iconst 0, 0, 0, 0), (10, .istore_n 1, 0, 0, 0), (11, .iload_n 1, 0, 0, 0), (12, .bipush (45), 0, 0, 45), (14, .if_icmp .ge (23), 37, 0, 0), (17, .aload_n 0, 0, 0, 0), (18, .getfield 25, 4, 12, 0), (21, .iload_n 1, 0, 0, 0), (22, .aload_n 0, 0, 0, 0), (23, .getfield 25, 4, 12, 0), (26, .iload_n 1, 0, 0, 0), (27, .iconst 5, 0, 0, 5), (28, .iadd, 0, 0, 0), (29, .iaload, 0, 0, 0), (30, .iastore, 0, 0, 0), (31, .iinc 1 (1), 0, 0, 1), (34, .goto (-23), 11, 0, 0), (37, .aload_n 0, 0, 0, 0), (38, .bipush (9), 0, 0, 9), (40, .putfield 147, 4, 13, 0), (43, .iconst 0, 0, 0, 0), (44, .istore_n 1, 0, 0, 0), (45, .iload_n 1, 0, 0, 0), (46, .iconst 5, 0, 0, 5), (47, .if_icmp .ge (28), 75, 0, 0), (50, .aload_n 0, 0, 0, 0), (51, .getfield 25, 4, 12, 0), (54, .iconst 5, 0, 0, 5), (55, .aload_n 0, 0, 0, 0), (56, .getfield 147, 4, 13, 0), (59, .imul, 0, 0, 0), (60, .iload_n 1, 0, 0, 0), (61, .iadd, 0, 0, 0), (62, .aload_n 0, 0, 0, 0), (63, .getfield 22, 4, 11, 0), (66, .iload_n 1, 0, 0, 0)]
def gk97_1 : List (Nat × gI) := [(67, .iaload, 0, 0, 0), (68, .iastore, 0, 0, 0), (69, .iinc 1 (1), 0, 0, 1), (72, .goto (-27), 45, 0, 0), (75, .aload_n 0, 0, 0, 0), (76, .dup, 0, 0, 0), (77, .getfield 147, 4, 13, 0), (80, .iconst 1, 0, 0, 1), (81, .iadd, 0, 0, 0), (82, .putfield 147, 4, 13, 0), (85, .return_, 0, 0, 0)]
def gk97 : List (Nat × gI) := gk97_0 ++ gk97_1
def gk98_0 : List (Nat × gI) := [(0, .aload_n 0, 0, 0, 0), (1, .iconst 0, 0, 0, 0), (2, .putfield 62, 4, 0, 0), (5, .aload_n 0, 0, 0, 0), (6, .iload_n 1, 0, 0, 0), (7, .invokevirtual 160, 68, 1, 0), (10, .ifCond .ne (5), 15, 0, 0), (13, .iconst (-1), 0, 0, (-1)), (14, .ireturn, 0, 0, 0), (15, .aload_n 0, 0, 0, 0), (16, .iload_n 1, 0, 0, 0), (17, .aload_n 0, 0, 0, 0), (18, .getfield 22, 4, 11, 0), (21, .iconst 0, 0, 0, 0), (22, .iaload, 0, 0, 0), (23, .invokevirtual 163, 70, 2, 0), (26, .ifCond .eq (6), 32, 0, 0), (29, .bipush (-2), 0, 0, (-2)), (31, .ireturn, 0, 0, 0), (32, .aload_n 0, 0, 0, 0), (33, .invokevirtual 180, 97, 0, 0), (36, .aload_n 0, 0, 0, 0), (37, .getfield 22, 4, 11, 0), (40, .iconst 0, 0, 0, 0), (41, .dup2, 0, 0, 0), (42, .iaload, 0, 0, 0), (43, .iconst 1, 0, 0, 1), (44, .iload_n 1, 0, 0, 0), (45, .ishl, 0, 0, 0), (46, .ixor, 0, 0, 0), (47, .iastore, 0, 0, 0), (48, .aload_n 0, 0, 0, 0), (49, .getfield 22, 4, 11, 0), (52, .iconst 0, 0, 0, 0), (53, .iaload, 0, 0, 0), (54, .ireturn, 0, 0, 0)]
def gk98 : List (Nat × gI) := gk98_0
def gk99_0 : List (Nat × gI) := [(0, .aload_n 0, 0, 0, 0), (1, .iload_n 1, 0, 0, 0), (2, .invokevirtual 80, 64, 1, 0), (5, .ifCond .ne (5), 10, 0, 0), (8, .iconst (-1), 0, 0, (-1)), (9, .ireturn, 0, 0, 0), (10, .aload_n 0, 0, 0, 0), (11, .invokevirtual 149, 95, 0, 0), (14, .aload_n 0, 0, 0, 0), (15, .dup, 0, 0, 0), (16, .getfield 102, 3, 5, 0), (19, .iconst 1, 0, 0, 1), (20, .iload_n 1, 0, 0, 0), (21, .ishl, 0, 0, 0), (22, .ixor, 0, 0, 0), (23, .putfield 102, 3, 5, 0), (26, .aload_n 0, 0, 0, 0), (27, .getfield 102, 3, 5, 0), (30, .iload_n 1, 0, 0, 0), (31, .invokestatic 98, 19, 2, 0), (34, .ireturn, 0, 0, 0)]
def gk99 : List (Nat × gI) := gk99_0
def gk100_0 : List (Nat × gI) := [(0, .aload_n 0, 0, 0, 0), (1, .iconst 0, 0, 0, 0), (2, .putfield 62, 4, 0, 0), (5, .aload_n 0, 0, 0, 0), (6, .iload_n 1, 0, 0, 0), (7, .invokevirtual 160, 68, 1, 0), (10, .ifCond .ne (5), 15, 0, 0), (13, .iconst (-1), 0, 0, (-1)), (14, .ireturn, 0, 0, 0), (15, .aload_n 0, 0, 0, 0), (16, .invokevirtual 180, 97, 0, 0), (19, .aload_n 0, 0, 0, 0), (20, .getfield 22, 4, 11, 0), (23, .iconst 1, 0, 0, 1), (24, .dup2, 0, 0, 0), (25, .iaload, 0, 0, 0), (26, .iconst 1, 0, 0, 1), (27, .iload_n 1, 0, 0, 0), (28, .ishl, 0, 0, 0), (29, .ixor, 0, 0, 0), (30, .iastore, 0, 0, 0), (31, .aload_n 0, 0, 0, 0), (32, .getfield 22, 4, 11, 0), (35, .iconst 1, 0, 0, 1), (36, .iaload, 0, 0, 0), (37, .iload_n 1, 0, 0, 0), (38, .ishr, 0, 0, 0), (39, .iconst 1, 0, 0, 1), (40, .iand, 0, 0, 0), (41, .ireturn, 0, 0, 0)]
def gk100 : List (Nat × gI) := gk100_0
def gk101_0 : List (Nat × gI) := [(0, .iload_n 0, 0, 0, 0), (1, .iconst 1, 0, 0, 1), (2, .if_icmp .lt (13), 15, 0, 0), (5, .iload_n 0, 0, 0, 0), (6, .bipush (9), 0, 0, 9), (8, .if_icmp .gt (7), 15, 0, 0), (11, .iconst 1, 0, 0, 1), (12, .goto (4), 16, 0, 0), (15, .iconst 0, 0, 0, 0), (16, .ireturn, 0, 0, 0)]
def gk101 : List (Nat × gI) := gk101_0
def gk102_0 : List (Nat × gI) := [(0, .iload_n 1, 0, 0, 0), (1, .invokestatic 152, 101, 1, 0), (4, .ifCond .eq (17), 21, 0, 0), (7, .iload_n 2, 0, 0, 0), (8, .invokestatic 152, 101, 1, 0), (11, .ifCond .eq (10), 21, 0, 0), (14, .iload_n 3, 0, 0, 0), (15, .invokestatic 152, 101, 1, 0), (18, .ifCond .ne (5), 23, 0, 0), (21, .iconst (-1), 0, 0, (-1)), (22, .ireturn, 0, 0, 0), (23, .aload_n 0, 0, 0, 0), (24, .invokevirtual 149, 95, 0, 0), (27, .aload_n 0, 0, 0, 0), (28, .iload_n 1, 0, 0, 0), (29, .iload_n 2, 0, 0, 0), (30, .iload_n 3, 0, 0, 0), (31, .invokevirtual 155, 3, 3, 0), (34, .iload_n 1, 0, 0, 0), (35, .iload_n 2, 0, 0, 0), (36, .iadd, 0, 0, 0), (37, .iload_n 3, 0, 0, 0), (38, .iadd, 0, 0, 0), (39, .ireturn, 0, 0, 0)]
def gk102 : List (Nat × gI) := gk102_0
def gk103_0 : List (Nat × gI) := [(0, .aload_n 0, 0, 0, 0), (1, .iconst 0, 0, 0, 0), (2, .putfield 62, 4, 0, 0), (5, .iload_n 1, 0, 0, 0), (6, .iconst 1, 0, 0, 1), (7, .bipush (9), 0, 0, 9), (9, .invokestatic 66, 10, 3, 0), (12, .ifCond .eq (23), 35, 0, 0), (15, .iload_n 2, 0, 0, 0), (16, .iconst 1, 0, 0, 1), (17, .bipush (9), 0, 0, 9), (19, .invokestatic 66, 10, 3, 0), (22, .ifCond .eq (13), 35, 0, 0), (25, .iload_n 3, 0, 0, 0), (26, .iconst 1, 0, 0, 1), (27, .bipush (9), 0, 0, 9), (29, .invokestatic 66, 10, 3, 0), (32, .ifCond .ne (5), 37, 0, 0), (35, .iconst (-1), 0, 0, (-1)), (36, .ireturn, 0, 0, 0), (37, .aload_n 0, 0, 0, 0), (38, .invokevirtual 180, 97, 0, 0), (41, .aload_n 0, 0, 0, 0), (42, .getfield 22, 4, 11, 0), (45, .iconst 2, 0, 0, 2), (46, .iload_n 1, 0, 0, 0), (47, .iastore, 0, 0, 0), (48, .aload_n 0, 0, 0, 0), (49, .getfield 22, 4, 11, 0), (52, .iconst 3, 0, 0, 3), (53, .iload_n 2, 0, 0, 0), (54, .iastore, 0, 0, 0), (55, .aload_n 0, 0, 0, 0), (56, .getfield 22, 4, 11, 0), (59, .iconst 4, 0, 0, 4), (60, .iload_n 3, 0, 0, 0), (61, .iastore, 0, 0, 0), (62, .iload_n 1, 0, 0, 0), (63, .iload_n 2, 0, 0, 0), (64, .iadd, 0, 0, 0)]
def gk103_1 : List (Nat × gI) := [(65, .iload_n 3, 0, 0, 0), (66, .iadd, 0, 0, 0), (67, .ireturn, 0, 0, 0)]
def gk103 : List (Nat × gI) := gk103_0 ++ gk103_1
def gk104_0 : List (Nat × gI) := [(0, .aload_n 0, 0, 0, 0), (1, .iload_n 1, 0, 0, 0), (2, .invokevirtual 80, 64, 1, 0), (5, .ifCond .ne (5), 10, 0, 0), (8, .iconst (-1), 0, 0, (-1)), (9, .ireturn, 0, 0, 0), (10, .aload_n 0, 0, 0, 0), (11, .getfield 159, 3, 8, 0), (14, .bipush (12), 0, 0, 12), (16, .if_icmp .lt (6), 22, 0, 0), (19, .bipush (-3), 0, 0, (-3)), (21, .ireturn, 0, 0, 0), (22, .aload_n 0, 0, 0, 0), (23, .getfield 37, 3, 7, 0), (26, .aload_n 0, 0, 0, 0), (27, .getfield 159, 3, 8, 0), (30, .iload_n 1, 0, 0, 0), (31, .iastore, 0, 0, 0), (32, .aload_n 0, 0, 0, 0), (33, .dup, 0, 0, 0), (34, .getfield 159, 3, 8, 0), (37, .iconst 1, 0, 0, 1), (38, .iadd, 0, 0, 0), (39, .putfield 159, 3, 8, 0), (42, .aload_n 0, 0, 0, 0), (43, .getfield 159, 3, 8, 0), (46, .ireturn, 0, 0, 0)]
def gk104 : List (Nat × gI) := gk104_0
def gk105_0 : List (Nat × gI) := [(0, .aload_n 0, 0, 0, 0), (1, .iconst 0, 0, 0, 0), (2, .putfield 62, 4, 0, 0), (5, .aload_n 0, 0, 0, 0), (6, .iload_n 1, 0, 0, 0), (7, .invokevirtual 160, 68, 1, 0), (10, .ifCond .ne (5), 15, 0, 0), (13, .iconst (-1), 0, 0, (-1)), (14, .ireturn, 0, 0, 0), (15, .aload_n 0, 0, 0, 0), (16, .getfield 141, 4, 17, 0), (19, .bipush (12), 0, 0, 12), (21, .if_icmp .ne (6), 27, 0, 0), (24, .bipush (-3), 0, 0, (-3)), (26, .ireturn, 0, 0, 0), (27, .aload_n 0, 0, 0, 0), (28, .getfield 35, 4, 16, 0), (31, .aload_n 0, 0, 0, 0), (32, .getfield 141, 4, 17, 0), (35, .iload_n 1, 0, 0, 0), (36, .iastore, 0, 0, 0), (37, .aload_n 0, 0, 0, 0), (38, .dup, 0, 0, 0), (39, .getfield 141, 4, 17, 0), (42, .iconst 1, 0, 0, 1), (43, .iadd, 0, 0, 0), (44, .putfield 141, 4, 17, 0), (47, .aload_n 0, 0, 0, 0), (48, .getfield 141, 4, 17, 0), (51, .ireturn, 0, 0, 0)]
def gk105 : List (Nat × gI) := gk105_0
def gk106_0 : List (Nat × gI) := [(0, .aload_n 0, 0, 0, 0), (1, .getfield 159, 3, 8, 0), (4, .ifCond .eq (16), 20, 0, 0), (7, .aload_n 0, 0, 0, 0), (8, .aload_n 0, 0, 0, 0), (9, .getfield 37, 3, 7, 0), (12, .iconst 0, 0, 0, 0), (13, .iaload, 0, 0, 0), (14, .invokevirtual 105, 66, 1, 0), (17, .ifCond .eq (6), 23, 0, 0), (20, .bipush (-2), 0, 0, (-2)), (22, .ireturn, 0, 0, 0), (23, .aload_n 0, 0, 0, 0), (24, .invokevirtual 149, 95, 0, 0), (27, .iconst 0, 0, 0, 0), (28, .istore_n 1, 0, 0, 0), (29, .iload_n 1, 0, 0, 0), (30, .aload_n 0, 0, 0, 0), (31, .getfield 159, 3, 8, 0), (34, .if_icmp .ge (39), 73, 0, 0), (37, .aload_n 0, 0, 0, 0), (38, .aload_n 0, 0, 0, 0), (39, .getfield 37, 3, 7, 0), (42, .iload_n 1, 0, 0, 0), (43, .iaload, 0, 0, 0), (44, .invokevirtual 105, 66, 1, 0), (47, .ifCond .ne (26), 73, 0, 0), (50, .aload_n 0, 0, 0, 0), (51, .dup, 0, 0, 0), (52, .getfield 95, 3, 4, 0), (55, .iconst 1, 0, 0, 1), (56, .aload_n 0, 0, 0, 0), (57, .getfield 37, 3, 7, 0), (60, .iload_n 1, 0, 0, 0), (61, .iaload, 0, 0, 0), (62, .ishl, 0, 0, 0), (63, .ixor, 0, 0, 0), (64, .putfield 95, 3, 4, 0), (67, .iinc 1 (1), 0, 0, 1), (70, .goto (-41), 29, 0, 0)]
def gk106_1 : List (Nat × gI) := [(73, .aload_n 0, 0, 0, 0), (74, .dup, 0, 0, 0), (75, .getfield 159, 3, 8, 0), (78, .iload_n 1, 0, 0, 0), (79, .isub, 0, 0, 0), (80, .putfield 159, 3, 8, 0), (83, .iconst 0, 0, 0, 0), (84, .istore_n 2, 0, 0, 0), (85, .iload_n 2, 0, 0, 0), (86, .aload_n 0, 0, 0, 0), (87, .getfield 159, 3, 8, 0), (90, .if_icmp .ge (23), 113, 0, 0), (93, .aload_n 0, 0, 0, 0), (94, .getfield 37, 3, 7, 0), (97, .iload_n 2, 0, 0, 0), (98, .aload_n 0, 0, 0, 0), (99, .getfield 37, 3, 7, 0), (102, .iload_n 2, 0, 0, 0), (103, .iload_n 1, 0, 0, 0), (104, .iadd, 0, 0, 0), (105, .iaload, 0, 0, 0), (106, .iastore, 0, 0, 0), (107, .iinc 2 (1), 0, 0, 1), (110, .goto (-25), 85, 0, 0), (113, .iload_n 1, 0, 0, 0), (114, .ireturn, 0, 0, 0)]
def gk106 : List (Nat × gI) := gk106_0 ++ gk106_1
def gk107_0 : List (Nat × gI) := [(0, .aload_n 0, 0, 0, 0), (1, .iconst 0, 0, 0, 0), (2, .putfield 62, 4, 0, 0), (5, .aload_n 0, 0, 0, 0), (6, .getfield 141, 4, 17, 0), (9, .ifCond .eq (22), 31, 0, 0), (12, .aload_n 0, 0, 0, 0), (13, .aload_n 0, 0, 0, 0), (14, .getfield 35, 4, 16, 0), (17, .iconst 0, 0, 0, 0), (18, .iaload, 0, 0, 0), (19, .aload_n 0, 0, 0, 0), (20, .getfield 22, 4, 11, 0), (23, .iconst 0, 0, 0, 0), (24, .iaload, 0, 0, 0), (25, .invokevirtual 163, 70, 2, 0), (28, .ifCond .eq (6), 34, 0, 0), (31, .bipush (-2), 0, 0, (-2)), (33, .ireturn, 0, 0, 0), (34, .aload_n 0, 0, 0, 0), (35, .invokevirtual 180, 97, 0, 0), (38, .iconst 0, 0, 0, 0), (39, .istore_n 1, 0, 0, 0), (40, .iload_n 1, 0, 0, 0), (41, .aload_n 0, 0, 0, 0), (42, .getfield 141, 4, 17, 0), (45, .if_icmp .ge (45), 90, 0, 0), (48, .aload_n 0, 0, 0, 0), (49, .aload_n 0, 0, 0, 0), (50, .getfield 35, 4, 16, 0), (53, .iload_n 1, 0, 0, 0), (54, .iaload, 0, 0, 0), (55, .aload_n 0, 0, 0, 0), (56, .getfield 22, 4, 11, 0), (59, .iconst 0, 0, 0, 0), (60, .iaload, 0, 0, 0), (61, .invokevirtual 163, 70, 2, 0), (64, .ifCond .ne (26), 90, 0, 0), (67, .aload_n 0, 0, 0, 0), (68, .getfield 22, 4, 11, 0)]
def gk107_1 : List (Nat × gI) := [(71, .iconst 0, 0, 0, 0), (72, .dup2, 0, 0, 0), (73, .iaload, 0, 0, 0), (74, .iconst 1, 0, 0, 1), (75, .aload_n 0, 0, 0, 0), (76, .getfield 35, 4, 16, 0), (79, .iload_n 1, 0, 0, 0), (80, .iaload, 0, 0, 0), (81, .ishl, 0, 0, 0), (82, .ixor, 0, 0, 0), (83, .iastore, 0, 0, 0), (84, .iinc 1 (1), 0, 0, 1), (87, .goto (-47), 40, 0, 0), (90, .iload_n 1, 0, 0, 0), (91, .istore_n 2, 0, 0, 0), (92, .iload_n 2, 0, 0, 0), (93, .aload_n 0, 0, 0, 0), (94, .getfield 141, 4, 17, 0), (97, .if_icmp .ge (23), 120, 0, 0), (100, .aload_n 0, 0, 0, 0), (101, .getfield 35, 4, 16, 0), (104, .iload_n 2, 0, 0, 0), (105, .iload_n 1, 0, 0, 0), (106, .isub, 0, 0, 0), (107, .aload_n 0, 0, 0, 0), (108, .getfield 35, 4, 16, 0), (111, .iload_n 2, 0, 0, 0), (112, .iaload, 0, 0, 0), (113, .iastore, 0, 0, 0), (114, .iinc 2 (1), 0, 0, 1), (117, .goto (-25), 92, 0, 0), (120, .aload_n 0, 0, 0, 0), (121, .dup, 0, 0, 0), (122, .getfield 141, 4, 17, 0), (125, .iload_n 1, 0, 0, 0), (126, .isub, 0, 0, 0), (127, .putfield 141, 4, 17, 0), (130, .iload_n 1, 0, 0, 0), (131, .ireturn, 0, 0, 0)]
def gk107 : List (Nat × gI) := gk107_0 ++ gk107_1
def gk108_0 : List (Nat × gI) := [(0, .aload_n 0, 0, 0, 0), (1, .getfield 159, 3, 8, 0), (4, .istore_n 1, 0, 0, 0), (5, .aload_n 0, 0, 0, 0), (6, .iconst 0, 0, 0, 0), (7, .putfield 159, 3, 8, 0), (10, .iload_n 1, 0, 0, 0), (11, .ireturn, 0, 0, 0)]
def gk108 : List (Nat × gI) := gk108_0
def gk109_0 : List (Nat × gI) := [(0, .aload_n 0, 0, 0, 0), (1, .iconst 0, 0, 0, 0), (2, .putfield 62, 4, 0, 0), (5, .aload_n 0, 0, 0, 0), (6, .getfield 141, 4, 17, 0), (9, .istore_n 1, 0, 0, 0), (10, .aload_n 0, 0, 0, 0), (11, .iconst 0, 0, 0, 0), (12, .putfield 141, 4, 17, 0), (15, .iload_n 1, 0, 0, 0), (16, .ireturn, 0, 0, 0)]
def gk109 : List (Nat × gI) := gk109_0
def gk110_0 : List (Nat × gI) := [(0, .aload_n 0, 0, 0, 0), (1, .iload_n 1, 0, 0, 0), (2, .sipush (255), 0, 0, 255), (5, .iand, 0, 0, 0), (6, .putfield 95, 3, 4, 0), (9, .aload_n 0, 0, 0, 0), (10, .iload_n 1, 0, 0, 0), (11, .bipush (8), 0, 0, 8), (13, .ishr, 0, 0, 0), (14, .sipush (255), 0, 0, 255), (17, .iand, 0, 0, 0), (18, .putfield 102, 3, 5, 0), (21, .aload_n 0, 0, 0, 0), (22, .iload_n 1, 0, 0, 0), (23, .bipush (16), 0, 0, 16), (25, .ishr, 0, 0, 0), (26, .bipush (15), 0, 0, 15), (28, .iand, 0, 0, 0), (29, .iload_n 1, 0, 0, 0), (30, .bipush (20), 0, 0, 20), (32, .ishr, 0, 0, 0), (33, .bipush (15), 0, 0, 15), (35, .iand, 0, 0, 0), (36, .iload_n 1, 0, 0, 0), (37, .bipush (24), 0, 0, 24), (39, .ishr, 0, 0, 0), (40, .bipush (15), 0, 0, 15), (42, .iand, 0, 0, 0), (43, .invokevirtual 155, 3, 3, 0), (46, .return_, 0, 0, 0)]
def gk110 : List (Nat × gI) := gk110_0
def gk111_0 : List (Nat × gI) := [(0, .aload_n 0, 0, 0, 0), (1, .getfield 146, 3, 10, 0), (4, .ifCond .ne (6), 10, 0, 0), (7, .bipush (-2), 0, 0, (-2)), (9, .ireturn, 0, 0, 0), (10, .aload_n 0, 0, 0, 0), (11, .dup, 0, 0, 0), (12, .getfield 146, 3, 10, 0), (15, .iconst 1, 0, 0, 1), (16, .isub, 0, 0, 0), (17, .putfield 146, 3, 10, 0), (20, .aload_n 0, 0, 0, 0), (21, .aload_n 0, 0, 0, 0), (22, .getfield 40, 3, 9, 0), (25, .aload_n 0, 0, 0, 0), (26, .getfield 146, 3, 10, 0), (29, .iaload, 0, 0, 0), (30, .invokevirtual 162, 110, 1, 0), (33, .aload_n 0, 0, 0, 0), (34, .getfield 146, 3, 10, 0), (37, .ireturn, 0, 0, 0)]
def gk111 : List (Nat × gI) := gk111_0
def gk112_0 : List (Nat × gI) := [(0, .aload_n 0, 0, 0, 0), (1, .iconst 0, 0, 0, 0), (2, .putfield 62, 4, 0, 0), (5, .aload_n 0, 0, 0, 0), (6, .getfield 147, 4, 13, 0), (9, .ifCond .ne (6), 15, 0, 0), (12, .bipush (-2), 0, 0, (-2)), (14, .ireturn, 0, 0, 0), (15, .aload_n 0, 0, 0, 0), (16, .dup, 0, 0, 0), (17, .getfield 147, 4, 13, 0), (20, .iconst 1, 0, 0, 1), (21, .isub, 0, 0, 0), (22, .putfield 147, 4, 13, 0), (25, .iconst 0, 0, 0, 0), (26, .istore_n 1, 0, 0, 0), (27, .iload_n 1, 0, 0, 0), (28, .iconst 5, 0, 0, 5), (29, .if_icmp .ge (28), 57, 0, 0), (32, .aload_n 0, 0, 0, 0), (33, .getfield 22, 4, 11, 0), (36, .iload_n 1, 0, 0, 0), (37, .aload_n 0, 0, 0, 0), (38, .getfield 25, 4, 12, 0), (41, .iconst 5, 0, 0, 5), (42, .aload_n 0, 0, 0, 0), (43, .getfield 147, 4, 13, 0), (46, .imul, 0, 0, 0), (47, .iload_n 1, 0, 0, 0), (48, .iadd, 0, 0, 0), (49, .iaload, 0, 0, 0), (50, .iastore, 0, 0, 0), (51, .iinc 1 (1), 0, 0, 1), (54, .goto (-27), 27, 0, 0), (57, .aload_n 0, 0, 0, 0), (58, .getfield 147, 4, 13, 0), (61, .ireturn, 0, 0, 0)]
def gk112 : List (Nat × gI) := gk112_0
def gk113_0 : List (Nat × gI) := [(0, .iconst 0, 0, 0, 0), (1, .istore_n 2, 0, 0, 0), (2, .iload_n 2, 0, 0, 0), (3, .aload_n 0, 0, 0, 0), (4, .getfield 26, 3, 2, 0), (7, .getfield 112, 1, 3, 0), (10, .if_icmp .ge (68), 78, 0, 0), (13, .aload_n 0, 0, 0, 0), (14, .getfield 102, 3, 5, 0), (17, .iload_n 2, 0, 0, 0), (18, .invokestatic 98, 19, 2, 0), (21, .ifCond .ne (51), 72, 0, 0), (24, .aload_n 0, 0, 0, 0), (25, .getfield 26, 3, 2, 0), (28, .iload_n 1, 0, 0, 0), (29, .iload_n 2, 0, 0, 0), (30, .invokevirtual 225, 65, 2, 0), (33, .ifCond .ne (39), 72, 0, 0), (36, .aload_n 0, 0, 0, 0), (37, .getfield 49, 3, 15, 0), (40, .iload_n 1, 0, 0, 0), (41, .iconst 1, 0, 0, 1), (42, .iload_n 2, 0, 0, 0), (43, .ishl, 0, 0, 0), (44, .ixor, 0, 0, 0), (45, .iaload, 0, 0, 0), (46, .aload_n 0, 0, 0, 0), (47, .getfield 33, 3, 6, 0), (50, .aload_n 0, 0, 0, 0), (51, .getfield 26, 3, 2, 0), (54, .getfield 83, 1, 6, 0), (57, .iload_n 2, 0, 0, 0), (58, .iaload, 0, 0, 0), (59, .iaload, 0, 0, 0), (60, .iadd, 0, 0, 0), (61, .aload_n 0, 0, 0, 0), (62, .getfield 49, 3, 15, 0), (65, .iload_n 1, 0, 0, 0), (66, .iaload, 0, 0, 0), (67, .if_icmp .ne (5), 72, 0, 0)]
def gk113_1 : List (Nat × gI) := [(70, .iload_n 2, 0, 0, 0), (71, .ireturn, 0, 0, 0), (72, .iinc 2 (1), 0, 0, 1), (75, .goto (-73), 2, 0, 0), (78, .bipush (-9), 0, 0, (-9)), (80, .ireturn, 0, 0, 0)]
def gk113 : List (Nat × gI) := gk113_0 ++ gk113_1
def gk114_0 : List (Nat × gI) := [(0, .aload_n 0, 0, 0, 0), (1, .getfield 49, 3, 15, 0), (4, .aload_n 0, 0, 0, 0), (5, .getfield 95, 3, 4, 0), (8, .iaload, 0, 0, 0), (9, .istore_n 2, 0, 0, 0), (10, .iload_n 2, 0, 0, 0), (11, .iconst (-1), 0, 0, (-1)), (12, .if_icmp .ne (6), 18, 0, 0), (15, .bipush (-9), 0, 0, (-9)), (17, .ireturn, 0, 0, 0), (18, .iload_n 1, 0, 0, 0), (19, .ifCond .ge (5), 24, 0, 0), (22, .iload_n 2, 0, 0, 0), (23, .ireturn, 0, 0, 0), (24, .aload_n 0, 0, 0, 0), (25, .getfield 95, 3, 4, 0), (28, .istore_n 3, 0, 0, 0), (29, .iconst 0, 0, 0, 0), (30, .istore 4, 0, 0, 0), (32, .iload 4, 0, 0, 0), (34, .sipush (256), 0, 0, 256), (37, .if_icmp .ge (57), 94, 0, 0), (40, .iload 4, 0, 0, 0), (42, .iload_n 1, 0, 0, 0), (43, .if_icmp .gt (51), 94, 0, 0), (46, .aload_n 0, 0, 0, 0), (47, .getfield 49, 3, 15, 0), (50, .iload_n 3, 0, 0, 0), (51, .iaload, 0, 0, 0), (52, .ifCond .le (42), 94, 0, 0), (55, .aload_n 0, 0, 0, 0), (56, .iload_n 3, 0, 0, 0), (57, .invokevirtual 233, 113, 1, 0), (60, .istore 5, 0, 0, 0), (62, .iload 5, 0, 0, 0), (64, .bipush (-9), 0, 0, (-9)), (66, .if_icmp .ne (6), 72, 0, 0), (69, .bipush (-9), 0, 0, (-9)), (71, .ireturn, 0, 0, 0)]
def gk114_1 : List (Nat × gI) := [(72, .iload 4, 0, 0, 0), (74, .iload_n 1, 0, 0, 0), (75, .if_icmp .ne (6), 81, 0, 0), (78, .iload 5, 0, 0, 0), (80, .ireturn, 0, 0, 0), (81, .iload_n 3, 0, 0, 0), (82, .iconst 1, 0, 0, 1), (83, .iload 5, 0, 0, 0), (85, .ishl, 0, 0, 0), (86, .ixor, 0, 0, 0), (87, .istore_n 3, 0, 0, 0), (88, .iinc 4 (1), 0, 0, 1), (91, .goto (-59), 32, 0, 0), (94, .bipush (-9), 0, 0, (-9)), (96, .ireturn, 0, 0, 0)]
def gk114 : List (Nat × gI) := gk114_0 ++ gk114_1
def gk115_0 : List (Nat × gI) := [(0, .iload_n 1, 0, 0, 0), (1, .aload_n 0, 0, 0, 0), (2, .getfield 26, 3, 2, 0), (5, .invokevirtual 166, 35, 0, 0), (8, .iconst (-1), 0, 0, (-1)), (9, .ixor, 0, 0, 0), (10, .iand, 0, 0, 0), (11, .ifCond .ne (16), 27, 0, 0), (14, .iload_n 2, 0, 0, 0), (15, .iload_n 1, 0, 0, 0), (16, .iconst (-1), 0, 0, (-1)), (17, .ixor, 0, 0, 0), (18, .iand, 0, 0, 0), (19, .ifCond .ne (8), 27, 0, 0), (22, .iload_n 3, 0, 0, 0), (23, .iconst (-1), 0, 0, (-1)), (24, .if_icmp .ge (5), 29, 0, 0), (27, .iconst (-1), 0, 0, (-1)), (28, .ireturn, 0, 0, 0), (29, .aload_n 0, 0, 0, 0), (30, .iload_n 1, 0, 0, 0), (31, .iload_n 2, 0, 0, 0), (32, .iconst 0, 0, 0, 0), (33, .iconst 0, 0, 0, 0), (34, .invokevirtual 169, 83, 4, 0), (37, .aload_n 0, 0, 0, 0), (38, .iload_n 3, 0, 0, 0), (39, .invokevirtual 173, 114, 1, 0), (42, .ireturn, 0, 0, 0)]
def gk115 : List (Nat × gI) := gk115_0
def gk116_0 : List (Nat × gI) := [(0, .aload_n 0, 0, 0, 0), (1, .invokevirtual 186, 90, 0, 0), (4, .iconst 0, 0, 0, 0), (5, .istore_n 1, 0, 0, 0), (6, .iload_n 1, 0, 0, 0), (7, .aload_n 0, 0, 0, 0), (8, .invokevirtual 183, 89, 0, 0), (11, .if_icmp .ge (30), 41, 0, 0), (14, .aload_n 0, 0, 0, 0), (15, .getfield 47, 4, 22, 0), (18, .iload_n 1, 0, 0, 0), (19, .aload_n 0, 0, 0, 0), (20, .getfield 50, 4, 23, 0), (23, .iload_n 1, 0, 0, 0), (24, .baload, 0, 0, 0), (25, .ifCond .eq (7), 32, 0, 0), (28, .iconst 0, 0, 0, 0), (29, .goto (5), 34, 0, 0), (32, .ldc 189, 0, 0, 99999), (34, .iastore, 0, 0, 0), (35, .iinc 1 (1), 0, 0, 1), (38, .goto (-32), 6, 0, 0), (41, .iconst 1, 0, 0, 1), (42, .istore_n 1, 0, 0, 0), (43, .iload_n 1, 0, 0, 0), (44, .ifCond .eq (128), 172, 0, 0), (47, .iconst 0, 0, 0, 0), (48, .istore_n 1, 0, 0, 0), (49, .iconst 0, 0, 0, 0), (50, .istore_n 2, 0, 0, 0), (51, .iload_n 2, 0, 0, 0), (52, .aload_n 0, 0, 0, 0), (53, .invokevirtual 183, 89, 0, 0), (56, .if_icmp .ge (113), 169, 0, 0), (59, .iconst 0, 0, 0, 0), (60, .istore_n 3, 0, 0, 0), (61, .iload_n 3, 0, 0, 0), (62, .aload_n 0, 0, 0, 0), (63, .getfield 13, 4, 8, 0), (66, .iconst 3, 0, 0, 3)]
def gk116_1 : List (Nat × gI) := [(67, .iaload, 0, 0, 0), (68, .if_icmp .ge (95), 163, 0, 0), (71, .aload_n 0, 0, 0, 0), (72, .getfield 53, 4, 24, 0), (75, .bipush (8), 0, 0, 8), (77, .iload_n 2, 0, 0, 0), (78, .imul, 0, 0, 0), (79, .iload_n 3, 0, 0, 0), (80, .iadd, 0, 0, 0), (81, .baload, 0, 0, 0), (82, .ifCond .eq (22), 104, 0, 0), (85, .aload_n 0, 0, 0, 0), (86, .getfield 47, 4, 22, 0), (89, .iload_n 2, 0, 0, 0), (90, .iconst 1, 0, 0, 1), (91, .iload_n 3, 0, 0, 0), (92, .ishl, 0, 0, 0), (93, .ixor, 0, 0, 0), (94, .iaload, 0, 0, 0), (95, .aload_n 0, 0, 0, 0), (96, .iload_n 3, 0, 0, 0), (97, .invokevirtual 190, 91, 1, 0), (100, .iadd, 0, 0, 0), (101, .goto (5), 106, 0, 0), (104, .ldc 189, 0, 0, 99999), (106, .istore 4, 0, 0, 0), (108, .iload_n 1, 0, 0, 0), (109, .ifCond .ne (14), 123, 0, 0), (112, .iload 4, 0, 0, 0), (114, .aload_n 0, 0, 0, 0), (115, .getfield 47, 4, 22, 0), (118, .iload_n 2, 0, 0, 0), (119, .iaload, 0, 0, 0), (120, .if_icmp .ge (7), 127, 0, 0), (123, .iconst 1, 0, 0, 1), (124, .goto (4), 128, 0, 0), (127, .iconst 0, 0, 0, 0), (128, .istore_n 1, 0, 0, 0), (129, .aload_n 0, 0, 0, 0), (130, .getfield 47, 4, 22, 0)]
def gk116_2 : List (Nat × gI) := [(133, .iload_n 2, 0, 0, 0), (134, .iload 4, 0, 0, 0), (136, .aload_n 0, 0, 0, 0), (137, .getfield 47, 4, 22, 0), (140, .iload_n 2, 0, 0, 0), (141, .iaload, 0, 0, 0), (142, .if_icmp .ge (8), 150, 0, 0), (145, .iload 4, 0, 0, 0), (147, .goto (9), 156, 0, 0), (150, .aload_n 0, 0, 0, 0), (151, .getfield 47, 4, 22, 0), (154, .iload_n 2, 0, 0, 0), (155, .iaload, 0, 0, 0), (156, .iastore, 0, 0, 0), (157, .iinc 3 (1), 0, 0, 1), (160, .goto (-99), 61, 0, 0), (163, .iinc 2 (1), 0, 0, 1), (166, .goto (-115), 51, 0, 0), (169, .goto (-126), 43, 0, 0), (172, .return_, 0, 0, 0)]
def gk116 : List (Nat × gI) := gk116_0 ++ gk116_1 ++ gk116_2
def gk117_0 : List (Nat × gI) := [(0, .aload_n 0, 0, 0, 0), (1, .invokevirtual 193, 116, 0, 0), (4, .aload_n 0, 0, 0, 0), (5, .getfield 22, 4, 11, 0), (8, .iconst 0, 0, 0, 0), (9, .iaload, 0, 0, 0), (10, .istore_n 2, 0, 0, 0), (11, .aload_n 0, 0, 0, 0), (12, .getfield 47, 4, 22, 0), (15, .iload_n 2, 0, 0, 0), (16, .iaload, 0, 0, 0), (17, .ldc 189, 0, 0, 99999), (19, .if_icmp .lt (6), 25, 0, 0), (22, .bipush (-9), 0, 0, (-9)), (24, .ireturn, 0, 0, 0), (25, .aload_n 0, 0, 0, 0), (26, .getfield 47, 4, 22, 0), (29, .iload_n 2, 0, 0, 0), (30, .iaload, 0, 0, 0), (31, .istore_n 3, 0, 0, 0), (32, .iconst 0, 0, 0, 0), (33, .istore 4, 0, 0, 0), (35, .iload 4, 0, 0, 0), (37, .iload_n 1, 0, 0, 0), (38, .if_icmp .gt (82), 120, 0, 0), (41, .aload_n 0, 0, 0, 0), (42, .getfield 47, 4, 22, 0), (45, .iload_n 2, 0, 0, 0), (46, .iaload, 0, 0, 0), (47, .ifCond .ne (6), 53, 0, 0), (50, .bipush (-9), 0, 0, (-9)), (52, .ireturn, 0, 0, 0), (53, .iconst 0, 0, 0, 0), (54, .istore 5, 0, 0, 0), (56, .aload_n 0, 0, 0, 0), (57, .getfield 53, 4, 24, 0), (60, .bipush (8), 0, 0, 8), (62, .iload_n 2, 0, 0, 0), (63, .imul, 0, 0, 0), (64, .iload 5, 0, 0, 0)]
def gk117_1 : List (Nat × gI) := [(66, .iadd, 0, 0, 0), (67, .baload, 0, 0, 0), (68, .ifCond .eq (30), 98, 0, 0), (71, .aload_n 0, 0, 0, 0), (72, .getfield 47, 4, 22, 0), (75, .iload_n 2, 0, 0, 0), (76, .iconst 1, 0, 0, 1), (77, .iload 5, 0, 0, 0), (79, .ishl, 0, 0, 0), (80, .ixor, 0, 0, 0), (81, .iaload, 0, 0, 0), (82, .aload_n 0, 0, 0, 0), (83, .iload 5, 0, 0, 0), (85, .invokevirtual 190, 91, 1, 0), (88, .iadd, 0, 0, 0), (89, .aload_n 0, 0, 0, 0), (90, .getfield 47, 4, 22, 0), (93, .iload_n 2, 0, 0, 0), (94, .iaload, 0, 0, 0), (95, .if_icmp .eq (9), 104, 0, 0), (98, .iinc 5 (1), 0, 0, 1), (101, .goto (-45), 56, 0, 0), (104, .iload_n 2, 0, 0, 0), (105, .iconst 1, 0, 0, 1), (106, .iload 5, 0, 0, 0), (108, .ishl, 0, 0, 0), (109, .ixor, 0, 0, 0), (110, .istore_n 2, 0, 0, 0), (111, .iload 5, 0, 0, 0), (113, .istore_n 3, 0, 0, 0), (114, .iinc 4 (1), 0, 0, 1), (117, .goto (-82), 35, 0, 0), (120, .iload_n 3, 0, 0, 0), (121, .ireturn, 0, 0, 0)]
def gk117 : List (Nat × gI) := gk117_0 ++ gk117_1
def gk118_0 : List (Nat × gI) := [(0, .aload_n 0, 0, 0, 0), (1, .iconst 0, 0, 0, 0), (2, .putfield 62, 4, 0, 0), (5, .iload_n 1, 0, 0, 0), (6, .iconst 0, 0, 0, 0), (7, .aload_n 0, 0, 0, 0), (8, .invokevirtual 183, 89, 0, 0), (11, .iconst 1, 0, 0, 1), (12, .isub, 0, 0, 0), (13, .invokestatic 66, 10, 3, 0), (16, .ifCond .eq (20), 36, 0, 0), (19, .iload_n 2, 0, 0, 0), (20, .ifCond .lt (16), 36, 0, 0), (23, .iload_n 2, 0, 0, 0), (24, .iload_n 1, 0, 0, 0), (25, .iconst (-1), 0, 0, (-1)), (26, .ixor, 0, 0, 0), (27, .iand, 0, 0, 0), (28, .ifCond .ne (8), 36, 0, 0), (31, .iload_n 3, 0, 0, 0), (32, .iconst (-1), 0, 0, (-1)), (33, .if_icmp .ge (5), 38, 0, 0), (36, .iconst (-1), 0, 0, (-1)), (37, .ireturn, 0, 0, 0), (38, .iconst 0, 0, 0, 0), (39, .istore 4, 0, 0, 0), (41, .iload 4, 0, 0, 0), (43, .aload_n 0, 0, 0, 0), (44, .invokevirtual 183, 89, 0, 0), (47, .if_icmp .ge (29), 76, 0, 0), (50, .aload_n 0, 0, 0, 0), (51, .getfield 50, 4, 23, 0), (54, .iload 4, 0, 0, 0), (56, .iload 4, 0, 0, 0), (58, .iload_n 1, 0, 0, 0), (59, .iand, 0, 0, 0), (60, .iload_n 2, 0, 0, 0), (61, .if_icmp .ne (7), 68, 0, 0), (64, .iconst 1, 0, 0, 1), (65, .goto (4), 69, 0, 0)]
def gk118_1 : List (Nat × gI) := [(68, .iconst 0, 0, 0, 0), (69, .bastore, 0, 0, 0), (70, .iinc 4 (1), 0, 0, 1), (73, .goto (-32), 41, 0, 0), (76, .aload_n 0, 0, 0, 0), (77, .iload_n 3, 0, 0, 0), (78, .invokevirtual 196, 117, 1, 0), (81, .ireturn, 0, 0, 0)]
def gk118 : List (Nat × gI) := gk118_0 ++ gk118_1
def gk119_0 : List (Nat × gI) := [(0, .aload_n 0, 0, 0, 0), (1, .iload_n 1, 0, 0, 0), (2, .invokevirtual 115, 74, 1, 0), (5, .ifCond .eq (8), 13, 0, 0), (8, .iload_n 2, 0, 0, 0), (9, .iconst (-1), 0, 0, (-1)), (10, .if_icmp .ge (5), 15, 0, 0), (13, .iconst (-1), 0, 0, (-1)), (14, .ireturn, 0, 0, 0), (15, .aload_n 0, 0, 0, 0), (16, .iconst 0, 0, 0, 0), (17, .iconst 0, 0, 0, 0), (18, .iconst 1, 0, 0, 1), (19, .iload_n 1, 0, 0, 0), (20, .ishl, 0, 0, 0), (21, .iconst 0, 0, 0, 0), (22, .invokevirtual 169, 83, 4, 0), (25, .aload_n 0, 0, 0, 0), (26, .iload_n 2, 0, 0, 0), (27, .invokevirtual 173, 114, 1, 0), (30, .ireturn, 0, 0, 0)]
def gk119 : List (Nat × gI) := gk119_0
def gk120_0 : List (Nat × gI) := [(0, .aload_n 0, 0, 0, 0), (1, .iconst 0, 0, 0, 0), (2, .putfield 62, 4, 0, 0), (5, .aload_n 0, 0, 0, 0), (6, .iload_n 1, 0, 0, 0), (7, .invokevirtual 167, 77, 1, 0), (10, .ifCond .eq (8), 18, 0, 0), (13, .iload_n 2, 0, 0, 0), (14, .iconst (-1), 0, 0, (-1)), (15, .if_icmp .ge (5), 20, 0, 0), (18, .iconst (-1), 0, 0, (-1)), (19, .ireturn, 0, 0, 0), (20, .iconst 0, 0, 0, 0), (21, .istore_n 3, 0, 0, 0), (22, .iload_n 3, 0, 0, 0), (23, .aload_n 0, 0, 0, 0), (24, .invokevirtual 183, 89, 0, 0), (27, .if_icmp .ge (52), 79, 0, 0), (30, .aload_n 0, 0, 0, 0), (31, .getfield 50, 4, 23, 0), (34, .iload_n 3, 0, 0, 0), (35, .aload_n 0, 0, 0, 0), (36, .aload_n 0, 0, 0, 0), (37, .getfield 13, 4, 8, 0), (40, .iload_n 3, 0, 0, 0), (41, .invokevirtual 135, 61, 2, 0), (44, .iload_n 1, 0, 0, 0), (45, .invokestatic 111, 53, 2, 0), (48, .ifCond .ne (23), 71, 0, 0), (51, .aload_n 0, 0, 0, 0), (52, .aload_n 0, 0, 0, 0), (53, .getfield 13, 4, 8, 0), (56, .iload_n 3, 0, 0, 0), (57, .invokevirtual 138, 62, 2, 0), (60, .iload_n 1, 0, 0, 0), (61, .invokestatic 111, 53, 2, 0), (64, .ifCond .eq (7), 71, 0, 0), (67, .iconst 1, 0, 0, 1), (68, .goto (4), 72, 0, 0), (71, .iconst 0, 0, 0, 0)]
def gk120_1 : List (Nat × gI) := [(72, .bastore, 0, 0, 0), (73, .iinc 3 (1), 0, 0, 1), (76, .goto (-54), 22, 0, 0), (79, .aload_n 0, 0, 0, 0), (80, .iload_n 2, 0, 0, 0), (81, .invokevirtual 196, 117, 1, 0), (84, .ireturn, 0, 0, 0)]
def gk120 : List (Nat × gI) := gk120_0 ++ gk120_1
def gk121_0 : List (Nat × gI) := [(0, .iload_n 1, 0, 0, 0), (1, .iconst (-1), 0, 0, (-1)), (2, .if_icmp .ge (5), 7, 0, 0), (5, .iconst (-1), 0, 0, (-1)), (6, .ireturn, 0, 0, 0), (7, .aload_n 0, 0, 0, 0), (8, .iconst 0, 0, 0, 0), (9, .iconst 0, 0, 0, 0), (10, .iconst 0, 0, 0, 0), (11, .aload_n 0, 0, 0, 0), (12, .getfield 26, 3, 2, 0), (15, .getfield 130, 1, 2, 0), (18, .invokevirtual 169, 83, 4, 0), (21, .aload_n 0, 0, 0, 0), (22, .iload_n 1, 0, 0, 0), (23, .invokevirtual 173, 114, 1, 0), (26, .ireturn, 0, 0, 0)]
def gk121 : List (Nat × gI) := gk121_0
def gk122_0 : List (Nat × gI) := [(0, .aload_n 0, 0, 0, 0), (1, .iconst 0, 0, 0, 0), (2, .putfield 62, 4, 0, 0), (5, .iload_n 1, 0, 0, 0), (6, .iconst (-1), 0, 0, (-1)), (7, .if_icmp .ge (5), 12, 0, 0), (10, .iconst (-1), 0, 0, (-1)), (11, .ireturn, 0, 0, 0), (12, .iconst 0, 0, 0, 0), (13, .istore_n 2, 0, 0, 0), (14, .iload_n 2, 0, 0, 0), (15, .aload_n 0, 0, 0, 0), (16, .invokevirtual 183, 89, 0, 0), (19, .if_icmp .ge (41), 60, 0, 0), (22, .aload_n 0, 0, 0, 0), (23, .getfield 50, 4, 23, 0), (26, .iload_n 2, 0, 0, 0), (27, .aload_n 0, 0, 0, 0), (28, .getfield 13, 4, 8, 0), (31, .iconst 2, 0, 0, 2), (32, .iaload, 0, 0, 0), (33, .aload_n 0, 0, 0, 0), (34, .aload_n 0, 0, 0, 0), (35, .getfield 13, 4, 8, 0), (38, .iload_n 2, 0, 0, 0), (39, .invokevirtual 135, 61, 2, 0), (42, .iconst (-1), 0, 0, (-1)), (43, .ixor, 0, 0, 0), (44, .iand, 0, 0, 0), (45, .ifCond .ne (7), 52, 0, 0), (48, .iconst 1, 0, 0, 1), (49, .goto (4), 53, 0, 0), (52, .iconst 0, 0, 0, 0), (53, .bastore, 0, 0, 0), (54, .iinc 2 (1), 0, 0, 1), (57, .goto (-43), 14, 0, 0), (60, .aload_n 0, 0, 0, 0), (61, .iload_n 1, 0, 0, 0), (62, .invokevirtual 196, 117, 1, 0), (65, .ireturn, 0, 0, 0)]
def gk122 : List (Nat × gI) := gk122_0
def gk123_0 : List (Nat × gI) := [(0, .iconst 0, 0, 0, 0), (1, .istore_n 2, 0, 0, 0), (2, .iconst 0, 0, 0, 0), (3, .istore_n 3, 0, 0, 0), (4, .iload_n 3, 0, 0, 0), (5, .aload_n 0, 0, 0, 0), (6, .getfield 51, 1, 3, 0), (9, .if_icmp .ge (25), 34, 0, 0), (12, .aload_n 0, 0, 0, 0), (13, .getfield 15, 1, 6, 0), (16, .iload_n 3, 0, 0, 0), (17, .iaload, 0, 0, 0), (18, .iload_n 1, 0, 0, 0), (19, .if_icmp .ne (9), 28, 0, 0), (22, .iload_n 2, 0, 0, 0), (23, .iconst 1, 0, 0, 1), (24, .iload_n 3, 0, 0, 0), (25, .ishl, 0, 0, 0), (26, .ior, 0, 0, 0), (27, .istore_n 2, 0, 0, 0), (28, .iinc 3 (1), 0, 0, 1), (31, .goto (-27), 4, 0, 0), (34, .iload_n 2, 0, 0, 0), (35, .ireturn, 0, 0, 0)]
def gk123 : List (Nat × gI) := gk123_0
def gk124_0 : List (Nat × gI) := [(0, .iconst 1, 0, 0, 1), (1, .istore_n 2, 0, 0, 0), (2, .iconst 0, 0, 0, 0), (3, .istore_n 3, 0, 0, 0), (4, .iload_n 3, 0, 0, 0), (5, .iload_n 1, 0, 0, 0), (6, .if_icmp .ge (13), 19, 0, 0), (9, .iload_n 2, 0, 0, 0), (10, .iload_n 0, 0, 0, 0), (11, .imul, 0, 0, 0), (12, .istore_n 2, 0, 0, 0), (13, .iinc 3 (1), 0, 0, 1), (16, .goto (-12), 4, 0, 0), (19, .iload_n 2, 0, 0, 0), (20, .ireturn, 0, 0, 0)]
def gk124 : List (Nat × gI) := gk124_0
def gk125_0 : List (Nat × gI) := [(0, .aload_n 0, 0, 0, 0), (1, .getfield 26, 3, 2, 0), (4, .getfield 118, 1, 10, 0), (7, .aload_n 0, 0, 0, 0), (8, .getfield 95, 3, 4, 0), (11, .iaload, 0, 0, 0), (12, .aload_n 0, 0, 0, 0), (13, .getfield 26, 3, 2, 0), (16, .getfield 130, 1, 2, 0), (19, .iand, 0, 0, 0), (20, .istore_n 3, 0, 0, 0), (21, .iconst 0, 0, 0, 0), (22, .istore 4, 0, 0, 0), (24, .iconst 0, 0, 0, 0), (25, .istore 5, 0, 0, 0), (27, .iload 5, 0, 0, 0), (29, .iload_n 1, 0, 0, 0), (30, .if_icmp .gt (72), 102, 0, 0), (33, .iload 5, 0, 0, 0), (35, .iload_n 1, 0, 0, 0), (36, .iconst (-1), 0, 0, (-1)), (37, .ixor, 0, 0, 0), (38, .iand, 0, 0, 0), (39, .ifCond .ne (57), 96, 0, 0), (42, .aload_n 0, 0, 0, 0), (43, .getfield 26, 3, 2, 0), (46, .getfield 118, 1, 10, 0), (49, .aload_n 0, 0, 0, 0), (50, .getfield 95, 3, 4, 0), (53, .iload 5, 0, 0, 0), (55, .iconst (-1), 0, 0, (-1)), (56, .ixor, 0, 0, 0), (57, .iand, 0, 0, 0), (58, .iaload, 0, 0, 0), (59, .iload_n 3, 0, 0, 0), (60, .iand, 0, 0, 0), (61, .iload_n 3, 0, 0, 0), (62, .if_icmp .ne (34), 96, 0, 0), (65, .iload 4, 0, 0, 0), (67, .iload_n 2, 0, 0, 0)]
def gk125_1 : List (Nat × gI) := [(68, .iload 5, 0, 0, 0), (70, .invokestatic 179, 26, 1, 0), (73, .invokestatic 184, 124, 2, 0), (76, .bipush (10), 0, 0, 10), (78, .iload_n 2, 0, 0, 0), (79, .isub, 0, 0, 0), (80, .iload_n 1, 0, 0, 0), (81, .iload 5, 0, 0, 0), (83, .iconst (-1), 0, 0, (-1)), (84, .ixor, 0, 0, 0), (85, .iand, 0, 0, 0), (86, .invokestatic 179, 26, 1, 0), (89, .invokestatic 184, 124, 2, 0), (92, .imul, 0, 0, 0), (93, .iadd, 0, 0, 0), (94, .istore 4, 0, 0, 0), (96, .iinc 5 (1), 0, 0, 1), (99, .goto (-72), 27, 0, 0), (102, .iload 4, 0, 0, 0), (104, .ireturn, 0, 0, 0)]
def gk125 : List (Nat × gI) := gk125_0 ++ gk125_1
def gk126_0 : List (Nat × gI) := [(0, .iload_n 0, 0, 0, 0), (1, .istore_n 2, 0, 0, 0), (2, .iload_n 1, 0, 0, 0), (3, .istore_n 3, 0, 0, 0), (4, .iconst 0, 0, 0, 0), (5, .istore 4, 0, 0, 0), (7, .iload 4, 0, 0, 0), (9, .bipush (100), 0, 0, 100), (11, .if_icmp .ge (23), 34, 0, 0), (14, .iload_n 3, 0, 0, 0), (15, .ifCond .eq (19), 34, 0, 0), (18, .iload_n 2, 0, 0, 0), (19, .iload_n 3, 0, 0, 0), (20, .irem, 0, 0, 0), (21, .istore 5, 0, 0, 0), (23, .iload_n 3, 0, 0, 0), (24, .istore_n 2, 0, 0, 0), (25, .iload 5, 0, 0, 0), (27, .istore_n 3, 0, 0, 0), (28, .iinc 4 (1), 0, 0, 1), (31, .goto (-24), 7, 0, 0), (34, .iload_n 2, 0, 0, 0), (35, .ireturn, 0, 0, 0)]
def gk126 : List (Nat × gI) := gk126_0
def gk127_0 : List (Nat × gI) := [(0, .iload_n 1, 0, 0, 0), (1, .ifCond .lt (18), 19, 0, 0), (4, .iload_n 1, 0, 0, 0), (5, .bipush (10), 0, 0, 10), (7, .if_icmp .gt (12), 19, 0, 0), (10, .iload_n 2, 0, 0, 0), (11, .ifCond .lt (8), 19, 0, 0), (14, .iload_n 2, 0, 0, 0), (15, .iconst 1, 0, 0, 1), (16, .if_icmp .le (5), 21, 0, 0), (19, .iconst (-1), 0, 0, (-1)), (20, .ireturn, 0, 0, 0), (21, .aload_n 0, 0, 0, 0), (22, .getfield 95, 3, 4, 0), (25, .aload_n 0, 0, 0, 0), (26, .getfield 26, 3, 2, 0), (29, .iconst 0, 0, 0, 0), (30, .invokevirtual 176, 123, 1, 0), (33, .iand, 0, 0, 0), (34, .istore_n 3, 0, 0, 0), (35, .bipush (10), 0, 0, 10), (37, .iload_n 3, 0, 0, 0), (38, .invokestatic 179, 26, 1, 0), (41, .invokestatic 184, 124, 2, 0), (44, .istore 4, 0, 0, 0), (46, .aload_n 0, 0, 0, 0), (47, .iload_n 3, 0, 0, 0), (48, .iload_n 1, 0, 0, 0), (49, .invokevirtual 187, 125, 2, 0), (52, .istore 5, 0, 0, 0), (54, .iload 4, 0, 0, 0), (56, .iload 5, 0, 0, 0), (58, .invokestatic 190, 126, 2, 0), (61, .istore 6, 0, 0, 0), (63, .iload 6, 0, 0, 0), (65, .ifCond .ne (5), 70, 0, 0), (68, .iconst (-1), 0, 0, (-1)), (69, .ireturn, 0, 0, 0), (70, .iload_n 2, 0, 0, 0), (71, .ifCond .ne (8), 79, 0, 0)]
def gk127_1 : List (Nat × gI) := [(74, .iload 5, 0, 0, 0), (76, .goto (5), 81, 0, 0), (79, .iload 4, 0, 0, 0), (81, .iload 6, 0, 0, 0), (83, .idiv, 0, 0, 0), (84, .ireturn, 0, 0, 0)]
def gk127 : List (Nat × gI) := gk127_0 ++ gk127_1
def gk128_0 : List (Nat × gI) := [(0, .iload_n 0, 0, 0, 0), (1, .istore_n 2, 0, 0, 0), (2, .iload_n 1, 0, 0, 0), (3, .istore_n 3, 0, 0, 0), (4, .iload_n 3, 0, 0, 0), (5, .ifCond .eq (16), 21, 0, 0), (8, .iload_n 2, 0, 0, 0), (9, .iload_n 3, 0, 0, 0), (10, .irem, 0, 0, 0), (11, .istore 4, 0, 0, 0), (13, .iload_n 3, 0, 0, 0), (14, .istore_n 2, 0, 0, 0), (15, .iload 4, 0, 0, 0), (17, .istore_n 3, 0, 0, 0), (18, .goto (-14), 4, 0, 0), (21, .iload_n 2, 0, 0, 0), (22, .ireturn, 0, 0, 0)]
def gk128 : List (Nat × gI) := gk128_0
def gk129_0 : List (Nat × gI) := [(0, .aload_n 0, 0, 0, 0), (1, .iconst 0, 0, 0, 0), (2, .putfield 62, 4, 0, 0), (5, .iload_n 1, 0, 0, 0), (6, .iconst 0, 0, 0, 0), (7, .bipush (10), 0, 0, 10), (9, .invokestatic 66, 10, 3, 0), (12, .ifCond .eq (12), 24, 0, 0), (15, .iload_n 2, 0, 0, 0), (16, .iconst 0, 0, 0, 0), (17, .iconst 1, 0, 0, 1), (18, .invokestatic 66, 10, 3, 0), (21, .ifCond .ne (5), 26, 0, 0), (24, .iconst (-1), 0, 0, (-1)), (25, .ireturn, 0, 0, 0), (26, .iconst 0, 0, 0, 0), (27, .istore_n 3, 0, 0, 0), (28, .iconst 1, 0, 0, 1), (29, .istore 4, 0, 0, 0), (31, .iconst 0, 0, 0, 0), (32, .istore 5, 0, 0, 0), (34, .iload 5, 0, 0, 0), (36, .aload_n 0, 0, 0, 0), (37, .getfield 13, 4, 8, 0), (40, .iconst 3, 0, 0, 3), (41, .iaload, 0, 0, 0), (42, .if_icmp .ge (49), 91, 0, 0), (45, .aload_n 0, 0, 0, 0), (46, .getfield 22, 4, 11, 0), (49, .iconst 0, 0, 0, 0), (50, .iaload, 0, 0, 0), (51, .iload 5, 0, 0, 0), (53, .invokestatic 111, 53, 2, 0), (56, .ifCond .eq (29), 85, 0, 0), (59, .aload_n 0, 0, 0, 0), (60, .getfield 13, 4, 8, 0), (63, .iconst 4, 0, 0, 4), (64, .iload 5, 0, 0, 0), (66, .iadd, 0, 0, 0), (67, .iaload, 0, 0, 0)]
def gk129_1 : List (Nat × gI) := [(68, .ifCond .ne (17), 85, 0, 0), (71, .iload_n 3, 0, 0, 0), (72, .iconst 1, 0, 0, 1), (73, .iload 5, 0, 0, 0), (75, .ishl, 0, 0, 0), (76, .ior, 0, 0, 0), (77, .istore_n 3, 0, 0, 0), (78, .iload 4, 0, 0, 0), (80, .bipush (10), 0, 0, 10), (82, .imul, 0, 0, 0), (83, .istore 4, 0, 0, 0), (85, .iinc 5 (1), 0, 0, 1), (88, .goto (-54), 34, 0, 0), (91, .aload_n 0, 0, 0, 0), (92, .aload_n 0, 0, 0, 0), (93, .getfield 13, 4, 8, 0), (96, .aload_n 0, 0, 0, 0), (97, .getfield 22, 4, 11, 0), (100, .iconst 0, 0, 0, 0), (101, .iaload, 0, 0, 0), (102, .invokevirtual 135, 61, 2, 0), (105, .aload_n 0, 0, 0, 0), (106, .getfield 13, 4, 8, 0), (109, .iconst 2, 0, 0, 2), (110, .iaload, 0, 0, 0), (111, .iand, 0, 0, 0), (112, .istore 5, 0, 0, 0), (114, .iconst 0, 0, 0, 0), (115, .istore 6, 0, 0, 0), (117, .iconst 0, 0, 0, 0), (118, .istore 7, 0, 0, 0), (120, .iload 7, 0, 0, 0), (122, .aload_n 0, 0, 0, 0), (123, .invokevirtual 183, 89, 0, 0), (126, .if_icmp .ge (111), 237, 0, 0), (129, .iload 7, 0, 0, 0), (131, .iload_n 3, 0, 0, 0), (132, .iconst (-1), 0, 0, (-1)), (133, .ixor, 0, 0, 0), (134, .iand, 0, 0, 0)]
def gk129_2 : List (Nat × gI) := [(135, .ifCond .ne (96), 231, 0, 0), (138, .iload 5, 0, 0, 0), (140, .aload_n 0, 0, 0, 0), (141, .aload_n 0, 0, 0, 0), (142, .getfield 13, 4, 8, 0), (145, .aload_n 0, 0, 0, 0), (146, .getfield 22, 4, 11, 0), (149, .iconst 0, 0, 0, 0), (150, .iaload, 0, 0, 0), (151, .iload 7, 0, 0, 0), (153, .iconst (-1), 0, 0, (-1)), (154, .ixor, 0, 0, 0), (155, .iand, 0, 0, 0), (156, .invokevirtual 135, 61, 2, 0), (159, .iconst (-1), 0, 0, (-1)), (160, .ixor, 0, 0, 0), (161, .iand, 0, 0, 0), (162, .ifCond .ne (69), 231, 0, 0), (165, .iconst 1, 0, 0, 1), (166, .istore 8, 0, 0, 0), (168, .iconst 0, 0, 0, 0), (169, .istore 9, 0, 0, 0), (171, .iload 9, 0, 0, 0), (173, .aload_n 0, 0, 0, 0), (174, .getfield 13, 4, 8, 0), (177, .iconst 3, 0, 0, 3), (178, .iaload, 0, 0, 0), (179, .if_icmp .ge (45), 224, 0, 0), (182, .iload 8, 0, 0, 0), (184, .iload_n 3, 0, 0, 0), (185, .iload 9, 0, 0, 0), (187, .invokestatic 111, 53, 2, 0), (190, .ifCond .ne (7), 197, 0, 0), (193, .iconst 1, 0, 0, 1), (194, .goto (21), 215, 0, 0), (197, .iload 7, 0, 0, 0), (199, .iload 9, 0, 0, 0), (201, .invokestatic 111, 53, 2, 0), (204, .ifCond .eq (7), 211, 0, 0), (207, .iload_n 1, 0, 0, 0)]
def gk129_3 : List (Nat × gI) := [(208, .goto (7), 215, 0, 0), (211, .bipush (10), 0, 0, 10), (213, .iload_n 1, 0, 0, 0), (214, .isub, 0, 0, 0), (215, .imul, 0, 0, 0), (216, .istore 8, 0, 0, 0), (218, .iinc 9 (1), 0, 0, 1), (221, .goto (-50), 171, 0, 0), (224, .iload 6, 0, 0, 0), (226, .iload 8, 0, 0, 0), (228, .iadd, 0, 0, 0), (229, .istore 6, 0, 0, 0), (231, .iinc 7 (1), 0, 0, 1), (234, .goto (-114), 120, 0, 0), (237, .iload 6, 0, 0, 0), (239, .iload 4, 0, 0, 0), (241, .invokestatic 199, 128, 2, 0), (244, .istore 7, 0, 0, 0), (246, .iload_n 2, 0, 0, 0), (247, .ifCond .ne (11), 258, 0, 0), (250, .iload 6, 0, 0, 0), (252, .iload 7, 0, 0, 0), (254, .idiv, 0, 0, 0), (255, .goto (8), 263, 0, 0), (258, .iload 4, 0, 0, 0), (260, .iload 7, 0, 0, 0), (262, .idiv, 0, 0, 0), (263, .ireturn, 0, 0, 0)]
def gk129 : List (Nat × gI) := gk129_0 ++ gk129_1 ++ gk129_2 ++ gk129_3
def gk130_0 : List (Nat × gI) := [(0, .aload_n 0, 0, 0, 0), (1, .iload_n 1, 0, 0, 0), (2, .invokevirtual 115, 74, 1, 0), (5, .ifCond .eq (12), 17, 0, 0), (8, .iload_n 2, 0, 0, 0), (9, .ifCond .lt (8), 17, 0, 0), (12, .iload_n 2, 0, 0, 0), (13, .iconst 1, 0, 0, 1), (14, .if_icmp .le (5), 19, 0, 0), (17, .iconst (-1), 0, 0, (-1)), (18, .ireturn, 0, 0, 0), (19, .aload_n 0, 0, 0, 0), (20, .getfield 193, 3, 14, 0), (23, .bipush (6), 0, 0, 6), (25, .if_icmp .lt (6), 31, 0, 0), (28, .bipush (-3), 0, 0, (-3)), (30, .ireturn, 0, 0, 0), (31, .aload_n 0, 0, 0, 0), (32, .getfield 46, 3, 13, 0), (35, .aload_n 0, 0, 0, 0), (36, .getfield 193, 3, 14, 0), (39, .iconst 2, 0, 0, 2), (40, .iload_n 1, 0, 0, 0), (41, .imul, 0, 0, 0), (42, .iload_n 2, 0, 0, 0), (43, .iadd, 0, 0, 0), (44, .iastore, 0, 0, 0), (45, .aload_n 0, 0, 0, 0), (46, .dup, 0, 0, 0), (47, .getfield 193, 3, 14, 0), (50, .iconst 1, 0, 0, 1), (51, .iadd, 0, 0, 0), (52, .putfield 193, 3, 14, 0), (55, .aload_n 0, 0, 0, 0), (56, .getfield 193, 3, 14, 0), (59, .ireturn, 0, 0, 0)]
def gk130 : List (Nat × gI) := gk130_0
def gk131_0 : List (Nat × gI) := [(0, .aload_n 0, 0, 0, 0), (1, .iconst 0, 0, 0, 0), (2, .putfield 62, 4, 0, 0), (5, .aload_n 0, 0, 0, 0), (6, .iload_n 1, 0, 0, 0), (7, .invokevirtual 167, 77, 1, 0), (10, .ifCond .eq (12), 22, 0, 0), (13, .iload_n 2, 0, 0, 0), (14, .iconst 0, 0, 0, 0), (15, .iconst 1, 0, 0, 1), (16, .invokestatic 66, 10, 3, 0), (19, .ifCond .ne (5), 24, 0, 0), (22, .iconst (-1), 0, 0, (-1)), (23, .ireturn, 0, 0, 0), (24, .aload_n 0, 0, 0, 0), (25, .getfield 144, 4, 20, 0), (28, .bipush (6), 0, 0, 6), (30, .if_icmp .ne (6), 36, 0, 0), (33, .bipush (-3), 0, 0, (-3)), (35, .ireturn, 0, 0, 0), (36, .aload_n 0, 0, 0, 0), (37, .getfield 38, 4, 18, 0), (40, .aload_n 0, 0, 0, 0), (41, .getfield 144, 4, 20, 0), (44, .iload_n 1, 0, 0, 0), (45, .iastore, 0, 0, 0), (46, .aload_n 0, 0, 0, 0), (47, .getfield 41, 4, 19, 0), (50, .aload_n 0, 0, 0, 0), (51, .getfield 144, 4, 20, 0), (54, .iload_n 2, 0, 0, 0), (55, .iastore, 0, 0, 0), (56, .aload_n 0, 0, 0, 0), (57, .dup, 0, 0, 0), (58, .getfield 144, 4, 20, 0), (61, .iconst 1, 0, 0, 1), (62, .iadd, 0, 0, 0), (63, .putfield 144, 4, 20, 0), (66, .aload_n 0, 0, 0, 0), (67, .getfield 144, 4, 20, 0)]
def gk131_1 : List (Nat × gI) := [(70, .ireturn, 0, 0, 0)]
def gk131 : List (Nat × gI) := gk131_0 ++ gk131_1
def gk132_0 : List (Nat × gI) := [(0, .aload_n 0, 0, 0, 0), (1, .getfield 193, 3, 14, 0), (4, .istore_n 1, 0, 0, 0), (5, .aload_n 0, 0, 0, 0), (6, .iconst 0, 0, 0, 0), (7, .putfield 193, 3, 14, 0), (10, .iload_n 1, 0, 0, 0), (11, .ireturn, 0, 0, 0)]
def gk132 : List (Nat × gI) := gk132_0
def gk133_0 : List (Nat × gI) := [(0, .aload_n 0, 0, 0, 0), (1, .iconst 0, 0, 0, 0), (2, .putfield 62, 4, 0, 0), (5, .aload_n 0, 0, 0, 0), (6, .getfield 144, 4, 20, 0), (9, .istore_n 1, 0, 0, 0), (10, .aload_n 0, 0, 0, 0), (11, .iconst 0, 0, 0, 0), (12, .putfield 144, 4, 20, 0), (15, .iload_n 1, 0, 0, 0), (16, .ireturn, 0, 0, 0)]
def gk133 : List (Nat × gI) := gk133_0
def gk134_0 : List (Nat × gI) := [(0, .aload_n 0, 0, 0, 0), (1, .getfield 26, 3, 2, 0), (4, .getfield 118, 1, 10, 0), (7, .aload_n 0, 0, 0, 0), (8, .getfield 95, 3, 4, 0), (11, .iconst 1, 0, 0, 1), (12, .iload_n 1, 0, 0, 0), (13, .ishl, 0, 0, 0), (14, .ixor, 0, 0, 0), (15, .iaload, 0, 0, 0), (16, .istore_n 2, 0, 0, 0), (17, .iconst 0, 0, 0, 0), (18, .istore_n 3, 0, 0, 0), (19, .iload_n 3, 0, 0, 0), (20, .aload_n 0, 0, 0, 0), (21, .getfield 193, 3, 14, 0), (24, .if_icmp .ge (34), 58, 0, 0), (27, .iload_n 2, 0, 0, 0), (28, .aload_n 0, 0, 0, 0), (29, .getfield 46, 3, 13, 0), (32, .iload_n 3, 0, 0, 0), (33, .iaload, 0, 0, 0), (34, .iconst 2, 0, 0, 2), (35, .idiv, 0, 0, 0), (36, .invokestatic 98, 19, 2, 0), (39, .aload_n 0, 0, 0, 0), (40, .getfield 46, 3, 13, 0), (43, .iload_n 3, 0, 0, 0), (44, .iaload, 0, 0, 0), (45, .iconst 2, 0, 0, 2), (46, .irem, 0, 0, 0), (47, .if_icmp .eq (5), 52, 0, 0), (50, .iconst 0, 0, 0, 0), (51, .ireturn, 0, 0, 0), (52, .iinc 3 (1), 0, 0, 1), (55, .goto (-36), 19, 0, 0), (58, .iconst 1, 0, 0, 1), (59, .ireturn, 0, 0, 0)]
def gk134 : List (Nat × gI) := gk134_0
def gk135_0 : List (Nat × gI) := [(0, .iconst 0, 0, 0, 0), (1, .istore_n 1, 0, 0, 0), (2, .iconst 0, 0, 0, 0), (3, .istore_n 2, 0, 0, 0), (4, .iload_n 2, 0, 0, 0), (5, .aload_n 0, 0, 0, 0), (6, .getfield 26, 3, 2, 0), (9, .getfield 112, 1, 3, 0), (12, .if_icmp .ge (23), 35, 0, 0), (15, .aload_n 0, 0, 0, 0), (16, .iload_n 2, 0, 0, 0), (17, .invokevirtual 196, 134, 1, 0), (20, .ifCond .eq (9), 29, 0, 0), (23, .iload_n 1, 0, 0, 0), (24, .iconst 1, 0, 0, 1), (25, .iload_n 2, 0, 0, 0), (26, .ishl, 0, 0, 0), (27, .ior, 0, 0, 0), (28, .istore_n 1, 0, 0, 0), (29, .iinc 2 (1), 0, 0, 1), (32, .goto (-28), 4, 0, 0), (35, .iload_n 1, 0, 0, 0), (36, .ireturn, 0, 0, 0)]
def gk135 : List (Nat × gI) := gk135_0
def gk136_0 : List (Nat × gI) := [(0, .iconst 0, 0, 0, 0), (1, .istore_n 1, 0, 0, 0), (2, .iconst 0, 0, 0, 0), (3, .istore_n 2, 0, 0, 0), (4, .iload_n 2, 0, 0, 0), (5, .aload_n 0, 0, 0, 0), (6, .getfield 13, 4, 8, 0), (9, .iconst 3, 0, 0, 3), (10, .iaload, 0, 0, 0), (11, .if_icmp .ge (97), 108, 0, 0), (14, .aload_n 0, 0, 0, 0), (15, .aload_n 0, 0, 0, 0), (16, .getfield 13, 4, 8, 0), (19, .aload_n 0, 0, 0, 0), (20, .getfield 22, 4, 11, 0), (23, .iconst 0, 0, 0, 0), (24, .iaload, 0, 0, 0), (25, .iconst 1, 0, 0, 1), (26, .iload_n 2, 0, 0, 0), (27, .ishl, 0, 0, 0), (28, .ixor, 0, 0, 0), (29, .invokevirtual 135, 61, 2, 0), (32, .istore_n 3, 0, 0, 0), (33, .iconst 1, 0, 0, 1), (34, .istore 4, 0, 0, 0), (36, .iconst 0, 0, 0, 0), (37, .istore 5, 0, 0, 0), (39, .iload 5, 0, 0, 0), (41, .aload_n 0, 0, 0, 0), (42, .getfield 144, 4, 20, 0), (45, .if_icmp .ge (42), 87, 0, 0), (48, .iload 4, 0, 0, 0), (50, .ifCond .eq (28), 78, 0, 0), (53, .iload_n 3, 0, 0, 0), (54, .aload_n 0, 0, 0, 0), (55, .getfield 38, 4, 18, 0), (58, .iload 5, 0, 0, 0), (60, .iaload, 0, 0, 0), (61, .ishr, 0, 0, 0), (62, .iconst 1, 0, 0, 1)]
def gk136_1 : List (Nat × gI) := [(63, .iand, 0, 0, 0), (64, .aload_n 0, 0, 0, 0), (65, .getfield 41, 4, 19, 0), (68, .iload 5, 0, 0, 0), (70, .iaload, 0, 0, 0), (71, .if_icmp .ne (7), 78, 0, 0), (74, .iconst 1, 0, 0, 1), (75, .goto (4), 79, 0, 0), (78, .iconst 0, 0, 0, 0), (79, .istore 4, 0, 0, 0), (81, .iinc 5 (1), 0, 0, 1), (84, .goto (-45), 39, 0, 0), (87, .iload_n 1, 0, 0, 0), (88, .iload 4, 0, 0, 0), (90, .ifCond .eq (9), 99, 0, 0), (93, .iconst 1, 0, 0, 1), (94, .iload_n 2, 0, 0, 0), (95, .ishl, 0, 0, 0), (96, .goto (4), 100, 0, 0), (99, .iconst 0, 0, 0, 0), (100, .ior, 0, 0, 0), (101, .istore_n 1, 0, 0, 0), (102, .iinc 2 (1), 0, 0, 1), (105, .goto (-101), 4, 0, 0), (108, .iload_n 1, 0, 0, 0), (109, .ireturn, 0, 0, 0)]
def gk136 : List (Nat × gI) := gk136_0 ++ gk136_1
def gk137_0 : List (Nat × gI) := [(0, .aload_n 0, 0, 0, 0), (1, .iconst 0, 0, 0, 0), (2, .putfield 62, 4, 0, 0), (5, .aload_n 0, 0, 0, 0), (6, .invokevirtual 202, 136, 0, 0), (9, .ireturn, 0, 0, 0)]
def gk137 : List (Nat × gI) := gk137_0
def gk138_0 : List (Nat × gI) := [(0, .iconst 0, 0, 0, 0), (1, .istore_n 3, 0, 0, 0), (2, .iconst 0, 0, 0, 0), (3, .istore 4, 0, 0, 0), (5, .iload 4, 0, 0, 0), (7, .aload_n 0, 0, 0, 0), (8, .getfield 26, 3, 2, 0), (11, .getfield 112, 1, 3, 0), (14, .if_icmp .ge (43), 57, 0, 0), (17, .iload_n 2, 0, 0, 0), (18, .iload 4, 0, 0, 0), (20, .invokestatic 98, 19, 2, 0), (23, .iconst 1, 0, 0, 1), (24, .if_icmp .ne (27), 51, 0, 0), (27, .iload_n 3, 0, 0, 0), (28, .aload_n 0, 0, 0, 0), (29, .getfield 26, 3, 2, 0), (32, .getfield 118, 1, 10, 0), (35, .aload_n 0, 0, 0, 0), (36, .getfield 95, 3, 4, 0), (39, .iconst 1, 0, 0, 1), (40, .iload 4, 0, 0, 0), (42, .ishl, 0, 0, 0), (43, .ixor, 0, 0, 0), (44, .iaload, 0, 0, 0), (45, .iload_n 1, 0, 0, 0), (46, .invokestatic 98, 19, 2, 0), (49, .iadd, 0, 0, 0), (50, .istore_n 3, 0, 0, 0), (51, .iinc 4 (1), 0, 0, 1), (54, .goto (-49), 5, 0, 0), (57, .iload_n 3, 0, 0, 0), (58, .ireturn, 0, 0, 0)]
def gk138 : List (Nat × gI) := gk138_0
def gk139_0 : List (Nat × gI) := [(0, .aload_n 0, 0, 0, 0), (1, .invokevirtual 199, 135, 0, 0), (4, .istore_n 1, 0, 0, 0), (5, .iload_n 1, 0, 0, 0), (6, .invokestatic 179, 26, 1, 0), (9, .istore_n 2, 0, 0, 0), (10, .iload_n 2, 0, 0, 0), (11, .iconst 1, 0, 0, 1), (12, .if_icmp .gt (6), 18, 0, 0), (15, .bipush (-9), 0, 0, (-9)), (17, .ireturn, 0, 0, 0), (18, .bipush (-9), 0, 0, (-9)), (20, .istore_n 3, 0, 0, 0), (21, .iload_n 2, 0, 0, 0), (22, .iconst 1, 0, 0, 1), (23, .iadd, 0, 0, 0), (24, .istore 4, 0, 0, 0), (26, .iconst 0, 0, 0, 0), (27, .istore 5, 0, 0, 0), (29, .iload 5, 0, 0, 0), (31, .aload_n 0, 0, 0, 0), (32, .getfield 26, 3, 2, 0), (35, .getfield 202, 1, 0, 0), (38, .if_icmp .ge (43), 81, 0, 0), (41, .aload_n 0, 0, 0, 0), (42, .iload 5, 0, 0, 0), (44, .iload_n 1, 0, 0, 0), (45, .invokevirtual 205, 138, 2, 0), (48, .istore 6, 0, 0, 0), (50, .iload 6, 0, 0, 0), (52, .iload_n 2, 0, 0, 0), (53, .iload 6, 0, 0, 0), (55, .isub, 0, 0, 0), (56, .invokestatic 208, 998, 2, 0), (59, .istore 7, 0, 0, 0), (61, .iload 7, 0, 0, 0), (63, .iload 4, 0, 0, 0), (65, .if_icmp .ge (10), 75, 0, 0), (68, .iload 7, 0, 0, 0), (70, .istore 4, 0, 0, 0)]
def gk139_1 : List (Nat × gI) := [(72, .iload 5, 0, 0, 0), (74, .istore_n 3, 0, 0, 0), (75, .iinc 5 (1), 0, 0, 1), (78, .goto (-49), 29, 0, 0), (81, .iload_n 3, 0, 0, 0), (82, .ireturn, 0, 0, 0)]
def gk139 : List (Nat × gI) := gk139_0 ++ gk139_1
def gk140_0 : List (Nat × gI) := [(0, .iconst 0, 0, 0, 0), (1, .istore_n 1, 0, 0, 0), (2, .iload_n 0, 0, 0, 0), (3, .istore_n 2, 0, 0, 0), (4, .iload_n 2, 0, 0, 0), (5, .ifCond .eq (15), 20, 0, 0), (8, .iinc 1 (1), 0, 0, 1), (11, .iload_n 2, 0, 0, 0), (12, .iload_n 2, 0, 0, 0), (13, .iconst 1, 0, 0, 1), (14, .isub, 0, 0, 0), (15, .iand, 0, 0, 0), (16, .istore_n 2, 0, 0, 0), (17, .goto (-13), 4, 0, 0), (20, .iload_n 1, 0, 0, 0), (21, .ireturn, 0, 0, 0)]
def gk140 : List (Nat × gI) := gk140_0
def gk141_0 : List (Nat × gI) := [(0, .aload_n 0, 0, 0, 0), (1, .iconst 0, 0, 0, 0), (2, .putfield 62, 4, 0, 0), (5, .aload_n 0, 0, 0, 0), (6, .invokevirtual 202, 136, 0, 0), (9, .istore_n 1, 0, 0, 0), (10, .iload_n 1, 0, 0, 0), (11, .invokestatic 205, 140, 1, 0), (14, .istore_n 2, 0, 0, 0), (15, .bipush (-9), 0, 0, (-9)), (17, .istore_n 3, 0, 0, 0), (18, .bipush (99), 0, 0, 99), (20, .istore 4, 0, 0, 0), (22, .iconst 0, 0, 0, 0), (23, .istore 5, 0, 0, 0), (25, .iload 5, 0, 0, 0), (27, .aload_n 0, 0, 0, 0), (28, .getfield 13, 4, 8, 0), (31, .iconst 0, 0, 0, 0), (32, .iaload, 0, 0, 0), (33, .if_icmp .ge (133), 166, 0, 0), (36, .iload_n 2, 0, 0, 0), (37, .iconst 1, 0, 0, 1), (38, .if_icmp .le (128), 166, 0, 0), (41, .iconst 0, 0, 0, 0), (42, .istore 6, 0, 0, 0), (44, .iconst 0, 0, 0, 0), (45, .istore 7, 0, 0, 0), (47, .iload 7, 0, 0, 0), (49, .aload_n 0, 0, 0, 0), (50, .getfield 13, 4, 8, 0), (53, .iconst 3, 0, 0, 3), (54, .iaload, 0, 0, 0), (55, .if_icmp .ge (55), 110, 0, 0), (58, .iload 6, 0, 0, 0), (60, .iload_n 1, 0, 0, 0), (61, .iload 7, 0, 0, 0), (63, .invokestatic 111, 53, 2, 0), (66, .ifCond .eq (34), 100, 0, 0), (69, .aload_n 0, 0, 0, 0)]
def gk141_1 : List (Nat × gI) := [(70, .aload_n 0, 0, 0, 0), (71, .getfield 13, 4, 8, 0), (74, .aload_n 0, 0, 0, 0), (75, .getfield 22, 4, 11, 0), (78, .iconst 0, 0, 0, 0), (79, .iaload, 0, 0, 0), (80, .iconst 1, 0, 0, 1), (81, .iload 7, 0, 0, 0), (83, .ishl, 0, 0, 0), (84, .ixor, 0, 0, 0), (85, .invokevirtual 135, 61, 2, 0), (88, .iload 5, 0, 0, 0), (90, .invokestatic 111, 53, 2, 0), (93, .ifCond .eq (7), 100, 0, 0), (96, .iconst 1, 0, 0, 1), (97, .goto (4), 101, 0, 0), (100, .iconst 0, 0, 0, 0), (101, .iadd, 0, 0, 0), (102, .istore 6, 0, 0, 0), (104, .iinc 7 (1), 0, 0, 1), (107, .goto (-60), 47, 0, 0), (110, .iload 6, 0, 0, 0), (112, .iload_n 2, 0, 0, 0), (113, .iload 6, 0, 0, 0), (115, .isub, 0, 0, 0), (116, .if_icmp .le (8), 124, 0, 0), (119, .iload 6, 0, 0, 0), (121, .goto (7), 128, 0, 0), (124, .iload_n 2, 0, 0, 0), (125, .iload 6, 0, 0, 0), (127, .isub, 0, 0, 0), (128, .istore 7, 0, 0, 0), (130, .iload 7, 0, 0, 0), (132, .iload 4, 0, 0, 0), (134, .if_icmp .ge (8), 142, 0, 0), (137, .iload 5, 0, 0, 0), (139, .goto (4), 143, 0, 0), (142, .iload_n 3, 0, 0, 0), (143, .istore_n 3, 0, 0, 0), (144, .iload 7, 0, 0, 0)]
def gk141_2 : List (Nat × gI) := [(146, .iload 4, 0, 0, 0), (148, .if_icmp .ge (8), 156, 0, 0), (151, .iload 7, 0, 0, 0), (153, .goto (5), 158, 0, 0), (156, .iload 4, 0, 0, 0), (158, .istore 4, 0, 0, 0), (160, .iinc 5 (1), 0, 0, 1), (163, .goto (-138), 25, 0, 0), (166, .iload_n 3, 0, 0, 0), (167, .ireturn, 0, 0, 0)]
def gk141 : List (Nat × gI) := gk141_0 ++ gk141_1 ++ gk141_2
def gk142_0 : List (Nat × gI) := [(0, .iload_n 0, 0, 0, 0), (1, .ifCond .lt (12), 13, 0, 0), (4, .iload_n 0, 0, 0, 0), (5, .iconst 2, 0, 0, 2), (6, .if_icmp .ge (7), 13, 0, 0), (9, .iconst 1, 0, 0, 1), (10, .goto (4), 14, 0, 0), (13, .iconst 0, 0, 0, 0), (14, .ireturn, 0, 0, 0)]
def gk142 : List (Nat × gI) := gk142_0
def gk143_0 : List (Nat × gI) := [(0, .iload_n 1, 0, 0, 0), (1, .invokestatic 213, 142, 1, 0), (4, .ifCond .ne (5), 9, 0, 0), (7, .iconst (-1), 0, 0, (-1)), (8, .ireturn, 0, 0, 0), (9, .aload_n 0, 0, 0, 0), (10, .getfield 43, 3, 11, 0), (13, .iload_n 1, 0, 0, 0), (14, .aload_n 0, 0, 0, 0), (15, .invokevirtual 216, 94, 0, 0), (18, .iastore, 0, 0, 0), (19, .aload_n 0, 0, 0, 0), (20, .dup, 0, 0, 0), (21, .getfield 219, 3, 12, 0), (24, .iconst 1, 0, 0, 1), (25, .iload_n 1, 0, 0, 0), (26, .ishl, 0, 0, 0), (27, .ior, 0, 0, 0), (28, .putfield 219, 3, 12, 0), (31, .aload_n 0, 0, 0, 0), (32, .getfield 95, 3, 4, 0), (35, .ireturn, 0, 0, 0)]
def gk143 : List (Nat × gI) := gk143_0
def gk144_0 : List (Nat × gI) := [(0, .aload_n 0, 0, 0, 0), (1, .iconst 0, 0, 0, 0), (2, .putfield 62, 4, 0, 0), (5, .iload_n 1, 0, 0, 0), (6, .iconst 0, 0, 0, 0), (7, .iconst 1, 0, 0, 1), (8, .invokestatic 66, 10, 3, 0), (11, .ifCond .ne (5), 16, 0, 0), (14, .iconst (-1), 0, 0, (-1)), (15, .ireturn, 0, 0, 0), (16, .iconst 0, 0, 0, 0), (17, .istore_n 2, 0, 0, 0), (18, .iload_n 2, 0, 0, 0), (19, .iconst 5, 0, 0, 5), (20, .if_icmp .ge (25), 45, 0, 0), (23, .aload_n 0, 0, 0, 0), (24, .getfield 28, 4, 14, 0), (27, .iconst 5, 0, 0, 5), (28, .iload_n 1, 0, 0, 0), (29, .imul, 0, 0, 0), (30, .iload_n 2, 0, 0, 0), (31, .iadd, 0, 0, 0), (32, .aload_n 0, 0, 0, 0), (33, .getfield 22, 4, 11, 0), (36, .iload_n 2, 0, 0, 0), (37, .iaload, 0, 0, 0), (38, .iastore, 0, 0, 0), (39, .iinc 2 (1), 0, 0, 1), (42, .goto (-24), 18, 0, 0), (45, .aload_n 0, 0, 0, 0), (46, .getfield 31, 4, 15, 0), (49, .iload_n 1, 0, 0, 0), (50, .iconst 1, 0, 0, 1), (51, .bastore, 0, 0, 0), (52, .aload_n 0, 0, 0, 0), (53, .getfield 22, 4, 11, 0), (56, .iconst 0, 0, 0, 0), (57, .iaload, 0, 0, 0), (58, .ireturn, 0, 0, 0)]
def gk144 : List (Nat × gI) := gk144_0
def gk145_0 : List (Nat × gI) := [(0, .iload_n 1, 0, 0, 0), (1, .invokestatic 213, 142, 1, 0), (4, .ifCond .ne (5), 9, 0, 0), (7, .iconst (-1), 0, 0, (-1)), (8, .ireturn, 0, 0, 0), (9, .aload_n 0, 0, 0, 0), (10, .getfield 219, 3, 12, 0), (13, .iload_n 1, 0, 0, 0), (14, .invokestatic 98, 19, 2, 0), (17, .ifCond .ne (6), 23, 0, 0), (20, .bipush (-2), 0, 0, (-2)), (22, .ireturn, 0, 0, 0), (23, .aload_n 0, 0, 0, 0), (24, .aload_n 0, 0, 0, 0), (25, .getfield 43, 3, 11, 0), (28, .iload_n 1, 0, 0, 0), (29, .iaload, 0, 0, 0), (30, .invokevirtual 162, 110, 1, 0), (33, .aload_n 0, 0, 0, 0), (34, .iconst 0, 0, 0, 0), (35, .putfield 146, 3, 10, 0), (38, .aload_n 0, 0, 0, 0), (39, .getfield 95, 3, 4, 0), (42, .ireturn, 0, 0, 0)]
def gk145 : List (Nat × gI) := gk145_0
def gk146_0 : List (Nat × gI) := [(0, .aload_n 0, 0, 0, 0), (1, .iconst 0, 0, 0, 0), (2, .putfield 62, 4, 0, 0), (5, .iload_n 1, 0, 0, 0), (6, .iconst 0, 0, 0, 0), (7, .iconst 1, 0, 0, 1), (8, .invokestatic 66, 10, 3, 0), (11, .ifCond .ne (5), 16, 0, 0), (14, .iconst (-1), 0, 0, (-1)), (15, .ireturn, 0, 0, 0), (16, .aload_n 0, 0, 0, 0), (17, .getfield 31, 4, 15, 0), (20, .iload_n 1, 0, 0, 0), (21, .baload, 0, 0, 0), (22, .ifCond .ne (6), 28, 0, 0), (25, .bipush (-2), 0, 0, (-2)), (27, .ireturn, 0, 0, 0), (28, .iconst 0, 0, 0, 0), (29, .istore_n 2, 0, 0, 0), (30, .iload_n 2, 0, 0, 0), (31, .iconst 5, 0, 0, 5), (32, .if_icmp .ge (25), 57, 0, 0), (35, .aload_n 0, 0, 0, 0), (36, .getfield 22, 4, 11, 0), (39, .iload_n 2, 0, 0, 0), (40, .aload_n 0, 0, 0, 0), (41, .getfield 28, 4, 14, 0), (44, .iconst 5, 0, 0, 5), (45, .iload_n 1, 0, 0, 0), (46, .imul, 0, 0, 0), (47, .iload_n 2, 0, 0, 0), (48, .iadd, 0, 0, 0), (49, .iaload, 0, 0, 0), (50, .iastore, 0, 0, 0), (51, .iinc 2 (1), 0, 0, 1), (54, .goto (-24), 30, 0, 0), (57, .aload_n 0, 0, 0, 0), (58, .iconst 0, 0, 0, 0), (59, .putfield 147, 4, 13, 0), (62, .aload_n 0, 0, 0, 0)]
def gk146_1 : List (Nat × gI) := [(63, .getfield 22, 4, 11, 0), (66, .iconst 0, 0, 0, 0), (67, .iaload, 0, 0, 0), (68, .ireturn, 0, 0, 0)]
def gk146 : List (Nat × gI) := gk146_0 ++ gk146_1
def gk147_0 : List (Nat × gI) := [(0, .iload_n 1, 0, 0, 0), (1, .tableswitch (102) (0) (7) #[47, 55, 63, 68, 73, 81, 88, 95], 0, 0, 0), (48, .aload_n 0, 0, 0, 0), (49, .getfield 26, 3, 2, 0), (52, .getfield 202, 1, 0, 0), (55, .ireturn, 0, 0, 0), (56, .aload_n 0, 0, 0, 0), (57, .getfield 26, 3, 2, 0), (60, .getfield 112, 1, 3, 0), (63, .ireturn, 0, 0, 0), (64, .aload_n 0, 0, 0, 0), (65, .getfield 159, 3, 8, 0), (68, .ireturn, 0, 0, 0), (69, .aload_n 0, 0, 0, 0), (70, .getfield 193, 3, 14, 0), (73, .ireturn, 0, 0, 0), (74, .aload_n 0, 0, 0, 0), (75, .getfield 12, 3, 0, 0), (78, .getfield 55, 2, 1, 0), (81, .ireturn, 0, 0, 0), (82, .aload_n 0, 0, 0, 0), (83, .getfield 33, 3, 6, 0), (86, .iconst 0, 0, 0, 0), (87, .iaload, 0, 0, 0), (88, .ireturn, 0, 0, 0), (89, .aload_n 0, 0, 0, 0), (90, .getfield 33, 3, 6, 0), (93, .iconst 1, 0, 0, 1), (94, .iaload, 0, 0, 0), (95, .ireturn, 0, 0, 0), (96, .aload_n 0, 0, 0, 0), (97, .getfield 33, 3, 6, 0), (100, .iconst 2, 0, 0, 2), (101, .iaload, 0, 0, 0), (102, .ireturn, 0, 0, 0), (103, .iconst (-1), 0, 0, (-1)), (104, .ireturn, 0, 0, 0)]
def gk147 : List (Nat × gI) := gk147_0
def gk148_0 : List (Nat × gI) := [(0, .aload_n 0, 0, 0, 0), (1, .iconst 0, 0, 0, 0), (2, .putfield 62, 4, 0, 0), (5, .iload_n 1, 0, 0, 0), (6, .iconst 0, 0, 0, 0), (7, .bipush (7), 0, 0, 7), (9, .invokestatic 66, 10, 3, 0), (12, .ifCond .ne (5), 17, 0, 0), (15, .iconst (-1), 0, 0, (-1)), (16, .ireturn, 0, 0, 0), (17, .iload_n 1, 0, 0, 0), (18, .iconst 4, 0, 0, 4), (19, .if_icmp .ge (47), 66, 0, 0), (22, .iload_n 1, 0, 0, 0), (23, .ifCond .ne (12), 35, 0, 0), (26, .aload_n 0, 0, 0, 0), (27, .getfield 13, 4, 8, 0), (30, .iconst 0, 0, 0, 0), (31, .iaload, 0, 0, 0), (32, .goto (33), 65, 0, 0), (35, .iload_n 1, 0, 0, 0), (36, .iconst 1, 0, 0, 1), (37, .if_icmp .ne (12), 49, 0, 0), (40, .aload_n 0, 0, 0, 0), (41, .getfield 13, 4, 8, 0), (44, .iconst 3, 0, 0, 3), (45, .iaload, 0, 0, 0), (46, .goto (19), 65, 0, 0), (49, .iload_n 1, 0, 0, 0), (50, .iconst 2, 0, 0, 2), (51, .if_icmp .ne (10), 61, 0, 0), (54, .aload_n 0, 0, 0, 0), (55, .getfield 141, 4, 17, 0), (58, .goto (7), 65, 0, 0), (61, .aload_n 0, 0, 0, 0), (62, .getfield 144, 4, 20, 0), (65, .ireturn, 0, 0, 0), (66, .iload_n 1, 0, 0, 0), (67, .iconst 4, 0, 0, 4), (68, .if_icmp .ne (10), 78, 0, 0)]
def gk148_1 : List (Nat × gI) := [(71, .aload_n 0, 0, 0, 0), (72, .getfield 70, 4, 2, 0), (75, .goto (13), 88, 0, 0), (78, .aload_n 0, 0, 0, 0), (79, .getfield 22, 4, 11, 0), (82, .iconst 2, 0, 0, 2), (83, .iload_n 1, 0, 0, 0), (84, .iadd, 0, 0, 0), (85, .iconst 5, 0, 0, 5), (86, .isub, 0, 0, 0), (87, .iaload, 0, 0, 0), (88, .ireturn, 0, 0, 0)]
def gk148 : List (Nat × gI) := gk148_0 ++ gk148_1
def gk149_0 : List (Nat × gI) := [(0, .new 7, 3, 0, 0), (3, .dup, 0, 0, 0), (4, .invokespecial 9, 5, 0, 0), (7, .astore_n 1, 0, 0, 0), (8, .new 10, 4, 0, 0), (11, .dup, 0, 0, 0), (12, .invokespecial 12, 8, 0, 0), (15, .astore_n 2, 0, 0, 0), (16, .iconst 0, 0, 0, 0), (17, .istore_n 3, 0, 0, 0), (18, .iload_n 3, 0, 0, 0), (19, .aload_n 0, 0, 0, 0), (20, .arraylength, 0, 0, 0), (21, .iconst 4, 0, 0, 4), (22, .isub, 0, 0, 0), (23, .if_icmp .gt (716), 739, 0, 0), (26, .aload_n 0, 0, 0, 0), (27, .iload_n 3, 0, 0, 0), (28, .iaload, 0, 0, 0), (29, .bipush (31), 0, 0, 31), (31, .iand, 0, 0, 0), (32, .tableswitch (701) (0) (24) #[116, 139, 152, 165, 198, 221, 254, 277, 300, 323, 366, 389, 402, 415, 428, 471, 504, 527, 560, 593, 606, 619, 632, 655, 678], 0, 0, 0), (148, .aload_n 1, 0, 0, 0), (149, .aload_n 0, 0, 0, 0), (150, .iload_n 3, 0, 0, 0), (151, .iconst 1, 0, 0, 1), (152, .iadd, 0, 0, 0), (153, .iaload, 0, 0, 0), (154, .invokevirtual 13, 9, 1, 0), (157, .aload_n 2, 0, 0, 0), (158, .aload_n 0, 0, 0, 0), (159, .iload_n 3, 0, 0, 0), (160, .iconst 1, 0, 0, 1), (161, .iadd, 0, 0, 0), (162, .iaload, 0, 0, 0), (163, .invokevirtual 17, 11, 1, 0), (166, .if_icmp .eq (567), 733, 0, 0), (169, .iconst 0, 0, 0, 0), (170, .ireturn, 0, 0, 0), (171, .aload_n 1, 0, 0, 0)]
def gk149_1 : List (Nat × gI) := [(172, .invokevirtual 18, 12, 0, 0), (175, .aload_n 2, 0, 0, 0), (176, .invokevirtual 22, 13, 0, 0), (179, .if_icmp .eq (554), 733, 0, 0), (182, .iconst 0, 0, 0, 0), (183, .ireturn, 0, 0, 0), (184, .aload_n 1, 0, 0, 0), (185, .invokevirtual 23, 45, 0, 0), (188, .aload_n 2, 0, 0, 0), (189, .invokevirtual 26, 63, 0, 0), (192, .if_icmp .eq (541), 733, 0, 0), (195, .iconst 0, 0, 0, 0), (196, .ireturn, 0, 0, 0), (197, .aload_n 1, 0, 0, 0), (198, .aload_n 0, 0, 0, 0), (199, .iload_n 3, 0, 0, 0), (200, .iconst 1, 0, 0, 1), (201, .iadd, 0, 0, 0), (202, .iaload, 0, 0, 0), (203, .aload_n 0, 0, 0, 0), (204, .iload_n 3, 0, 0, 0), (205, .iconst 2, 0, 0, 2), (206, .iadd, 0, 0, 0), (207, .iaload, 0, 0, 0), (208, .invokevirtual 27, 67, 2, 0), (211, .aload_n 2, 0, 0, 0), (212, .aload_n 0, 0, 0, 0), (213, .iload_n 3, 0, 0, 0), (214, .iconst 1, 0, 0, 1), (215, .iadd, 0, 0, 0), (216, .iaload, 0, 0, 0), (217, .aload_n 0, 0, 0, 0), (218, .iload_n 3, 0, 0, 0), (219, .iconst 2, 0, 0, 2), (220, .iadd, 0, 0, 0), (221, .iaload, 0, 0, 0), (222, .invokevirtual 31, 71, 2, 0), (225, .if_icmp .eq (508), 733, 0, 0), (228, .iconst 0, 0, 0, 0), (229, .ireturn, 0, 0, 0)]
def gk149_2 : List (Nat × gI) := [(230, .aload_n 1, 0, 0, 0), (231, .aload_n 0, 0, 0, 0), (232, .iload_n 3, 0, 0, 0), (233, .iconst 1, 0, 0, 1), (234, .iadd, 0, 0, 0), (235, .iaload, 0, 0, 0), (236, .invokevirtual 32, 72, 1, 0), (239, .aload_n 2, 0, 0, 0), (240, .aload_n 0, 0, 0, 0), (241, .iload_n 3, 0, 0, 0), (242, .iconst 1, 0, 0, 1), (243, .iadd, 0, 0, 0), (244, .iaload, 0, 0, 0), (245, .invokevirtual 35, 73, 1, 0), (248, .if_icmp .eq (485), 733, 0, 0), (251, .iconst 0, 0, 0, 0), (252, .ireturn, 0, 0, 0), (253, .aload_n 1, 0, 0, 0), (254, .aload_n 0, 0, 0, 0), (255, .iload_n 3, 0, 0, 0), (256, .iconst 1, 0, 0, 1), (257, .iadd, 0, 0, 0), (258, .iaload, 0, 0, 0), (259, .aload_n 0, 0, 0, 0), (260, .iload_n 3, 0, 0, 0), (261, .iconst 2, 0, 0, 2), (262, .iadd, 0, 0, 0), (263, .iaload, 0, 0, 0), (264, .invokevirtual 36, 76, 2, 0), (267, .aload_n 2, 0, 0, 0), (268, .aload_n 0, 0, 0, 0), (269, .iload_n 3, 0, 0, 0), (270, .iconst 1, 0, 0, 1), (271, .iadd, 0, 0, 0), (272, .iaload, 0, 0, 0), (273, .aload_n 0, 0, 0, 0), (274, .iload_n 3, 0, 0, 0), (275, .iconst 2, 0, 0, 2), (276, .iadd, 0, 0, 0), (277, .iaload, 0, 0, 0)]
def gk149_3 : List (Nat × gI) := [(278, .invokevirtual 39, 78, 2, 0), (281, .if_icmp .eq (452), 733, 0, 0), (284, .iconst 0, 0, 0, 0), (285, .ireturn, 0, 0, 0), (286, .aload_n 1, 0, 0, 0), (287, .aload_n 0, 0, 0, 0), (288, .iload_n 3, 0, 0, 0), (289, .iconst 1, 0, 0, 1), (290, .iadd, 0, 0, 0), (291, .iaload, 0, 0, 0), (292, .invokevirtual 40, 86, 1, 0), (295, .aload_n 2, 0, 0, 0), (296, .aload_n 0, 0, 0, 0), (297, .iload_n 3, 0, 0, 0), (298, .iconst 1, 0, 0, 1), (299, .iadd, 0, 0, 0), (300, .iaload, 0, 0, 0), (301, .invokevirtual 43, 93, 1, 0), (304, .if_icmp .eq (429), 733, 0, 0), (307, .iconst 0, 0, 0, 0), (308, .ireturn, 0, 0, 0), (309, .aload_n 1, 0, 0, 0), (310, .aload_n 0, 0, 0, 0), (311, .iload_n 3, 0, 0, 0), (312, .iconst 1, 0, 0, 1), (313, .iadd, 0, 0, 0), (314, .iaload, 0, 0, 0), (315, .invokevirtual 44, 96, 1, 0), (318, .aload_n 2, 0, 0, 0), (319, .aload_n 0, 0, 0, 0), (320, .iload_n 3, 0, 0, 0), (321, .iconst 1, 0, 0, 1), (322, .iadd, 0, 0, 0), (323, .iaload, 0, 0, 0), (324, .invokevirtual 47, 98, 1, 0), (327, .if_icmp .eq (406), 733, 0, 0), (330, .iconst 0, 0, 0, 0), (331, .ireturn, 0, 0, 0), (332, .aload_n 1, 0, 0, 0), (333, .aload_n 0, 0, 0, 0)]
def gk149_4 : List (Nat × gI) := [(334, .iload_n 3, 0, 0, 0), (335, .iconst 1, 0, 0, 1), (336, .iadd, 0, 0, 0), (337, .iaload, 0, 0, 0), (338, .invokevirtual 48, 99, 1, 0), (341, .aload_n 2, 0, 0, 0), (342, .aload_n 0, 0, 0, 0), (343, .iload_n 3, 0, 0, 0), (344, .iconst 1, 0, 0, 1), (345, .iadd, 0, 0, 0), (346, .iaload, 0, 0, 0), (347, .invokevirtual 51, 100, 1, 0), (350, .if_icmp .eq (383), 733, 0, 0), (353, .iconst 0, 0, 0, 0), (354, .ireturn, 0, 0, 0), (355, .aload_n 1, 0, 0, 0), (356, .aload_n 0, 0, 0, 0), (357, .iload_n 3, 0, 0, 0), (358, .iconst 1, 0, 0, 1), (359, .iadd, 0, 0, 0), (360, .iaload, 0, 0, 0), (361, .aload_n 0, 0, 0, 0), (362, .iload_n 3, 0, 0, 0), (363, .iconst 2, 0, 0, 2), (364, .iadd, 0, 0, 0), (365, .iaload, 0, 0, 0), (366, .aload_n 0, 0, 0, 0), (367, .iload_n 3, 0, 0, 0), (368, .iconst 3, 0, 0, 3), (369, .iadd, 0, 0, 0), (370, .iaload, 0, 0, 0), (371, .invokevirtual 52, 102, 3, 0), (374, .aload_n 2, 0, 0, 0), (375, .aload_n 0, 0, 0, 0), (376, .iload_n 3, 0, 0, 0), (377, .iconst 1, 0, 0, 1), (378, .iadd, 0, 0, 0), (379, .iaload, 0, 0, 0), (380, .aload_n 0, 0, 0, 0), (381, .iload_n 3, 0, 0, 0)]
def gk149_5 : List (Nat × gI) := [(382, .iconst 2, 0, 0, 2), (383, .iadd, 0, 0, 0), (384, .iaload, 0, 0, 0), (385, .aload_n 0, 0, 0, 0), (386, .iload_n 3, 0, 0, 0), (387, .iconst 3, 0, 0, 3), (388, .iadd, 0, 0, 0), (389, .iaload, 0, 0, 0), (390, .invokevirtual 56, 103, 3, 0), (393, .if_icmp .eq (340), 733, 0, 0), (396, .iconst 0, 0, 0, 0), (397, .ireturn, 0, 0, 0), (398, .aload_n 1, 0, 0, 0), (399, .aload_n 0, 0, 0, 0), (400, .iload_n 3, 0, 0, 0), (401, .iconst 1, 0, 0, 1), (402, .iadd, 0, 0, 0), (403, .iaload, 0, 0, 0), (404, .invokevirtual 57, 104, 1, 0), (407, .aload_n 2, 0, 0, 0), (408, .aload_n 0, 0, 0, 0), (409, .iload_n 3, 0, 0, 0), (410, .iconst 1, 0, 0, 1), (411, .iadd, 0, 0, 0), (412, .iaload, 0, 0, 0), (413, .invokevirtual 60, 105, 1, 0), (416, .if_icmp .eq (317), 733, 0, 0), (419, .iconst 0, 0, 0, 0), (420, .ireturn, 0, 0, 0), (421, .aload_n 1, 0, 0, 0), (422, .invokevirtual 61, 106, 0, 0), (425, .aload_n 2, 0, 0, 0), (426, .invokevirtual 64, 107, 0, 0), (429, .if_icmp .eq (304), 733, 0, 0), (432, .iconst 0, 0, 0, 0), (433, .ireturn, 0, 0, 0), (434, .aload_n 1, 0, 0, 0), (435, .invokevirtual 65, 108, 0, 0), (438, .aload_n 2, 0, 0, 0), (439, .invokevirtual 68, 109, 0, 0)]
def gk149_6 : List (Nat × gI) := [(442, .if_icmp .eq (291), 733, 0, 0), (445, .iconst 0, 0, 0, 0), (446, .ireturn, 0, 0, 0), (447, .aload_n 1, 0, 0, 0), (448, .invokevirtual 69, 111, 0, 0), (451, .aload_n 2, 0, 0, 0), (452, .invokevirtual 72, 112, 0, 0), (455, .if_icmp .eq (278), 733, 0, 0), (458, .iconst 0, 0, 0, 0), (459, .ireturn, 0, 0, 0), (460, .aload_n 1, 0, 0, 0), (461, .aload_n 0, 0, 0, 0), (462, .iload_n 3, 0, 0, 0), (463, .iconst 1, 0, 0, 1), (464, .iadd, 0, 0, 0), (465, .iaload, 0, 0, 0), (466, .aload_n 0, 0, 0, 0), (467, .iload_n 3, 0, 0, 0), (468, .iconst 2, 0, 0, 2), (469, .iadd, 0, 0, 0), (470, .iaload, 0, 0, 0), (471, .aload_n 0, 0, 0, 0), (472, .iload_n 3, 0, 0, 0), (473, .iconst 3, 0, 0, 3), (474, .iadd, 0, 0, 0), (475, .iaload, 0, 0, 0), (476, .invokevirtual 73, 115, 3, 0), (479, .aload_n 2, 0, 0, 0), (480, .aload_n 0, 0, 0, 0), (481, .iload_n 3, 0, 0, 0), (482, .iconst 1, 0, 0, 1), (483, .iadd, 0, 0, 0), (484, .iaload, 0, 0, 0), (485, .aload_n 0, 0, 0, 0), (486, .iload_n 3, 0, 0, 0), (487, .iconst 2, 0, 0, 2), (488, .iadd, 0, 0, 0), (489, .iaload, 0, 0, 0), (490, .aload_n 0, 0, 0, 0), (491, .iload_n 3, 0, 0, 0)]
def gk149_7 : List (Nat × gI) := [(492, .iconst 3, 0, 0, 3), (493, .iadd, 0, 0, 0), (494, .iaload, 0, 0, 0), (495, .invokevirtual 76, 118, 3, 0), (498, .if_icmp .eq (235), 733, 0, 0), (501, .iconst 0, 0, 0, 0), (502, .ireturn, 0, 0, 0), (503, .aload_n 1, 0, 0, 0), (504, .aload_n 0, 0, 0, 0), (505, .iload_n 3, 0, 0, 0), (506, .iconst 1, 0, 0, 1), (507, .iadd, 0, 0, 0), (508, .iaload, 0, 0, 0), (509, .aload_n 0, 0, 0, 0), (510, .iload_n 3, 0, 0, 0), (511, .iconst 2, 0, 0, 2), (512, .iadd, 0, 0, 0), (513, .iaload, 0, 0, 0), (514, .invokevirtual 77, 119, 2, 0), (517, .aload_n 2, 0, 0, 0), (518, .aload_n 0, 0, 0, 0), (519, .iload_n 3, 0, 0, 0), (520, .iconst 1, 0, 0, 1), (521, .iadd, 0, 0, 0), (522, .iaload, 0, 0, 0), (523, .aload_n 0, 0, 0, 0), (524, .iload_n 3, 0, 0, 0), (525, .iconst 2, 0, 0, 2), (526, .iadd, 0, 0, 0), (527, .iaload, 0, 0, 0), (528, .invokevirtual 80, 120, 2, 0), (531, .if_icmp .eq (202), 733, 0, 0), (534, .iconst 0, 0, 0, 0), (535, .ireturn, 0, 0, 0), (536, .aload_n 1, 0, 0, 0), (537, .aload_n 0, 0, 0, 0), (538, .iload_n 3, 0, 0, 0), (539, .iconst 1, 0, 0, 1), (540, .iadd, 0, 0, 0), (541, .iaload, 0, 0, 0)]
def gk149_8 : List (Nat × gI) := [(542, .invokevirtual 81, 121, 1, 0), (545, .aload_n 2, 0, 0, 0), (546, .aload_n 0, 0, 0, 0), (547, .iload_n 3, 0, 0, 0), (548, .iconst 1, 0, 0, 1), (549, .iadd, 0, 0, 0), (550, .iaload, 0, 0, 0), (551, .invokevirtual 84, 122, 1, 0), (554, .if_icmp .eq (179), 733, 0, 0), (557, .iconst 0, 0, 0, 0), (558, .ireturn, 0, 0, 0), (559, .aload_n 1, 0, 0, 0), (560, .aload_n 0, 0, 0, 0), (561, .iload_n 3, 0, 0, 0), (562, .iconst 1, 0, 0, 1), (563, .iadd, 0, 0, 0), (564, .iaload, 0, 0, 0), (565, .aload_n 0, 0, 0, 0), (566, .iload_n 3, 0, 0, 0), (567, .iconst 2, 0, 0, 2), (568, .iadd, 0, 0, 0), (569, .iaload, 0, 0, 0), (570, .invokevirtual 85, 127, 2, 0), (573, .aload_n 2, 0, 0, 0), (574, .aload_n 0, 0, 0, 0), (575, .iload_n 3, 0, 0, 0), (576, .iconst 1, 0, 0, 1), (577, .iadd, 0, 0, 0), (578, .iaload, 0, 0, 0), (579, .aload_n 0, 0, 0, 0), (580, .iload_n 3, 0, 0, 0), (581, .iconst 2, 0, 0, 2), (582, .iadd, 0, 0, 0), (583, .iaload, 0, 0, 0), (584, .invokevirtual 88, 129, 2, 0), (587, .if_icmp .eq (146), 733, 0, 0), (590, .iconst 0, 0, 0, 0), (591, .ireturn, 0, 0, 0), (592, .aload_n 1, 0, 0, 0), (593, .aload_n 0, 0, 0, 0)]
def gk149_9 : List (Nat × gI) := [(594, .iload_n 3, 0, 0, 0), (595, .iconst 1, 0, 0, 1), (596, .iadd, 0, 0, 0), (597, .iaload, 0, 0, 0), (598, .aload_n 0, 0, 0, 0), (599, .iload_n 3, 0, 0, 0), (600, .iconst 2, 0, 0, 2), (601, .iadd, 0, 0, 0), (602, .iaload, 0, 0, 0), (603, .invokevirtual 89, 130, 2, 0), (606, .aload_n 2, 0, 0, 0), (607, .aload_n 0, 0, 0, 0), (608, .iload_n 3, 0, 0, 0), (609, .iconst 1, 0, 0, 1), (610, .iadd, 0, 0, 0), (611, .iaload, 0, 0, 0), (612, .aload_n 0, 0, 0, 0), (613, .iload_n 3, 0, 0, 0), (614, .iconst 2, 0, 0, 2), (615, .iadd, 0, 0, 0), (616, .iaload, 0, 0, 0), (617, .invokevirtual 92, 131, 2, 0), (620, .if_icmp .eq (113), 733, 0, 0), (623, .iconst 0, 0, 0, 0), (624, .ireturn, 0, 0, 0), (625, .aload_n 1, 0, 0, 0), (626, .invokevirtual 93, 132, 0, 0), (629, .aload_n 2, 0, 0, 0), (630, .invokevirtual 96, 133, 0, 0), (633, .if_icmp .eq (100), 733, 0, 0), (636, .iconst 0, 0, 0, 0), (637, .ireturn, 0, 0, 0), (638, .aload_n 1, 0, 0, 0), (639, .invokevirtual 97, 135, 0, 0), (642, .aload_n 2, 0, 0, 0), (643, .invokevirtual 100, 137, 0, 0), (646, .if_icmp .eq (87), 733, 0, 0), (649, .iconst 0, 0, 0, 0), (650, .ireturn, 0, 0, 0), (651, .aload_n 1, 0, 0, 0)]
def gk149_10 : List (Nat × gI) := [(652, .invokevirtual 101, 139, 0, 0), (655, .aload_n 2, 0, 0, 0), (656, .invokevirtual 104, 141, 0, 0), (659, .if_icmp .eq (74), 733, 0, 0), (662, .iconst 0, 0, 0, 0), (663, .ireturn, 0, 0, 0), (664, .aload_n 1, 0, 0, 0), (665, .aload_n 0, 0, 0, 0), (666, .iload_n 3, 0, 0, 0), (667, .iconst 1, 0, 0, 1), (668, .iadd, 0, 0, 0), (669, .iaload, 0, 0, 0), (670, .invokevirtual 105, 143, 1, 0), (673, .aload_n 2, 0, 0, 0), (674, .aload_n 0, 0, 0, 0), (675, .iload_n 3, 0, 0, 0), (676, .iconst 1, 0, 0, 1), (677, .iadd, 0, 0, 0), (678, .iaload, 0, 0, 0), (679, .invokevirtual 108, 144, 1, 0), (682, .if_icmp .eq (51), 733, 0, 0), (685, .iconst 0, 0, 0, 0), (686, .ireturn, 0, 0, 0), (687, .aload_n 1, 0, 0, 0), (688, .aload_n 0, 0, 0, 0), (689, .iload_n 3, 0, 0, 0), (690, .iconst 1, 0, 0, 1), (691, .iadd, 0, 0, 0), (692, .iaload, 0, 0, 0), (693, .invokevirtual 109, 145, 1, 0), (696, .aload_n 2, 0, 0, 0), (697, .aload_n 0, 0, 0, 0), (698, .iload_n 3, 0, 0, 0), (699, .iconst 1, 0, 0, 1), (700, .iadd, 0, 0, 0), (701, .iaload, 0, 0, 0), (702, .invokevirtual 112, 146, 1, 0), (705, .if_icmp .eq (28), 733, 0, 0), (708, .iconst 0, 0, 0, 0), (709, .ireturn, 0, 0, 0)]
def gk149_11 : List (Nat × gI) := [(710, .aload_n 1, 0, 0, 0), (711, .aload_n 0, 0, 0, 0), (712, .iload_n 3, 0, 0, 0), (713, .iconst 1, 0, 0, 1), (714, .iadd, 0, 0, 0), (715, .iaload, 0, 0, 0), (716, .invokevirtual 113, 147, 1, 0), (719, .aload_n 2, 0, 0, 0), (720, .aload_n 0, 0, 0, 0), (721, .iload_n 3, 0, 0, 0), (722, .iconst 1, 0, 0, 1), (723, .iadd, 0, 0, 0), (724, .iaload, 0, 0, 0), (725, .invokevirtual 116, 148, 1, 0), (728, .if_icmp .eq (5), 733, 0, 0), (731, .iconst 0, 0, 0, 0), (732, .ireturn, 0, 0, 0), (733, .iinc 3 (4), 0, 0, 4), (736, .goto (-718), 18, 0, 0), (739, .iconst 1, 0, 0, 1), (740, .ireturn, 0, 0, 0)]
def gk149 : List (Nat × gI) := gk149_0 ++ gk149_1 ++ gk149_2 ++ gk149_3 ++ gk149_4 ++ gk149_5 ++ gk149_6 ++ gk149_7 ++ gk149_8 ++ gk149_9 ++ gk149_10 ++ gk149_11
def g_code : Nat → List (Nat × gI) := fun m => match m with
  | 0 => gk0
  | 1 => gk1
  | 2 => gk2
  | 3 => gk3
  | 4 => gk4
  | 5 => gk5
  | 6 => gk6
  | 7 => gk7
  | 8 => gk8
  | 9 => gk9
  | 10 => gk10
  | 11 => gk11
  | 12 => gk12
  | 13 => gk13
  | 14 => gk14
  | 15 => gk15
  | 16 => gk16
  | 17 => gk17
  | 18 => gk18
  | 19 => gk19
  | 20 => gk20
  | 21 => gk21
  | 22 => gk22
  | 23 => gk23
  | 24 => gk24
  | 25 => gk25
  | 26 => gk26
  | 27 => gk27
  | 28 => gk28
  | 29 => gk29
  | 30 => gk30
  | 31 => gk31
  | 32 => gk32
  | 33 => gk33
  | 34 => gk34
  | 35 => gk35
  | 36 => gk36
  | 37 => gk37
  | 38 => gk38
  | 39 => gk39
  | 40 => gk40
  | 41 => gk41
  | 42 => gk42
  | 43 => gk43
  | 44 => gk44
  | 45 => gk45
  | 46 => gk46
  | 47 => gk47
  | 48 => gk48
  | 49 => gk49
  | 50 => gk50
  | 51 => gk51
  | 52 => gk52
  | 53 => gk53
  | 54 => gk54
  | 55 => gk55
  | 56 => gk56
  | 57 => gk57
  | 58 => gk58
  | 59 => gk59
  | 60 => gk60
  | 61 => gk61
  | 62 => gk62
  | 63 => gk63
  | 64 => gk64
  | 65 => gk65
  | 66 => gk66
  | 67 => gk67
  | 68 => gk68
  | 69 => gk69
  | 70 => gk70
  | 71 => gk71
  | 72 => gk72
  | 73 => gk73
  | 74 => gk74
  | 75 => gk75
  | 76 => gk76
  | 77 => gk77
  | 78 => gk78
  | 79 => gk79
  | 80 => gk80
  | 81 => gk81
  | 82 => gk82
  | 83 => gk83
  | 84 => gk84
  | 85 => gk85
  | 86 => gk86
  | 87 => gk87
  | 88 => gk88
  | 89 => gk89
  | 90 => gk90
  | 91 => gk91
  | 92 => gk92
  | 93 => gk93
  | 94 => gk94
  | 95 => gk95
  | 96 => gk96
  | 97 => gk97
  | 98 => gk98
  | 99 => gk99
  | 100 => gk100
  | 101 => gk101
  | 102 => gk102
  | 103 => gk103
  | 104 => gk104
  | 105 => gk105
  | 106 => gk106
  | 107 => gk107
  | 108 => gk108
  | 109 => gk109
  | 110 => gk110
  | 111 => gk111
  | 112 => gk112
  | 113 => gk113
  | 114 => gk114
  | 115 => gk115
  | 116 => gk116
  | 117 => gk117
  | 118 => gk118
  | 119 => gk119
  | 120 => gk120
  | 121 => gk121
  | 122 => gk122
  | 123 => gk123
  | 124 => gk124
  | 125 => gk125
  | 126 => gk126
  | 127 => gk127
  | 128 => gk128
  | 129 => gk129
  | 130 => gk130
  | 131 => gk131
  | 132 => gk132
  | 133 => gk133
  | 134 => gk134
  | 135 => gk135
  | 136 => gk136
  | 137 => gk137
  | 138 => gk138
  | 139 => gk139
  | 140 => gk140
  | 141 => gk141
  | 142 => gk142
  | 143 => gk143
  | 144 => gk144
  | 145 => gk145
  | 146 => gk146
  | 147 => gk147
  | 148 => gk148
  | 149 => gk149
  | _ => []
/-- class, name, bytes, locals, answer, frames, words of locals, arguments -/
abbrev gMd : Type := Nat × MethodName × ByteArray × Nat × Option FieldType × Nat × Nat × Nat
def g_meth : Nat → gMd := fun m => match m with
  | 0 => (2, ⟨"SwitchBook$Text", "<init>", "()V"⟩, prog_4_method_1_code, 1, none, 1, 12, 0)
  | 1 => (0, ⟨"SwitchBook$Draft", "<init>", "()V"⟩, prog_2_method_1_code, 1, none, 1, 12, 0)
  | 2 => (1, ⟨"SwitchBook$Net", "<init>", "()V"⟩, prog_3_method_1_code, 1, none, 1, 12, 0)
  | 3 => (3, ⟨"SwitchBook", "setPrices", "(III)V"⟩, prog_1_method_34_code, 4, none, 0, 0, 3)
  | 4 => (3, ⟨"SwitchBook", "startAnew", "()V"⟩, prog_1_method_33_code, 1, none, 1, 23, 0)
  | 5 => (3, ⟨"SwitchBook", "<init>", "()V"⟩, prog_1_method_1_code, 1, none, 2, 43, 0)
  | 6 => (4, ⟨"SwitchBookModel", "begins", "()V"⟩, prog_6_method_14_code, 2, none, 0, 0, 0)
  | 7 => (4, ⟨"SwitchBookModel", "settles", "()V"⟩, prog_6_method_22_code, 2, none, 0, 0, 0)
  | 8 => (4, ⟨"SwitchBookModel", "<init>", "()V"⟩, prog_6_method_1_code, 1, none, 1, 21, 0)
  | 9 => (3, ⟨"SwitchBook", "type", "(I)I"⟩, prog_1_method_2_code, 2, (some .int), 0, 0, 1)
  | 10 => (4, ⟨"SwitchBookModel", "in", "(III)Z"⟩, prog_6_method_3_code, 3, (some .boolean), 0, 0, 3)
  | 11 => (4, ⟨"SwitchBookModel", "type", "(I)I"⟩, prog_6_method_6_code, 2, (some .int), 1, 22, 1)
  | 12 => (3, ⟨"SwitchBook", "clear", "()I"⟩, prog_1_method_3_code, 2, (some .int), 0, 0, 0)
  | 13 => (4, ⟨"SwitchBookModel", "clear", "()I"⟩, prog_6_method_7_code, 2, (some .int), 0, 0, 0)
  | 14 => (0, ⟨"SwitchBook$Draft", "forgetAll", "()V"⟩, prog_2_method_3_code, 1, none, 0, 0, 0)
  | 15 => (2, ⟨"SwitchBook$Text", "rewind", "()V"⟩, prog_4_method_2_code, 1, none, 0, 0, 0)
  | 16 => (2, ⟨"SwitchBook$Text", "readNumber", "()V"⟩, prog_4_method_4_code, 3, none, 0, 0, 0)
  | 17 => (3, ⟨"SwitchBook", "isName", "(I)Z"⟩, prog_1_method_31_code, 1, (some .boolean), 0, 0, 1)
  | 18 => (2, ⟨"SwitchBook$Text", "advance", "()V"⟩, prog_4_method_3_code, 2, none, 1, 22, 0)
  | 19 => (3, ⟨"SwitchBook", "bit", "(II)I"⟩, prog_1_method_32_code, 2, (some .int), 0, 0, 2)
  | 20 => (2, ⟨"SwitchBook$Text", "take", "(II)I"⟩, prog_4_method_5_code, 4, (some .int), 2, 43, 2)
  | 21 => (0, ⟨"SwitchBook$Draft", "readNodes", "(LSwitchBook$Text;)Z"⟩, prog_2_method_7_code, 3, (some .boolean), 3, 66, 1)
  | 22 => (0, ⟨"SwitchBook$Draft", "allNodes", "()I"⟩, prog_2_method_5_code, 1, (some .int), 0, 0, 0)
  | 23 => (0, ⟨"SwitchBook$Draft", "asSet", "(I)I"⟩, prog_2_method_6_code, 1, (some .int), 0, 0, 1)
  | 24 => (0, ⟨"SwitchBook$Draft", "readSource", "(LSwitchBook$Text;)Z"⟩, prog_2_method_8_code, 3, (some .boolean), 3, 66, 1)
  | 25 => (0, ⟨"SwitchBook$Draft", "readLoad", "(LSwitchBook$Text;)Z"⟩, prog_2_method_9_code, 3, (some .boolean), 3, 66, 1)
  | 26 => (6, ⟨"java/lang/Integer", "bitCount", "(I)I"⟩, prog_7_method_49_code, 1, (some .int), 0, 0, 1)
  | 27 => (0, ⟨"SwitchBook$Draft", "readSwitch", "(LSwitchBook$Text;I)Z"⟩, prog_2_method_12_code, 6, (some .boolean), 3, 66, 2)
  | 28 => (0, ⟨"SwitchBook$Draft", "readClosed", "(LSwitchBook$Text;)Z"⟩, prog_2_method_10_code, 3, (some .boolean), 3, 66, 1)
  | 29 => (0, ⟨"SwitchBook$Draft", "readLocked", "(LSwitchBook$Text;)Z"⟩, prog_2_method_11_code, 3, (some .boolean), 3, 66, 1)
  | 30 => (0, ⟨"SwitchBook$Draft", "readItem", "(LSwitchBook$Text;I)Z"⟩, prog_2_method_4_code, 3, (some .boolean), 4, 91, 2)
  | 31 => (2, ⟨"SwitchBook$Text", "takeSemicolon", "()Z"⟩, prog_4_method_6_code, 1, (some .boolean), 2, 43, 0)
  | 32 => (0, ⟨"SwitchBook$Draft", "read", "(LSwitchBook$Text;)I"⟩, prog_2_method_2_code, 3, (some .int), 5, 113, 1)
  | 33 => (1, ⟨"SwitchBook$Net", "number", "(LSwitchBook$Draft;I)V"⟩, prog_3_method_3_code, 3, none, 1, 21, 2)
  | 34 => (8, ⟨"java/util/Arrays", "fill", "([II)V"⟩, prog_9_method_103_code, 4, none, 0, 0, 2)
  | 35 => (1, ⟨"SwitchBook$Net", "allSwitches", "()I"⟩, prog_3_method_11_code, 1, (some .int), 0, 0, 0)
  | 36 => (1, ⟨"SwitchBook$Net", "join", "(I)V"⟩, prog_3_method_6_code, 3, none, 1, 21, 1)
  | 37 => (1, ⟨"SwitchBook$Net", "formParts", "(I)V"⟩, prog_3_method_5_code, 3, none, 2, 43, 1)
  | 38 => (1, ⟨"SwitchBook$Net", "partsWith", "(I)I"⟩, prog_3_method_7_code, 4, (some .int), 1, 21, 1)
  | 39 => (1, ⟨"SwitchBook$Net", "nodesOfClosedEarths", "(I)I"⟩, prog_3_method_8_code, 4, (some .int), 1, 21, 1)
  | 40 => (1, ⟨"SwitchBook$Net", "isUnderLoad", "(III)Z"⟩, prog_3_method_10_code, 6, (some .boolean), 1, 21, 3)
  | 41 => (1, ⟨"SwitchBook$Net", "holdIsolators", "(II)V"⟩, prog_3_method_9_code, 4, none, 2, 46, 2)
  | 42 => (1, ⟨"SwitchBook$Net", "measureStates", "()V"⟩, prog_3_method_4_code, 2, none, 3, 69, 0)
  | 43 => (1, ⟨"SwitchBook$Net", "draw", "(LSwitchBook$Draft;)V"⟩, prog_3_method_2_code, 4, none, 4, 90, 1)
  | 44 => (1, ⟨"SwitchBook$Net", "sound", "(I)Z"⟩, prog_3_method_13_code, 2, (some .boolean), 0, 0, 1)
  | 45 => (3, ⟨"SwitchBook", "book", "()I"⟩, prog_1_method_4_code, 3, (some .int), 6, 135, 0)
  | 46 => (4, ⟨"SwitchBookModel", "letterAt", "(I)I"⟩, prog_6_method_8_code, 2, (some .int), 0, 0, 1)
  | 47 => (4, ⟨"SwitchBookModel", "advances", "()V"⟩, prog_6_method_9_code, 2, none, 1, 22, 0)
  | 48 => (4, ⟨"SwitchBookModel", "isWell", "()Z"⟩, prog_6_method_10_code, 1, (some .boolean), 0, 0, 0)
  | 49 => (4, ⟨"SwitchBookModel", "mayBegin", "(I)Z"⟩, prog_6_method_15_code, 3, (some .boolean), 0, 0, 1)
  | 50 => (4, ⟨"SwitchBookModel", "takes", "(Z)I"⟩, prog_6_method_11_code, 3, (some .int), 2, 43, 1)
  | 51 => (4, ⟨"SwitchBookModel", "isNumber", "(II)Z"⟩, prog_6_method_12_code, 3, (some .boolean), 1, 22, 2)
  | 52 => (4, ⟨"SwitchBookModel", "withName", "([II)I"⟩, prog_6_method_13_code, 4, (some .int), 0, 0, 2)
  | 53 => (4, ⟨"SwitchBookModel", "has", "(II)Z"⟩, prog_6_method_4_code, 2, (some .boolean), 0, 0, 2)
  | 54 => (4, ⟨"SwitchBookModel", "gets", "(IZ)I"⟩, prog_6_method_17_code, 5, (some .int), 3, 65, 2)
  | 55 => (4, ⟨"SwitchBookModel", "readsSwitch", "(I)V"⟩, prog_6_method_16_code, 3, none, 3, 65, 1)
  | 56 => (4, ⟨"SwitchBookModel", "readsItem", "(I)V"⟩, prog_6_method_18_code, 2, none, 4, 89, 1)
  | 57 => (4, ⟨"SwitchBookModel", "changes", "(I)V"⟩, prog_6_method_19_code, 4, none, 1, 21, 1)
  | 58 => (4, ⟨"SwitchBookModel", "sorts", "()V"⟩, prog_6_method_20_code, 3, none, 2, 44, 0)
  | 59 => (4, ⟨"SwitchBookModel", "partsBy", "([II)V"⟩, prog_6_method_25_code, 8, none, 1, 21, 2)
  | 60 => (4, ⟨"SwitchBookModel", "spread", "([II)I"⟩, prog_6_method_26_code, 6, (some .int), 1, 21, 2)
  | 61 => (4, ⟨"SwitchBookModel", "liveBy", "([II)I"⟩, prog_6_method_27_code, 3, (some .int), 2, 48, 2)
  | 62 => (4, ⟨"SwitchBookModel", "earthedBy", "([II)I"⟩, prog_6_method_28_code, 5, (some .int), 2, 48, 2)
  | 63 => (4, ⟨"SwitchBookModel", "book", "()I"⟩, prog_6_method_21_code, 3, (some .int), 5, 110, 0)
  | 64 => (3, ⟨"SwitchBook", "isSwitch", "(I)Z"⟩, prog_1_method_27_code, 2, (some .boolean), 0, 0, 1)
  | 65 => (1, ⟨"SwitchBook$Net", "whyNot", "(II)I"⟩, prog_3_method_14_code, 3, (some .int), 1, 21, 2)
  | 66 => (3, ⟨"SwitchBook", "whyNot", "(I)I"⟩, prog_1_method_38_code, 2, (some .int), 2, 43, 1)
  | 67 => (3, ⟨"SwitchBook", "device", "(II)I"⟩, prog_1_method_5_code, 3, (some .int), 3, 64, 2)
  | 68 => (4, ⟨"SwitchBookModel", "isSwitch", "(I)Z"⟩, prog_6_method_23_code, 2, (some .boolean), 1, 22, 1)
  | 69 => (4, ⟨"SwitchBookModel", "isLoaded", "(I)Z"⟩, prog_6_method_29_code, 4, (some .boolean), 1, 21, 1)
  | 70 => (4, ⟨"SwitchBookModel", "whyNot", "(II)I"⟩, prog_6_method_30_code, 8, (some .int), 3, 72, 2)
  | 71 => (4, ⟨"SwitchBookModel", "device", "(II)I"⟩, prog_6_method_31_code, 3, (some .int), 4, 99, 2)
  | 72 => (3, ⟨"SwitchBook", "named", "(I)I"⟩, prog_1_method_6_code, 3, (some .int), 1, 20, 1)
  | 73 => (4, ⟨"SwitchBookModel", "named", "(I)I"⟩, prog_6_method_32_code, 2, (some .int), 1, 23, 1)
  | 74 => (3, ⟨"SwitchBook", "isNode", "(I)Z"⟩, prog_1_method_28_code, 2, (some .boolean), 0, 0, 1)
  | 75 => (1, ⟨"SwitchBook$Net", "lowestOfPart", "(II)I"⟩, prog_3_method_15_code, 4, (some .int), 3, 65, 2)
  | 76 => (3, ⟨"SwitchBook", "node", "(II)I"⟩, prog_1_method_7_code, 3, (some .int), 4, 88, 2)
  | 77 => (4, ⟨"SwitchBookModel", "isNode", "(I)Z"⟩, prog_6_method_24_code, 2, (some .boolean), 1, 22, 1)
  | 78 => (4, ⟨"SwitchBookModel", "node", "(II)I"⟩, prog_6_method_33_code, 5, (some .int), 3, 72, 2)
  | 79 => (3, ⟨"SwitchBook", "lawfulMoves", "()I"⟩, prog_1_method_39_code, 3, (some .int), 3, 64, 0)
  | 80 => (1, ⟨"SwitchBook$Net", "parts", "(I)I"⟩, prog_3_method_16_code, 4, (some .int), 4, 88, 1)
  | 81 => (3, ⟨"SwitchBook", "spreadFrom", "(I)I"⟩, prog_1_method_42_code, 6, (some .int), 2, 43, 1)
  | 82 => (3, ⟨"SwitchBook", "spread", "()V"⟩, prog_1_method_41_code, 5, none, 3, 68, 0)
  | 83 => (3, ⟨"SwitchBook", "aim", "(IIII)V"⟩, prog_1_method_40_code, 9, none, 4, 92, 4)
  | 84 => (3, ⟨"SwitchBook", "states", "()I"⟩, prog_1_method_45_code, 3, (some .int), 5, 120, 0)
  | 85 => (3, ⟨"SwitchBook", "far", "()I"⟩, prog_1_method_46_code, 3, (some .int), 5, 120, 0)
  | 86 => (3, ⟨"SwitchBook", "now", "(I)I"⟩, prog_1_method_8_code, 2, (some .int), 6, 142, 1)
  | 87 => (4, ⟨"SwitchBookModel", "allLawful", "()I"⟩, prog_6_method_35_code, 3, (some .int), 4, 99, 0)
  | 88 => (4, ⟨"SwitchBookModel", "parts", "()I"⟩, prog_6_method_34_code, 3, (some .int), 2, 48, 0)
  | 89 => (4, ⟨"SwitchBookModel", "states", "()I"⟩, prog_6_method_45_code, 1, (some .int), 0, 0, 0)
  | 90 => (4, ⟨"SwitchBookModel", "laws", "()V"⟩, prog_6_method_46_code, 3, none, 4, 99, 0)
  | 91 => (4, ⟨"SwitchBookModel", "priceOf", "(I)I"⟩, prog_6_method_47_code, 2, (some .int), 0, 0, 1)
  | 92 => (4, ⟨"SwitchBookModel", "reached", "(Z)I"⟩, prog_6_method_53_code, 6, (some .int), 5, 121, 1)
  | 93 => (4, ⟨"SwitchBookModel", "now", "(I)I"⟩, prog_6_method_36_code, 3, (some .int), 6, 146, 1)
  | 94 => (3, ⟨"SwitchBook", "standing", "()I"⟩, prog_1_method_35_code, 1, (some .int), 0, 0, 0)
  | 95 => (3, ⟨"SwitchBook", "remember", "()V"⟩, prog_1_method_37_code, 2, none, 1, 20, 0)
  | 96 => (3, ⟨"SwitchBook", "moves", "(I)I"⟩, prog_1_method_9_code, 2, (some .int), 3, 64, 1)
  | 97 => (4, ⟨"SwitchBookModel", "notes", "()V"⟩, prog_6_method_37_code, 2, none, 0, 0, 0)
  | 98 => (4, ⟨"SwitchBookModel", "moves", "(I)I"⟩, prog_6_method_38_code, 2, (some .int), 4, 99, 1)
  | 99 => (3, ⟨"SwitchBook", "locks", "(I)I"⟩, prog_1_method_10_code, 2, (some .int), 2, 41, 1)
  | 100 => (4, ⟨"SwitchBookModel", "locks", "(I)I"⟩, prog_6_method_39_code, 2, (some .int), 2, 43, 1)
  | 101 => (3, ⟨"SwitchBook", "isPrice", "(I)Z"⟩, prog_1_method_30_code, 1, (some .boolean), 0, 0, 1)
  | 102 => (3, ⟨"SwitchBook", "prices", "(III)I"⟩, prog_1_method_11_code, 4, (some .int), 2, 41, 3)
  | 103 => (4, ⟨"SwitchBookModel", "prices", "(III)I"⟩, prog_6_method_40_code, 4, (some .int), 1, 22, 3)
  | 104 => (3, ⟨"SwitchBook", "lists", "(I)I"⟩, prog_1_method_12_code, 2, (some .int), 1, 21, 1)
  | 105 => (4, ⟨"SwitchBookModel", "lists", "(I)I"⟩, prog_6_method_41_code, 2, (some .int), 2, 43, 1)
  | 106 => (3, ⟨"SwitchBook", "goes", "()I"⟩, prog_1_method_13_code, 3, (some .int), 3, 64, 0)
  | 107 => (4, ⟨"SwitchBookModel", "goes", "()I"⟩, prog_6_method_42_code, 3, (some .int), 4, 99, 0)
  | 108 => (3, ⟨"SwitchBook", "drops", "()I"⟩, prog_1_method_14_code, 2, (some .int), 0, 0, 0)
  | 109 => (4, ⟨"SwitchBookModel", "drops", "()I"⟩, prog_6_method_43_code, 2, (some .int), 0, 0, 0)
  | 110 => (3, ⟨"SwitchBook", "restore", "(I)V"⟩, prog_1_method_36_code, 2, none, 1, 23, 1)
  | 111 => (3, ⟨"SwitchBook", "undo", "()I"⟩, prog_1_method_15_code, 1, (some .int), 2, 44, 0)
  | 112 => (4, ⟨"SwitchBookModel", "undo", "()I"⟩, prog_6_method_44_code, 2, (some .int), 0, 0, 0)
  | 113 => (3, ⟨"SwitchBook", "stepFrom", "(I)I"⟩, prog_1_method_44_code, 3, (some .int), 2, 43, 1)
  | 114 => (3, ⟨"SwitchBook", "cheapest", "(I)I"⟩, prog_1_method_43_code, 6, (some .int), 3, 65, 1)
  | 115 => (3, ⟨"SwitchBook", "plan", "(III)I"⟩, prog_1_method_16_code, 4, (some .int), 5, 120, 3)
  | 116 => (4, ⟨"SwitchBookModel", "reckons", "()V"⟩, prog_6_method_48_code, 5, none, 5, 121, 0)
  | 117 => (4, ⟨"SwitchBookModel", "tells", "(I)I"⟩, prog_6_method_49_code, 6, (some .int), 6, 145, 1)
  | 118 => (4, ⟨"SwitchBookModel", "plan", "(III)I"⟩, prog_6_method_50_code, 5, (some .int), 7, 170, 3)
  | 119 => (3, ⟨"SwitchBook", "work", "(II)I"⟩, prog_1_method_17_code, 3, (some .int), 5, 120, 2)
  | 120 => (4, ⟨"SwitchBookModel", "work", "(II)I"⟩, prog_6_method_51_code, 4, (some .int), 7, 170, 2)
  | 121 => (3, ⟨"SwitchBook", "supply", "(I)I"⟩, prog_1_method_18_code, 2, (some .int), 5, 120, 1)
  | 122 => (4, ⟨"SwitchBookModel", "supply", "(I)I"⟩, prog_6_method_52_code, 3, (some .int), 7, 170, 1)
  | 123 => (1, ⟨"SwitchBook$Net", "ofKind", "(I)I"⟩, prog_3_method_12_code, 4, (some .int), 0, 0, 1)
  | 124 => (3, ⟨"SwitchBook", "power", "(II)I"⟩, prog_1_method_48_code, 4, (some .int), 0, 0, 2)
  | 125 => (3, ⟨"SwitchBook", "waysToStayLive", "(II)I"⟩, prog_1_method_47_code, 6, (some .int), 1, 23, 2)
  | 126 => (3, ⟨"SwitchBook", "greatestCommonDivisor", "(II)I"⟩, prog_1_method_49_code, 6, (some .int), 0, 0, 2)
  | 127 => (3, ⟨"SwitchBook", "odds", "(II)I"⟩, prog_1_method_19_code, 7, (some .int), 2, 48, 2)
  | 128 => (4, ⟨"SwitchBookModel", "gcd", "(II)I"⟩, prog_6_method_54_code, 5, (some .int), 0, 0, 2)
  | 129 => (4, ⟨"SwitchBookModel", "odds", "(II)I"⟩, prog_6_method_55_code, 10, (some .int), 3, 70, 2)
  | 130 => (3, ⟨"SwitchBook", "sees", "(II)I"⟩, prog_1_method_20_code, 3, (some .int), 1, 21, 2)
  | 131 => (4, ⟨"SwitchBookModel", "sees", "(II)I"⟩, prog_6_method_56_code, 3, (some .int), 2, 43, 2)
  | 132 => (3, ⟨"SwitchBook", "forget", "()I"⟩, prog_1_method_21_code, 2, (some .int), 0, 0, 0)
  | 133 => (4, ⟨"SwitchBookModel", "forget", "()I"⟩, prog_6_method_57_code, 2, (some .int), 0, 0, 0)
  | 134 => (3, ⟨"SwitchBook", "explainsAllSeen", "(I)Z"⟩, prog_1_method_50_code, 4, (some .boolean), 1, 21, 1)
  | 135 => (3, ⟨"SwitchBook", "unseen", "()I"⟩, prog_1_method_22_code, 3, (some .int), 2, 44, 0)
  | 136 => (4, ⟨"SwitchBookModel", "unseenSet", "()I"⟩, prog_6_method_58_code, 6, (some .int), 3, 70, 0)
  | 137 => (4, ⟨"SwitchBookModel", "unseen", "()I"⟩, prog_6_method_59_code, 1, (some .int), 4, 95, 0)
  | 138 => (3, ⟨"SwitchBook", "suspectsThatLight", "(II)I"⟩, prog_1_method_51_code, 5, (some .int), 1, 21, 2)
  | 139 => (3, ⟨"SwitchBook", "look", "()I"⟩, prog_1_method_23_code, 8, (some .int), 3, 66, 0)
  | 140 => (4, ⟨"SwitchBookModel", "ones", "(I)I"⟩, prog_6_method_5_code, 3, (some .int), 0, 0, 1)
  | 141 => (4, ⟨"SwitchBookModel", "look", "()I"⟩, prog_6_method_60_code, 8, (some .int), 4, 95, 0)
  | 142 => (3, ⟨"SwitchBook", "isImage", "(I)Z"⟩, prog_1_method_29_code, 1, (some .boolean), 0, 0, 1)
  | 143 => (3, ⟨"SwitchBook", "keep", "(I)I"⟩, prog_1_method_24_code, 2, (some .int), 1, 20, 1)
  | 144 => (4, ⟨"SwitchBookModel", "keep", "(I)I"⟩, prog_6_method_61_code, 3, (some .int), 1, 22, 1)
  | 145 => (3, ⟨"SwitchBook", "back", "(I)I"⟩, prog_1_method_25_code, 2, (some .int), 2, 44, 1)
  | 146 => (4, ⟨"SwitchBookModel", "back", "(I)I"⟩, prog_6_method_62_code, 3, (some .int), 1, 22, 1)
  | 147 => (3, ⟨"SwitchBook", "count", "(I)I"⟩, prog_1_method_26_code, 2, (some .int), 0, 0, 1)
  | 148 => (4, ⟨"SwitchBookModel", "count", "(I)I"⟩, prog_6_method_63_code, 2, (some .int), 1, 22, 1)
  | 149 => (5, x, code, 4, (some .boolean), 8, 194, 1)
  | _ => (0, x, code, 0, none, 0, 0, 0)
def g_shp : Nat → (Bool × Nat) ⊕ Nat := fun p => match p with
  | 0 => .inr 3
  | 1 => .inr 2
  | 2 => .inl (false, 120)
  | 3 => .inr 0
  | 4 => .inl (false, 26)
  | 5 => .inl (false, 26)
  | 6 => .inl (false, 26)
  | 7 => .inr 1
  | 8 => .inl (false, 8)
  | 9 => .inl (false, 8)
  | 10 => .inl (false, 8)
  | 11 => .inl (false, 8)
  | 12 => .inl (false, 256)
  | 13 => .inl (false, 256)
  | 14 => .inl (false, 256)
  | 15 => .inl (false, 6)
  | 16 => .inr 1
  | 17 => .inl (false, 8)
  | 18 => .inl (false, 8)
  | 19 => .inl (false, 8)
  | 20 => .inl (false, 8)
  | 21 => .inl (false, 256)
  | 22 => .inl (false, 256)
  | 23 => .inl (false, 256)
  | 24 => .inl (false, 6)
  | 25 => .inl (false, 3)
  | 26 => .inl (false, 12)
  | 27 => .inl (false, 10)
  | 28 => .inl (false, 2)
  | 29 => .inl (false, 6)
  | 30 => .inl (false, 256)
  | 31 => .inr 4
  | 32 => .inl (false, 120)
  | 33 => .inl (false, 36)
  | 34 => .inl (false, 36)
  | 35 => .inl (false, 5)
  | 36 => .inl (false, 5)
  | 37 => .inl (false, 50)
  | 38 => .inl (false, 10)
  | 39 => .inl (true, 2)
  | 40 => .inl (false, 12)
  | 41 => .inl (false, 6)
  | 42 => .inl (false, 6)
  | 43 => .inl (false, 6)
  | 44 => .inl (false, 256)
  | 45 => .inl (true, 256)
  | 46 => .inl (true, 2048)
  | _ => .inl (false, 0)
/-- field links: index, class, field, own; the word's place -/
def g_fl : List (Nat × Nat × Nat × Nat × Nat) := [(7, 4, 1, 4, 3075), (9, 0, 6, 0, 1066), (9, 1, 0, 1, 1097), (9, 2, 0, 2, 1023), (12, 3, 0, 3, 1160), (13, 4, 8, 4, 3082), (15, 0, 7, 0, 1068), (15, 1, 6, 1, 1109), (15, 2, 2, 2, 1027), (16, 4, 9, 4, 3083), (18, 0, 8, 0, 1070), (19, 1, 7, 1, 1111), (19, 2, 1, 2, 1026), (19, 3, 1, 3, 1161), (19, 4, 10, 4, 3084), (22, 1, 8, 1, 1113), (22, 2, 3, 2, 1028), (22, 4, 11, 4, 3085), (25, 1, 9, 1, 1115), (25, 2, 4, 2, 1031), (25, 4, 12, 4, 3086), (26, 3, 2, 3, 1162), (28, 1, 10, 1, 1117), (28, 4, 14, 4, 3088), (30, 3, 3, 3, 1163), (31, 1, 11, 1, 1119), (31, 2, 5, 2, 1032), (31, 4, 15, 4, 3089), (32, 2, 4, 0, 1030), (33, 3, 6, 3, 1166), (34, 1, 12, 1, 1121), (35, 4, 16, 4, 3090), (37, 1, 13, 1, 1122), (37, 3, 7, 3, 1167), (38, 4, 18, 4, 3092), (40, 0, 0, 1, 1054), (40, 3, 9, 3, 1169), (41, 4, 19, 4, 3093), (43, 0, 0, 0, 1055), (43, 0, 1, 1, 1056), (43, 3, 11, 3, 1171), (44, 4, 21, 4, 3095), (46, 0, 1, 0, 1057), (46, 1, 1, 1, 1099), (46, 3, 13, 3, 1173), (47, 0, 2, 1, 1058), (47, 4, 22, 4, 3096), (49, 0, 2, 0, 1059), (49, 3, 15, 3, 1175), (50, 1, 2, 1, 1101), (50, 4, 23, 4, 3097), (51, 1, 3, 1, 1103), (52, 0, 3, 0, 1061), (53, 4, 24, 4, 3098), (54, 1, 4, 1, 1105), (55, 0, 4, 0, 1062), (55, 2, 1, 3, 1025), (57, 1, 5, 1, 1107), (58, 0, 5, 0, 1064), (59, 2, 0, 3, 1024), (60, 0, 3, 1, 1060), (61, 2, 5, 0, 1033), (62, 4, 0, 4, 3074), (66, 2, 3, 3, 1029), (67, 0, 6, 1, 1067), (70, 4, 2, 4, 3076), (73, 1, 4, 3, 1106), (73, 4, 3, 4, 3077), (75, 0, 7, 1, 1069), (76, 0, 8, 1, 1071), (77, 0, 4, 1, 1063), (80, 0, 5, 1, 1065), (80, 4, 5, 4, 3079), (83, 1, 6, 3, 1110), (83, 4, 4, 4, 3078), (86, 1, 7, 3, 1112), (86, 4, 6, 4, 3080), (89, 1, 8, 3, 1114), (89, 4, 7, 4, 3081), (92, 1, 9, 3, 1116), (95, 3, 4, 3, 1164), (102, 3, 5, 3, 1165), (112, 1, 3, 3, 1104), (118, 1, 10, 3, 1118), (121, 1, 11, 3, 1120), (127, 1, 1, 3, 1100), (130, 1, 2, 3, 1102), (141, 4, 17, 4, 3091), (144, 4, 20, 4, 3094), (146, 3, 10, 3, 1170), (147, 4, 13, 4, 3087), (159, 3, 8, 3, 1168), (193, 3, 14, 3, 1174), (202, 1, 0, 3, 1098), (219, 3, 12, 3, 1172), (222, 1, 5, 3, 1108)]
/-- method links: index, method, own, kind; places of link, static or instance, selects, initialized, code -/
def g_lk_0 : List (Nat × Nat × Nat × Nat × Nat × Nat × Nat × Nat × Nat) := [(9, 5, 5, 3, 1011, 1012, 0, 1001, 1013), (11, 0, 3, 4, 1019, 1020, 0, 1002, 1021), (12, 8, 5, 3, 3062, 3063, 0, 1005, 3064), (13, 9, 5, 0, 1209, 1210, 1211, 1001, 1212), (17, 11, 5, 0, 3151, 3152, 3153, 1005, 3154), (18, 1, 3, 4, 1050, 1051, 0, 1003, 1052), (18, 12, 5, 0, 1213, 1214, 1215, 1001, 1216), (21, 14, 0, 0, 1225, 1227, 2, 1003, 1228), (22, 13, 5, 0, 3158, 3159, 3160, 1005, 3161), (23, 45, 5, 0, 1217, 1218, 1219, 1001, 1220), (24, 15, 0, 0, 1229, 1230, 1231, 1002, 1232), (25, 2, 3, 4, 1093, 1094, 0, 1004, 1095), (26, 63, 5, 0, 3162, 3163, 3164, 1005, 3165), (27, 67, 5, 0, 2106, 2107, 2108, 1001, 2109), (28, 16, 2, 0, 1237, 1239, 3, 1002, 2000), (29, 18, 0, 0, 1233, 1234, 1235, 1002, 1236), (31, 71, 5, 0, 3232, 3233, 3234, 1005, 3235), (32, 72, 5, 0, 2124, 2125, 2126, 1001, 2127), (34, 17, 2, 2, 2001, 2002, 0, 1001, 2003), (35, 30, 0, 0, 2004, 2006, 4, 1003, 2007), (35, 73, 5, 0, 4008, 4009, 4010, 1005, 4011), (36, 76, 5, 0, 2129, 2130, 2131, 1001, 2132), (38, 18, 2, 0, 2016, 1234, 1235, 1002, 1236), (39, 31, 0, 0, 2054, 2055, 2056, 1002, 2057), (39, 78, 5, 0, 4012, 4013, 4014, 1005, 4015), (40, 86, 5, 0, 2141, 2142, 2143, 1001, 2144), (41, 19, 2, 2, 2017, 2018, 0, 1001, 2019), (43, 93, 5, 0, 4020, 4021, 4022, 1005, 4023), (44, 96, 5, 0, 2178, 2179, 2180, 1001, 2181), (47, 98, 5, 0, 4049, 4050, 4051, 1005, 4052), (48, 99, 5, 0, 2190, 2191, 2192, 1001, 2193), (51, 100, 5, 0, 4057, 4058, 4059, 1005, 4060), (52, 4, 3, 0, 1152, 1154, 0, 1001, 1155), (52, 102, 5, 0, 2194, 2195, 2196, 1001, 2197), (56, 6, 4, 0, 3066, 3068, 37, 1005, 3069), (56, 103, 5, 0, 4061, 4062, 4063, 1005, 4064), (57, 104, 5, 0, 2201, 2202, 2203, 1001, 2204), (59, 7, 4, 0, 3070, 3072, 38, 1005, 3073), (60, 105, 5, 0, 4065, 4066, 4067, 1005, 4068), (61, 106, 5, 0, 2205, 2206, 2207, 1001, 2208), (62, 32, 3, 0, 1221, 1222, 1223, 1003, 1224), (63, 19, 1, 2, 2062, 2018, 0, 1001, 2019), (64, 21, 0, 0, 2008, 2010, 5, 1003, 2011), (64, 107, 5, 0, 4069, 4070, 4071, 1005, 4072), (65, 108, 5, 0, 2209, 2210, 2211, 1001, 2212)]
def g_lk_1 : List (Nat × Nat × Nat × Nat × Nat × Nat × Nat × Nat × Nat) := [(66, 10, 4, 1, 3155, 3156, 0, 1005, 3157), (68, 24, 0, 0, 2020, 2022, 6, 1003, 2023), (68, 33, 1, 0, 2063, 2065, 12, 1004, 2066), (68, 109, 5, 0, 4073, 4074, 4075, 1005, 4076), (69, 43, 3, 0, 2058, 2059, 2060, 1004, 2061), (69, 111, 5, 0, 2213, 2214, 2215, 1001, 2216), (71, 25, 0, 0, 2031, 2033, 8, 1003, 2034), (72, 42, 1, 0, 2067, 2069, 13, 1004, 2070), (72, 112, 5, 0, 4077, 4078, 4079, 1005, 4080), (73, 115, 5, 0, 2221, 2222, 2223, 1001, 2224), (74, 27, 0, 0, 2035, 2037, 9, 1003, 2038), (76, 44, 3, 0, 2102, 2103, 2104, 1004, 2105), (76, 46, 4, 0, 3170, 3172, 40, 1005, 3173), (76, 118, 5, 0, 4081, 4082, 4083, 1005, 4084), (77, 28, 0, 0, 2046, 2048, 10, 1003, 2049), (77, 119, 5, 0, 2233, 2234, 2235, 1001, 2236), (80, 29, 0, 0, 2050, 2052, 11, 1003, 2053), (80, 64, 3, 0, 2110, 2112, 20, 1001, 2113), (80, 120, 5, 0, 4093, 4094, 4095, 1005, 4096), (81, 121, 5, 0, 2237, 2238, 2239, 1001, 3000), (83, 20, 0, 0, 2012, 2013, 2014, 1002, 2015), (83, 34, 1, 1, 2071, 2072, 0, 1007, 2073), (84, 122, 5, 0, 4097, 4098, 4099, 1005, 4100), (85, 127, 5, 0, 3001, 3002, 3003, 1001, 3004), (87, 22, 0, 0, 2024, 2026, 7, 1003, 2027), (88, 129, 5, 0, 4101, 4102, 4103, 1005, 4104), (89, 35, 1, 0, 2074, 2075, 2076, 1004, 2077), (89, 130, 5, 0, 3020, 3021, 3022, 1001, 3023), (91, 23, 0, 1, 2028, 2029, 0, 1003, 2030), (92, 48, 4, 0, 3174, 3176, 41, 1005, 3177), (92, 131, 5, 0, 4108, 4109, 4110, 1005, 4111), (93, 37, 1, 0, 2078, 2080, 14, 1004, 2081), (93, 132, 5, 0, 3024, 3025, 3026, 1001, 3027), (95, 26, 0, 1, 2039, 2040, 0, 1006, 2041), (96, 47, 4, 0, 3166, 3168, 39, 1005, 3169), (96, 133, 5, 0, 4112, 4113, 4114, 1005, 4115), (97, 38, 1, 0, 2086, 2088, 16, 1004, 2089), (97, 135, 5, 0, 3028, 3029, 3030, 1001, 3031), (98, 19, 3, 1, 2114, 2018, 0, 1001, 2019), (99, 52, 4, 1, 3198, 3199, 0, 1005, 3200), (100, 137, 5, 0, 4116, 4117, 4118, 1005, 4119), (101, 39, 1, 0, 2090, 2092, 17, 1004, 2093), (101, 139, 5, 0, 3036, 3037, 3038, 1001, 3039), (103, 50, 4, 0, 3182, 3184, 43, 1005, 3185), (104, 41, 1, 0, 2094, 2096, 18, 1004, 2097)]
def g_lk_2 : List (Nat × Nat × Nat × Nat × Nat × Nat × Nat × Nat × Nat) := [(104, 141, 5, 0, 4124, 4125, 4126, 1005, 4127), (105, 66, 3, 0, 2115, 2117, 21, 1001, 2118), (105, 143, 5, 0, 3045, 3046, 3047, 1001, 3048), (107, 51, 4, 0, 3190, 3192, 45, 1005, 3193), (108, 36, 1, 0, 2082, 2084, 15, 1004, 2085), (108, 144, 5, 0, 4131, 4132, 4133, 1005, 4134), (109, 17, 3, 1, 2128, 2002, 0, 1001, 2003), (109, 145, 5, 0, 3052, 3053, 3054, 1001, 3055), (111, 40, 1, 0, 2098, 2100, 19, 1004, 2101), (111, 53, 4, 1, 3201, 3202, 0, 1005, 3203), (112, 146, 5, 0, 4135, 4136, 4137, 1005, 4138), (113, 147, 5, 0, 3056, 3057, 3058, 1001, 3059), (114, 54, 4, 0, 3194, 3196, 46, 1005, 3197), (115, 44, 1, 0, 2123, 2103, 2104, 1004, 2105), (115, 74, 3, 0, 2133, 2135, 22, 1001, 2136), (116, 148, 5, 0, 4139, 4140, 4141, 1005, 4142), (118, 55, 4, 0, 3204, 3206, 47, 1005, 3207), (119, 75, 1, 0, 2153, 2138, 2139, 1004, 2140), (122, 57, 4, 0, 3212, 3214, 49, 1005, 3215), (124, 75, 3, 0, 2137, 2138, 2139, 1004, 2140), (125, 49, 4, 0, 3178, 3180, 42, 1005, 3181), (129, 56, 4, 0, 3186, 3188, 44, 1005, 3189), (132, 58, 4, 0, 3208, 3210, 48, 1005, 3211), (133, 79, 3, 0, 2145, 2147, 23, 1001, 2148), (135, 61, 4, 0, 3216, 3218, 50, 1005, 3219), (137, 80, 3, 0, 2149, 2150, 2151, 1004, 2152), (138, 62, 4, 0, 3228, 3230, 53, 1005, 3231), (140, 84, 3, 0, 2154, 2156, 24, 1001, 2157), (143, 85, 3, 0, 2174, 2176, 28, 1001, 2177), (149, 95, 3, 0, 2182, 2184, 29, 1001, 2185), (150, 59, 4, 0, 3220, 3222, 51, 1005, 3223), (152, 101, 3, 1, 2198, 2199, 0, 1001, 2200), (154, 60, 4, 0, 3224, 3226, 52, 1005, 3227), (155, 3, 3, 0, 1156, 1158, 1, 1001, 1159), (157, 69, 4, 0, 4004, 4006, 56, 1005, 4007), (160, 68, 4, 0, 3236, 3238, 54, 1005, 3239), (162, 110, 3, 0, 2217, 2219, 31, 1001, 2220), (163, 70, 4, 0, 4000, 4002, 55, 1005, 4003), (166, 35, 3, 0, 2158, 2075, 2076, 1004, 2077), (167, 77, 4, 0, 4016, 4018, 57, 1005, 4019), (169, 83, 3, 0, 2159, 2161, 25, 1001, 2162), (170, 87, 4, 0, 4024, 4026, 58, 1005, 4027), (173, 114, 3, 0, 2225, 2227, 32, 1001, 2228), (174, 88, 4, 0, 4028, 4030, 59, 1005, 4031), (176, 123, 3, 0, 3005, 3006, 3007, 1004, 3008)]
def g_lk_3 : List (Nat × Nat × Nat × Nat × Nat × Nat × Nat × Nat × Nat) := [(177, 92, 4, 0, 4032, 4034, 60, 1005, 4035), (179, 26, 3, 1, 3009, 2040, 0, 1006, 2041), (180, 97, 4, 0, 4053, 4055, 64, 1005, 4056), (183, 89, 4, 0, 4040, 4042, 62, 1005, 4043), (184, 124, 3, 1, 3010, 3011, 0, 1001, 3012), (186, 90, 4, 0, 4036, 4038, 61, 1005, 4039), (187, 125, 3, 0, 3013, 3015, 34, 1001, 3016), (190, 91, 4, 0, 4045, 4047, 63, 1005, 4048), (190, 126, 3, 1, 3017, 3018, 0, 1001, 3019), (193, 116, 4, 0, 4089, 4091, 66, 1005, 4092), (196, 117, 4, 0, 4085, 4087, 65, 1005, 4088), (196, 134, 3, 0, 3032, 3034, 35, 1001, 3035), (199, 128, 4, 1, 4105, 4106, 0, 1005, 4107), (199, 135, 3, 0, 3040, 3029, 3030, 1001, 3031), (202, 136, 4, 0, 4120, 4122, 67, 1005, 4123), (205, 138, 3, 0, 3041, 3043, 36, 1001, 3044), (205, 140, 4, 1, 4128, 4129, 0, 1005, 4130), (213, 142, 3, 1, 3049, 3050, 0, 1001, 3051), (216, 94, 3, 0, 2186, 2188, 30, 1001, 2189), (225, 65, 3, 0, 2119, 2120, 2121, 1004, 2122), (227, 82, 3, 0, 2163, 2165, 26, 1001, 2166), (230, 81, 3, 0, 2167, 2169, 27, 1001, 2170), (233, 113, 3, 0, 2229, 2231, 33, 1001, 2232)]
def g_lk : List (Nat × Nat × Nat × Nat × Nat × Nat × Nat × Nat × Nat) := g_lk_0 ++ g_lk_1 ++ g_lk_2 ++ g_lk_3
def g_cs : List (Nat × Int32 × Nat × Nat) := [(100, 67108863, 0, 2045), (189, 99999, 4, 4044), (265, 1431655765, 6, 2042), (266, 858993459, 6, 2043), (267, 252645135, 6, 2044)]
def g_nest : List (String × Nat × MethodName) := [("SwitchBook", 11, ⟨"SwitchBook$Text", "<init>", "()V"⟩), ("SwitchBook", 18, ⟨"SwitchBook$Draft", "<init>", "()V"⟩), ("SwitchBook", 25, ⟨"SwitchBook$Net", "<init>", "()V"⟩), ("SwitchBook$Text", 34, ⟨"SwitchBook", "isName", "(I)Z"⟩), ("SwitchBook$Text", 41, ⟨"SwitchBook", "bit", "(II)I"⟩), ("SwitchBook$Net", 63, ⟨"SwitchBook", "bit", "(II)I"⟩)]
/-- Object.<init>: index, own, place of the link -/
def g_ob : List (Nat × Nat × Nat) := [(1, 4, 3065), (3, 3, 1014), (3, 0, 1053), (3, 1, 1096), (3, 2, 1022)]
/-- Math.max: index, own, place of the link -/
def g_mx : List (Nat × Nat × Nat) := [(208, 3, 2171)]
def g_mxS : Nat := 2172
def g_mxC : Nat := 2173
def g_mxI : Nat := 1008
def g_obI : Nat := 1015
def g_obC : Nat := 1016
/-- new: index, class, own; places of link, instantiable, initialized -/
def g_nw : List (Nat × Nat × Nat × Nat × Nat × Nat) := [(10, 4, 5, 3060, 3061, 1005), (16, 0, 3, 1048, 1049, 1003), (23, 1, 3, 1091, 1092, 1004), (7, 3, 5, 1009, 1010, 1001), (9, 2, 3, 1017, 1018, 1002)]
def g_ai : Nat := 1047
def g_az : Nat := 3150
end
section
/-! A small machine of its own: places instead of addresses. The state: how many cells stand, what the reference fields hold, what the int fields and the arrays hold. -/
abbrev gLo : Type := List (Option Value)
abbrev gS : Type := Nat × (Nat → Nat → Option Nat) × (Nat → Nat → Int32)
abbrev gR : Type := Option Value × gS
abbrev gX : Type := Nat × (Nat → Int32)
def g_lg : gLo → Nat → Option Value
  | [], _ => none
  | a :: _, 0 => a
  | _ :: l, k + 1 => g_lg l k
def g_ls : gLo → Nat → Value → gLo
  | [], _, _ => []
  | _ :: l, 0, v => some v :: l
  | a :: l, k + 1, v => a :: g_ls l k v
def g_up (σ : Nat → Nat → Int32) (p k : Nat) (v : Int32) : Nat → Nat → Int32 := fun q => if q = p then upd (σ q) k v else σ q
def g_ur (ρ : Nat → Nat → Option Nat) (p k : Nat) (v : Option Nat) : Nat → Nat → Option Nat := fun q j => if q = p then (if j = k then v else ρ q j) else ρ q j
def g_tyf : Nat → Nat → FieldType := fun c => match c with
  | 0 => tyX0
  | 1 => tyX1
  | 2 => tyX2
  | 3 => tyX3
  | _ => tyX4
def g_isR (c k : Nat) : Bool := match g_tyf c k with
  | .int => false
  | _ => true
def g_av (ρ : Nat → Nat → Option Nat) (σ : Nat → Nat → Int32) (p c k : Nat) : Value := if g_isR c k then va_rf (ρ p k) else .int (σ p k)
def g_sz (p : Nat) : Nat := match g_shp p with
  | .inl q => q.2
  | .inr c => match c with
    | 0 => 9
    | 1 => 14
    | 2 => 6
    | 3 => 16
    | _ => 25
def g_slots : Nat → Nat
  | 0 => 0
  | n + 1 => g_slots n + g_sz n
def g_look : List (Nat × gI) → Nat → Option gI
  | [], _ => none
  | (q, i) :: l, p => if q = p then some i else g_look l p
def g_at (m pc : Nat) : Option gI := g_look (g_code m) pc
def g_pops : Nat → List Value → List Value → Option (List Value × List Value)
  | 0, st, acc => some (acc, st)
  | n + 1, v :: st, acc => g_pops n st (v :: acc)
  | _ + 1, [], _ => none
def g_l0 (m : Nat) (A : List Value) : gLo := A.map some ++ List.replicate ((g_meth m).2.2.2.1 - A.length) none
def g_push : Option Value → List Value → List Value
  | none, r => r
  | some v, r => v :: r
def g_isZ (m : Nat) : Bool := match (g_meth m).2.2.2.2.1 with
  | some .boolean => true
  | _ => false
def g_s1 (st : List Value) (f : Int32 → List Value → Prop) : Prop := match st with
  | .int a :: r => f a r
  | _ => False
def g_sr (st : List Value) (f : Nat → List Value → Prop) : Prop := match st with
  | .ref a :: r => f a r
  | _ => False
def g_s2 (st : List Value) (f : Int32 → Int32 → List Value → Prop) : Prop := g_s1 st fun b r => g_s1 r fun a r => f a b r
def g_li (L : gLo) (k : Nat) (f : Int32 → Prop) : Prop := match g_lg L k with
  | some (.int a) => f a
  | _ => False
def g_lr (L : gLo) (k : Nat) (f : Nat → Prop) : Prop := match g_lg L k with
  | some (.ref a) => f a
  | _ => False
/-- an array's place is read -/
def g_ald (X : gX) (z : Bool) (g : gS) (p : Nat) (i : Int32) (f : Int32 → Prop) : Prop :=
  if p = 1000 then z = false ∧ vp_in i X.1 ∧ f (X.2 i.toNatClampNeg) else
  match g_shp p with
  | .inl q => q.1 = z ∧ p < g.1 ∧ vp_in i q.2 ∧ f (g.2.2 p i.toNatClampNeg)
  | .inr _ => False
def g_ast (z : Bool) (g : gS) (p : Nat) (i : Int32) (v : Int32) (f : gS → Prop) : Prop :=
  match g_shp p with
  | .inl q => q.1 = z ∧ p < g.1 ∧ vp_in i q.2 ∧ f (g.1, g.2.1, g_up g.2.2 p i.toNatClampNeg v)
  | .inr _ => False
def g_obj (g : gS) (p c : Nat) (P : Prop) : Prop := match g_shp p with
  | .inl _ => False
  | .inr d => d = c ∧ p < g.1 ∧ P
def g_tgt (pc : Nat) (d lo hi : Int) (offs : Array Int) (v : Int32) : Nat :=
  if v.toInt < lo ∨ hi < v.toInt then ((pc : Int) + d).toNat else ((pc : Int) + offs.getD (v.toInt - lo).toNat 0).toNat
abbrev gK : Type := Nat → Nat → gLo → List Value → gS → gR → Prop
def g_call (K : gK) (m pc y : Nat) (A : List Value) (L : gLo) (r : List Value) (g : gS) (rr : gR) : Prop :=
  (r.map fun v => v.category).sum ≤ 8 ∧ (A.length ≤ (g_meth y).2.2.2.1 ∧ (A.all fun v => v.category == 1) = true) ∧ ∃ (v : Option Value) (g1 : gS), K y 0 (g_l0 y A) [] g (v, g1) ∧ K m (pc + 3) L (g_push v r) g1 rr
def g_ic (c : ClassFile.Cond) (a b : Int32) : Prop := match c with
  | .eq => a = b
  | .ne => ¬ a = b
  | .lt => a < b
  | .ge => b ≤ a
  | .gt => b < a
  | .le => a ≤ b
def g_do (X : gX) (K : gK) (m pc : Nat) (i : gI) (L : gLo) (st : List Value) (g : gS) (rr : gR) : Prop :=
  match i.1 with
  | .iconst _ => K m (pc + 1) L (.int i.2.2.2 :: st) g rr
  | .bipush _ => K m (pc + 2) L (.int i.2.2.2 :: st) g rr
  | .sipush _ => K m (pc + 3) L (.int i.2.2.2 :: st) g rr
  | .ldc _ => K m (pc + 2) L (.int i.2.2.2 :: st) g rr
  | .ldc_w _ => K m (pc + 3) L (.int i.2.2.2 :: st) g rr
  | .iload k => g_li L k fun a => K m (pc + 2) L (.int a :: st) g rr
  | .iload_n k => g_li L k.val fun a => K m (pc + 1) L (.int a :: st) g rr
  | .aload k => g_lr L k fun a => K m (pc + 2) L (.ref a :: st) g rr
  | .aload_n k => g_lr L k.val fun a => K m (pc + 1) L (.ref a :: st) g rr
  | .istore k => g_s1 st fun a r => k < L.length ∧ K m (pc + 2) (g_ls L k (.int a)) r g rr
  | .istore_n k => g_s1 st fun a r => k.val < L.length ∧ K m (pc + 1) (g_ls L k.val (.int a)) r g rr
  | .astore k => g_sr st fun a r => k < L.length ∧ K m (pc + 2) (g_ls L k (.ref a)) r g rr
  | .astore_n k => g_sr st fun a r => k.val < L.length ∧ K m (pc + 1) (g_ls L k.val (.ref a)) r g rr
  | .iinc k _ => g_li L k fun a => k < L.length ∧ K m (pc + 3) (g_ls L k (.int (a + i.2.2.2))) st g rr
  | .iadd => g_s2 st fun a b r => K m (pc + 1) L (.int (a + b) :: r) g rr
  | .isub => g_s2 st fun a b r => K m (pc + 1) L (.int (a - b) :: r) g rr
  | .imul => g_s2 st fun a b r => K m (pc + 1) L (.int (a * b) :: r) g rr
  | .iand => g_s2 st fun a b r => K m (pc + 1) L (.int (a &&& b) :: r) g rr
  | .ior => g_s2 st fun a b r => K m (pc + 1) L (.int (a ||| b) :: r) g rr
  | .ixor => g_s2 st fun a b r => K m (pc + 1) L (.int (a ^^^ b) :: r) g rr
  | .ishl => g_s2 st fun a b r => K m (pc + 1) L (.int (a <<< (b &&& 31)) :: r) g rr
  | .ishr => g_s2 st fun a b r => K m (pc + 1) L (.int (a >>> (b &&& 31)) :: r) g rr
  | .iushr => g_s2 st fun a b r => K m (pc + 1) L (.int (a.toUInt32 >>> (b.toUInt32 &&& Int32.toUInt32 31)).toInt32 :: r) g rr
  | .idiv => g_s2 st fun a b r => ¬ b = 0 ∧ K m (pc + 1) L (.int (a / b) :: r) g rr
  | .irem => g_s2 st fun a b r => ¬ b = 0 ∧ K m (pc + 1) L (.int (a - a / b * b) :: r) g rr
  | .dup => match st with
    | v :: r => v.category = 1 ∧ K m (pc + 1) L (v :: v :: r) g rr
    | _ => False
  | .pop => match st with
    | v :: r => v.category = 1 ∧ K m (pc + 1) L r g rr
    | _ => False
  | .dup2 => match st with
    | v :: w :: r => v.category = 1 ∧ w.category = 1 ∧ K m (pc + 1) L (v :: w :: v :: w :: r) g rr
    | _ => False
  | .goto _ => K m i.2.1 L st g rr
  | .if_icmp c _ => g_s2 st fun a b r => (g_ic c a b → K m i.2.1 L r g rr) ∧ (¬ g_ic c a b → K m (pc + 3) L r g rr)
  | .ifCond c _ => g_s1 st fun a r => (g_ic c a 0 → K m i.2.1 L r g rr) ∧ (¬ g_ic c a 0 → K m (pc + 3) L r g rr)
  | .tableswitch d lo hi offs => g_s1 st fun a r => K m (g_tgt pc d lo hi offs a) L r g rr
  | .getfield _ => g_sr st fun p r => g_obj g p i.2.1 (K m (pc + 3) L (g_av g.2.1 g.2.2 p i.2.1 i.2.2.1 :: r) g rr)
  | .putfield _ => match st with
    | .int v :: r => g_sr r fun p r => g_obj g p i.2.1 (g_isR i.2.1 i.2.2.1 = false ∧ K m (pc + 3) L r (g.1, g.2.1, g_up g.2.2 p i.2.2.1 v) rr)
    | .ref q :: r => g_sr r fun p r => g_obj g p i.2.1 (g_isR i.2.1 i.2.2.1 = true ∧ q < 1000 ∧ K m (pc + 3) L r (g.1, g_ur g.2.1 p i.2.2.1 (some q), g.2.2) rr)
    | _ => False
  | .iaload => g_s1 st fun j r => g_sr r fun p r => g_ald X false g p j fun v => K m (pc + 1) L (.int v :: r) g rr
  | .baload => g_s1 st fun j r => g_sr r fun p r => g_ald X true g p j fun v => K m (pc + 1) L (.int v :: r) g rr
  | .iastore => g_s1 st fun v r => g_s1 r fun j r => g_sr r fun p r => g_ast false g p j v fun g1 => K m (pc + 1) L r g1 rr
  | .bastore => g_s1 st fun v r => g_s1 r fun j r => g_sr r fun p r => g_ast true g p j (v &&& 1) fun g1 => K m (pc + 1) L r g1 rr
  | .arraylength => g_sr st fun p r => if p = 1000 then K m (pc + 1) L (.int (Int32.ofNat X.1) :: r) g rr else
      match g_shp p with
      | .inl q => p < g.1 ∧ K m (pc + 1) L (.int (Int32.ofNat q.2) :: r) g rr
      | .inr _ => False
  | .new _ => g_shp g.1 = .inr i.2.1 ∧ g.1 < 47 ∧ (g.2.1 g.1 = fun _ => none) ∧ (g.2.2 g.1 = fun _ => 0) ∧ K m (pc + 3) L (.ref g.1 :: st) (g.1 + 1, g.2.1, g.2.2) rr
  | .newarray t => g_s1 st fun v r => (t = .int ∨ t = .boolean) ∧ g_shp g.1 = .inl (decide (t = .boolean), v.toNatClampNeg) ∧ ¬ v < 0 ∧ v.toNatClampNeg ≤ 2048 ∧ g.1 < 47 ∧ (g.2.2 g.1 = fun _ => 0) ∧ K m (pc + 2) L (.ref g.1 :: r) (g.1 + 1, g.2.1, g.2.2) rr
  | .invokestatic _ => if i.2.1 = 998 then (g_s2 st fun a b r => (r.map fun v => v.category).sum ≤ 8 ∧ K m (pc + 3) L (.int (if a < b then b else a) :: r) g rr) else (match g_pops i.2.2.1 st [] with
    | some (A, r) => g_call K m pc i.2.1 A L r g rr
    | none => False)
  | .invokevirtual _ => match g_pops (i.2.2.1 + 1) st [] with
    | some (.ref p :: A, r) => g_obj g p (g_meth i.2.1).1 (g_call K m pc i.2.1 (.ref p :: A) L r g rr)
    | _ => False
  | .invokespecial _ => if i.2.1 = 999 then (match st with
      | [.ref _] => K m (pc + 3) L [] g rr
      | _ => False) else (match g_pops (i.2.2.1 + 1) st [] with
      | some (.ref p :: A, r) => g_call K m pc i.2.1 (.ref p :: A) L r g rr
      | _ => False)
  | .ireturn => match st with
    | [.int v] => (g_isZ m = true → v &&& 1 = v) ∧ rr = (some (.int v), g)
    | _ => False
  | .return_ => st = [] ∧ rr = (none, g)
  | _ => False
def EvN (X : gX) : Nat → gK
  | 0 => fun _ _ _ _ _ _ => False
  | n + 1 => fun m pc L st g rr => ∃ i, g_at m pc = some i ∧ g_do X (EvN X n) m pc i L st g rr
/-- from here the method answers so -/
def Ev (X : gX) (m pc : Nat) (L : gLo) (st : List Value) (g : gS) (rr : gR) : Prop := ∃ n, EvN X n m pc L st g rr
/-- the method, called so -/
def Cl (X : gX) (y : Nat) (A : List Value) (g : gS) (v : Option Value) (g1 : gS) : Prop := (A.length ≤ (g_meth y).2.2.2.1 ∧ (A.all fun v => v.category == 1) = true) ∧ Ev X y 0 (g_l0 y A) [] g (v, g1)
theorem g_s1_mono {st : List Value} {f f' : Int32 → List Value → Prop} (h : ∀ a r, f a r → f' a r) (k : g_s1 st f) : g_s1 st f' := by
  unfold g_s1 at *
  split at k
  · exact h _ _ k
  · exact k.elim
theorem g_sr_mono {st : List Value} {f f' : Nat → List Value → Prop} (h : ∀ a r, f a r → f' a r) (k : g_sr st f) : g_sr st f' := by
  unfold g_sr at *
  split at k
  · exact h _ _ k
  · exact k.elim
theorem g_s2_mono {st : List Value} {f f' : Int32 → Int32 → List Value → Prop} (h : ∀ a b r, f a b r → f' a b r) (k : g_s2 st f) : g_s2 st f' := g_s1_mono (fun _ _ k => g_s1_mono (fun _ _ k => h _ _ _ k) k) k
theorem g_li_mono {L : gLo} {k : Nat} {f f' : Int32 → Prop} (h : ∀ a, f a → f' a) (q : g_li L k f) : g_li L k f' := by
  unfold g_li at *
  split at q
  · exact h _ q
  · exact q.elim
theorem g_lr_mono {L : gLo} {k : Nat} {f f' : Nat → Prop} (h : ∀ a, f a → f' a) (q : g_lr L k f) : g_lr L k f' := by
  unfold g_lr at *
  split at q
  · exact h _ q
  · exact q.elim
theorem g_ald_mono {X : gX} {z : Bool} {g : gS} {p : Nat} {i : Int32} {f f' : Int32 → Prop} (h : ∀ a, f a → f' a) (q : g_ald X z g p i f) : g_ald X z g p i f' := by
  unfold g_ald at *
  split at q
  · rw [if_pos (by assumption)]
    exact ⟨q.1, q.2.1, h _ q.2.2⟩
  · rw [if_neg (by assumption)]
    split at q
    · exact ⟨q.1, q.2.1, q.2.2.1, h _ q.2.2.2⟩
    · exact q.elim
theorem g_ast_mono {z : Bool} {g : gS} {p : Nat} {i v : Int32} {f f' : gS → Prop} (h : ∀ a, f a → f' a) (q : g_ast z g p i v f) : g_ast z g p i v f' := by
  unfold g_ast at *
  split at q
  · exact ⟨q.1, q.2.1, q.2.2.1, h _ q.2.2.2⟩
  · exact q.elim
theorem g_obj_mono {g : gS} {p c : Nat} {P P' : Prop} (h : P → P') (q : g_obj g p c P) : g_obj g p c P' := by
  unfold g_obj at *
  split at q
  · exact q.elim
  · exact ⟨q.1, q.2.1, h q.2.2⟩
theorem g_call_mono {K K' : gK} (h : ∀ m pc L st g rr, K m pc L st g rr → K' m pc L st g rr) {m pc y : Nat} {A : List Value} {L : gLo} {r : List Value} {g : gS} {rr : gR} (q : g_call K m pc y A L r g rr) : g_call K' m pc y A L r g rr := by
  obtain ⟨h1, h2, v, g1, h3, h4⟩ := q
  exact ⟨h1, h2, v, g1, h _ _ _ _ _ _ h3, h _ _ _ _ _ _ h4⟩
set_option maxHeartbeats 4000000 in
theorem g_do_mono {X : gX} {K K' : gK} (h : ∀ m pc L st g rr, K m pc L st g rr → K' m pc L st g rr) {m pc : Nat} {i : gI} {L : gLo} {st : List Value} {g : gS} {rr : gR} (q : g_do X K m pc i L st g rr) : g_do X K' m pc i L st g rr := by
  obtain ⟨ins, a, b, z⟩ := i
  cases ins
  case iconst => exact h _ _ _ _ _ _ q
  case bipush => exact h _ _ _ _ _ _ q
  case sipush => exact h _ _ _ _ _ _ q
  case ldc => exact h _ _ _ _ _ _ q
  case ldc_w => exact h _ _ _ _ _ _ q
  case iload => exact g_li_mono (fun _ => h _ _ _ _ _ _) q
  case iload_n => exact g_li_mono (fun _ => h _ _ _ _ _ _) q
  case aload => exact g_lr_mono (fun _ => h _ _ _ _ _ _) q
  case aload_n => exact g_lr_mono (fun _ => h _ _ _ _ _ _) q
  case istore => exact g_s1_mono (fun _ _ k => ⟨k.1, h _ _ _ _ _ _ k.2⟩) q
  case istore_n => exact g_s1_mono (fun _ _ k => ⟨k.1, h _ _ _ _ _ _ k.2⟩) q
  case astore => exact g_sr_mono (fun _ _ k => ⟨k.1, h _ _ _ _ _ _ k.2⟩) q
  case astore_n => exact g_sr_mono (fun _ _ k => ⟨k.1, h _ _ _ _ _ _ k.2⟩) q
  case iinc => exact g_li_mono (fun _ k => ⟨k.1, h _ _ _ _ _ _ k.2⟩) q
  case iadd => exact g_s2_mono (fun _ _ _ => h _ _ _ _ _ _) q
  case isub => exact g_s2_mono (fun _ _ _ => h _ _ _ _ _ _) q
  case imul => exact g_s2_mono (fun _ _ _ => h _ _ _ _ _ _) q
  case iand => exact g_s2_mono (fun _ _ _ => h _ _ _ _ _ _) q
  case ior => exact g_s2_mono (fun _ _ _ => h _ _ _ _ _ _) q
  case ixor => exact g_s2_mono (fun _ _ _ => h _ _ _ _ _ _) q
  case ishl => exact g_s2_mono (fun _ _ _ => h _ _ _ _ _ _) q
  case ishr => exact g_s2_mono (fun _ _ _ => h _ _ _ _ _ _) q
  case iushr => exact g_s2_mono (fun _ _ _ => h _ _ _ _ _ _) q
  case idiv => exact g_s2_mono (fun _ _ _ k => ⟨k.1, h _ _ _ _ _ _ k.2⟩) q
  case irem => exact g_s2_mono (fun _ _ _ k => ⟨k.1, h _ _ _ _ _ _ k.2⟩) q
  case dup =>
    match st, q with
    | v :: r, q => exact ⟨q.1, h _ _ _ _ _ _ q.2⟩
  case pop =>
    match st, q with
    | v :: r, q => exact ⟨q.1, h _ _ _ _ _ _ q.2⟩
  case dup2 =>
    match st, q with
    | v :: w :: r, q => exact ⟨q.1, q.2.1, h _ _ _ _ _ _ q.2.2⟩
  case goto => exact h _ _ _ _ _ _ q
  case if_icmp => exact g_s2_mono (fun _ _ _ k => ⟨fun c => h _ _ _ _ _ _ (k.1 c), fun c => h _ _ _ _ _ _ (k.2 c)⟩) q
  case ifCond => exact g_s1_mono (fun _ _ k => ⟨fun c => h _ _ _ _ _ _ (k.1 c), fun c => h _ _ _ _ _ _ (k.2 c)⟩) q
  case tableswitch => exact g_s1_mono (fun _ _ => h _ _ _ _ _ _) q
  case getfield => exact g_sr_mono (fun _ _ => g_obj_mono (h _ _ _ _ _ _)) q
  case putfield =>
    match st, q with
    | .int v :: r, q => exact g_sr_mono (fun _ _ => g_obj_mono (fun k => ⟨k.1, h _ _ _ _ _ _ k.2⟩)) q
    | .ref v :: r, q => exact g_sr_mono (fun _ _ => g_obj_mono (fun k => ⟨k.1, k.2.1, h _ _ _ _ _ _ k.2.2⟩)) q
  case iaload => exact g_s1_mono (fun _ _ => g_sr_mono (fun _ _ => g_ald_mono (fun _ => h _ _ _ _ _ _))) q
  case baload => exact g_s1_mono (fun _ _ => g_sr_mono (fun _ _ => g_ald_mono (fun _ => h _ _ _ _ _ _))) q
  case iastore => exact g_s1_mono (fun _ _ => g_s1_mono (fun _ _ => g_sr_mono (fun _ _ => g_ast_mono (fun _ => h _ _ _ _ _ _)))) q
  case bastore => exact g_s1_mono (fun _ _ => g_s1_mono (fun _ _ => g_sr_mono (fun _ _ => g_ast_mono (fun _ => h _ _ _ _ _ _)))) q
  case arraylength =>
    refine g_sr_mono (fun p r k => ?_) q
    by_cases hp : p = 1000
    · rw [if_pos hp] at k ⊢
      exact h _ _ _ _ _ _ k
    · rw [if_neg hp] at k ⊢
      split at k
      · exact ⟨k.1, h _ _ _ _ _ _ k.2⟩
      · exact k.elim
  case new => exact ⟨q.1, q.2.1, q.2.2.1, q.2.2.2.1, h _ _ _ _ _ _ q.2.2.2.2⟩
  case newarray => exact g_s1_mono (fun _ _ k => ⟨k.1, k.2.1, k.2.2.1, k.2.2.2.1, k.2.2.2.2.1, k.2.2.2.2.2.1, h _ _ _ _ _ _ k.2.2.2.2.2.2⟩) q
  case invokestatic =>
    simp only [g_do] at q ⊢
    split at q
    · rw [if_pos (by assumption)]
      exact g_s2_mono (fun _ _ _ k => ⟨k.1, h _ _ _ _ _ _ k.2⟩) q
    · rw [if_neg (by assumption)]
      split at q
      · exact g_call_mono h q
      · exact q.elim
  case invokevirtual =>
    simp only [g_do] at q ⊢
    split at q
    · exact g_obj_mono (g_call_mono h) q
    · exact q.elim
  case invokespecial =>
    simp only [g_do] at q ⊢
    split at q
    · rw [if_pos (by assumption)]
      split at q
      · exact h _ _ _ _ _ _ q
      · exact q.elim
    · rw [if_neg (by assumption)]
      split at q
      · exact g_call_mono h q
      · exact q.elim
  case ireturn => exact q
  case return_ => exact q
  all_goals exact q
theorem EvN_succ {X : gX} : ∀ (n : Nat) {m pc : Nat} {L : gLo} {st : List Value} {g : gS} {rr : gR}, EvN X n m pc L st g rr → EvN X (n + 1) m pc L st g rr
  | 0, _, _, _, _, _, _, h => h.elim
  | n + 1, _, _, _, _, _, _, h => by
    obtain ⟨i, h1, h2⟩ := h
    exact ⟨i, h1, g_do_mono (fun _ _ _ _ _ _ k => EvN_succ n k) h2⟩
theorem EvN_le {X : gX} {n k : Nat} (hk : n ≤ k) {m pc : Nat} {L : gLo} {st : List Value} {g : gS} {rr : gR} (h : EvN X n m pc L st g rr) : EvN X k m pc L st g rr := by
  induction hk with
  | refl => exact h
  | step _ ih => exact EvN_succ _ ih
theorem Ev_max {X : gX} {m pc m' pc' : Nat} {L L' : gLo} {st st' : List Value} {g g' : gS} {rr rr' : gR} (h : Ev X m pc L st g rr) (h' : Ev X m' pc' L' st' g' rr') : ∃ n, EvN X n m pc L st g rr ∧ EvN X n m' pc' L' st' g' rr' := by
  obtain ⟨a, ha⟩ := h
  obtain ⟨b, hb⟩ := h'
  exact ⟨max a b, EvN_le (Nat.le_max_left _ _) ha, EvN_le (Nat.le_max_right _ _) hb⟩
theorem g_call_ev {X : gX} {m pc y : Nat} {A : List Value} {L : gLo} {r : List Value} {g : gS} {rr : gR} (q : g_call (Ev X) m pc y A L r g rr) : ∃ n, g_call (EvN X n) m pc y A L r g rr := by
  obtain ⟨h1, h2, v, g1, h3, h4⟩ := q
  obtain ⟨n, h5, h6⟩ := Ev_max h3 h4
  exact ⟨n, h1, h2, v, g1, h5, h6⟩
theorem g_br_ev {X : gX} {c : Prop} {m pc m' pc' : Nat} {L L' : gLo} {st st' : List Value} {g g' : gS} {rr rr' : gR} (q : (c → Ev X m pc L st g rr) ∧ (¬ c → Ev X m' pc' L' st' g' rr')) : ∃ n, (c → EvN X n m pc L st g rr) ∧ (¬ c → EvN X n m' pc' L' st' g' rr') := by
  by_cases hc : c
  · obtain ⟨n, h⟩ := q.1 hc
    exact ⟨n, fun _ => h, fun k => absurd hc k⟩
  · obtain ⟨n, h⟩ := q.2 hc
    exact ⟨n, fun k => absurd k hc, fun _ => h⟩
theorem g_s1_ex {st : List Value} {f : Nat → Int32 → List Value → Prop} {f' : Int32 → List Value → Prop} (h : ∀ a r, f' a r → ∃ n, f n a r) (k : g_s1 st f') : ∃ n, g_s1 st (f n) := by
  unfold g_s1 at *
  split at k
  · exact h _ _ k
  · exact k.elim
theorem g_sr_ex {st : List Value} {f : Nat → Nat → List Value → Prop} {f' : Nat → List Value → Prop} (h : ∀ a r, f' a r → ∃ n, f n a r) (k : g_sr st f') : ∃ n, g_sr st (f n) := by
  unfold g_sr at *
  split at k
  · exact h _ _ k
  · exact k.elim
theorem g_li_ex {L : gLo} {k : Nat} {f : Nat → Int32 → Prop} {f' : Int32 → Prop} (h : ∀ a, f' a → ∃ n, f n a) (q : g_li L k f') : ∃ n, g_li L k (f n) := by
  unfold g_li at *
  split at q
  · exact h _ q
  · exact q.elim
theorem g_lr_ex {L : gLo} {k : Nat} {f : Nat → Nat → Prop} {f' : Nat → Prop} (h : ∀ a, f' a → ∃ n, f n a) (q : g_lr L k f') : ∃ n, g_lr L k (f n) := by
  unfold g_lr at *
  split at q
  · exact h _ q
  · exact q.elim
theorem g_s2_ex {st : List Value} {f : Nat → Int32 → Int32 → List Value → Prop} {f' : Int32 → Int32 → List Value → Prop} (h : ∀ a b r, f' a b r → ∃ n, f n a b r) (k : g_s2 st f') : ∃ n, g_s2 st (f n) :=
  g_s1_ex (f := fun n b r => g_s1 r fun a r => f n a b r) (fun _ _ k => g_s1_ex (fun _ _ k => h _ _ _ k) k) k
theorem g_ald_ex {X : gX} {z : Bool} {g : gS} {p : Nat} {i : Int32} {f : Nat → Int32 → Prop} {f' : Int32 → Prop} (h : ∀ a, f' a → ∃ n, f n a) (q : g_ald X z g p i f') : ∃ n, g_ald X z g p i (f n) := by
  unfold g_ald at *
  split at q
  · obtain ⟨n, k⟩ := h _ q.2.2
    exact ⟨n, by rw [if_pos (by assumption)]; exact ⟨q.1, q.2.1, k⟩⟩
  · split at q
    · obtain ⟨n, k⟩ := h _ q.2.2.2
      exact ⟨n, by rw [if_neg (by assumption)]; exact ⟨q.1, q.2.1, q.2.2.1, k⟩⟩
    · exact q.elim
theorem g_ast_ex {z : Bool} {g : gS} {p : Nat} {i v : Int32} {f : Nat → gS → Prop} {f' : gS → Prop} (h : ∀ a, f' a → ∃ n, f n a) (q : g_ast z g p i v f') : ∃ n, g_ast z g p i v (f n) := by
  unfold g_ast at *
  split at q
  · obtain ⟨n, k⟩ := h _ q.2.2.2
    exact ⟨n, q.1, q.2.1, q.2.2.1, k⟩
  · exact q.elim
theorem g_obj_ex {g : gS} {p c : Nat} {P : Nat → Prop} {P' : Prop} (h : P' → ∃ n, P n) (q : g_obj g p c P') : ∃ n, g_obj g p c (P n) := by
  unfold g_obj at *
  split at q
  · exact q.elim
  · obtain ⟨n, k⟩ := h q.2.2
    exact ⟨n, q.1, q.2.1, k⟩
set_option maxHeartbeats 4000000 in
theorem g_do_ev {X : gX} {m pc : Nat} {i : gI} {L : gLo} {st : List Value} {g : gS} {rr : gR} (q : g_do X (Ev X) m pc i L st g rr) : ∃ n, g_do X (EvN X n) m pc i L st g rr := by
  obtain ⟨ins, a, b, z⟩ := i
  cases ins
  case iload => exact g_li_ex (f := fun n a => EvN X n m (pc + 2) L (.int a :: st) g rr) (fun _ k => k) q
  case iload_n => exact g_li_ex (f := fun n a => EvN X n m (pc + 1) L (.int a :: st) g rr) (fun _ k => k) q
  case aload => exact g_lr_ex (f := fun n a => EvN X n m (pc + 2) L (.ref a :: st) g rr) (fun _ k => k) q
  case aload_n => exact g_lr_ex (f := fun n a => EvN X n m (pc + 1) L (.ref a :: st) g rr) (fun _ k => k) q
  case istore k => exact g_s1_ex (f := fun n a r => k < L.length ∧ EvN X n m (pc + 2) (g_ls L k (.int a)) r g rr) (fun _ _ ⟨k1, n, k2⟩ => ⟨n, k1, k2⟩) q
  case istore_n k => exact g_s1_ex (f := fun n a r => k.val < L.length ∧ EvN X n m (pc + 1) (g_ls L k.val (.int a)) r g rr) (fun _ _ ⟨k1, n, k2⟩ => ⟨n, k1, k2⟩) q
  case astore k => exact g_sr_ex (f := fun n a r => k < L.length ∧ EvN X n m (pc + 2) (g_ls L k (.ref a)) r g rr) (fun _ _ ⟨k1, n, k2⟩ => ⟨n, k1, k2⟩) q
  case astore_n k => exact g_sr_ex (f := fun n a r => k.val < L.length ∧ EvN X n m (pc + 1) (g_ls L k.val (.ref a)) r g rr) (fun _ _ ⟨k1, n, k2⟩ => ⟨n, k1, k2⟩) q
  case iinc k _ => exact g_li_ex (f := fun n a => k < L.length ∧ EvN X n m (pc + 3) (g_ls L k (.int (a + z))) st g rr) (fun _ ⟨k1, n, k2⟩ => ⟨n, k1, k2⟩) q
  case iadd => exact g_s2_ex (f := fun n a b r => EvN X n m (pc + 1) L (.int (a + b) :: r) g rr) (fun _ _ _ k => k) q
  case isub => exact g_s2_ex (f := fun n a b r => EvN X n m (pc + 1) L (.int (a - b) :: r) g rr) (fun _ _ _ k => k) q
  case imul => exact g_s2_ex (f := fun n a b r => EvN X n m (pc + 1) L (.int (a * b) :: r) g rr) (fun _ _ _ k => k) q
  case iand => exact g_s2_ex (f := fun n a b r => EvN X n m (pc + 1) L (.int (a &&& b) :: r) g rr) (fun _ _ _ k => k) q
  case ior => exact g_s2_ex (f := fun n a b r => EvN X n m (pc + 1) L (.int (a ||| b) :: r) g rr) (fun _ _ _ k => k) q
  case ixor => exact g_s2_ex (f := fun n a b r => EvN X n m (pc + 1) L (.int (a ^^^ b) :: r) g rr) (fun _ _ _ k => k) q
  case ishl => exact g_s2_ex (f := fun n a b r => EvN X n m (pc + 1) L (.int (a <<< (b &&& 31)) :: r) g rr) (fun _ _ _ k => k) q
  case ishr => exact g_s2_ex (f := fun n a b r => EvN X n m (pc + 1) L (.int (a >>> (b &&& 31)) :: r) g rr) (fun _ _ _ k => k) q
  case iushr => exact g_s2_ex (f := fun n a b r => EvN X n m (pc + 1) L (.int (a.toUInt32 >>> (b.toUInt32 &&& Int32.toUInt32 31)).toInt32 :: r) g rr) (fun _ _ _ k => k) q
  case idiv => exact g_s2_ex (f := fun n a b r => ¬ b = 0 ∧ EvN X n m (pc + 1) L (.int (a / b) :: r) g rr) (fun _ _ _ ⟨k1, n, k2⟩ => ⟨n, k1, k2⟩) q
  case irem => exact g_s2_ex (f := fun n a b r => ¬ b = 0 ∧ EvN X n m (pc + 1) L (.int (a - a / b * b) :: r) g rr) (fun _ _ _ ⟨k1, n, k2⟩ => ⟨n, k1, k2⟩) q
  case dup =>
    match st, q with
    | v :: r, ⟨k1, n, k2⟩ => exact ⟨n, k1, k2⟩
  case pop =>
    match st, q with
    | v :: r, ⟨k1, n, k2⟩ => exact ⟨n, k1, k2⟩
  case dup2 =>
    match st, q with
    | v :: w :: r, ⟨k1, k2, n, k3⟩ => exact ⟨n, k1, k2, k3⟩
  case if_icmp c _ => exact g_s2_ex (f := fun n x y r => (g_ic c x y → EvN X n m a L r g rr) ∧ (¬ g_ic c x y → EvN X n m (pc + 3) L r g rr)) (fun _ _ _ k => g_br_ev k) q
  case ifCond c _ => exact g_s1_ex (f := fun n x r => (g_ic c x 0 → EvN X n m a L r g rr) ∧ (¬ g_ic c x 0 → EvN X n m (pc + 3) L r g rr)) (fun _ _ k => g_br_ev k) q
  case tableswitch d lo hi offs => exact g_s1_ex (f := fun n x r => EvN X n m (g_tgt pc d lo hi offs x) L r g rr) (fun _ _ k => k) q
  case getfield => exact g_sr_ex (f := fun n p r => g_obj g p a (EvN X n m (pc + 3) L (g_av g.2.1 g.2.2 p a b :: r) g rr)) (fun _ _ k => g_obj_ex (fun k => k) k) q
  case putfield =>
    match st, q with
    | .int v :: r, q => exact g_sr_ex (f := fun n p r => g_obj g p a (g_isR a b = false ∧ EvN X n m (pc + 3) L r (g.1, g.2.1, g_up g.2.2 p b v) rr)) (fun _ _ k => g_obj_ex (fun ⟨k1, n, k2⟩ => ⟨n, k1, k2⟩) k) q
    | .ref v :: r, q => exact g_sr_ex (f := fun n p r => g_obj g p a (g_isR a b = true ∧ v < 1000 ∧ EvN X n m (pc + 3) L r (g.1, g_ur g.2.1 p b (some v), g.2.2) rr)) (fun _ _ k => g_obj_ex (fun ⟨k1, k3, n, k2⟩ => ⟨n, k1, k3, k2⟩) k) q
  case iaload => exact g_s1_ex (f := fun n j r => g_sr r fun p r => g_ald X false g p j fun v => EvN X n m (pc + 1) L (.int v :: r) g rr) (fun j _ k => g_sr_ex (f := fun n p r => g_ald X false g p j fun v => EvN X n m (pc + 1) L (.int v :: r) g rr) (fun _ r k => g_ald_ex (f := fun n v => EvN X n m (pc + 1) L (.int v :: r) g rr) (fun _ k => k) k) k) q
  case baload => exact g_s1_ex (f := fun n j r => g_sr r fun p r => g_ald X true g p j fun v => EvN X n m (pc + 1) L (.int v :: r) g rr) (fun j _ k => g_sr_ex (f := fun n p r => g_ald X true g p j fun v => EvN X n m (pc + 1) L (.int v :: r) g rr) (fun _ r k => g_ald_ex (f := fun n v => EvN X n m (pc + 1) L (.int v :: r) g rr) (fun _ k => k) k) k) q
  case iastore => exact g_s1_ex (f := fun n v r => g_s1 r fun j r => g_sr r fun p r => g_ast false g p j v fun g1 => EvN X n m (pc + 1) L r g1 rr) (fun v _ k => g_s1_ex (f := fun n j r => g_sr r fun p r => g_ast false g p j v fun g1 => EvN X n m (pc + 1) L r g1 rr) (fun j _ k => g_sr_ex (f := fun n p r => g_ast false g p j v fun g1 => EvN X n m (pc + 1) L r g1 rr) (fun _ r k => g_ast_ex (f := fun n g1 => EvN X n m (pc + 1) L r g1 rr) (fun _ k => k) k) k) k) q
  case bastore => exact g_s1_ex (f := fun n v r => g_s1 r fun j r => g_sr r fun p r => g_ast true g p j (v &&& 1) fun g1 => EvN X n m (pc + 1) L r g1 rr) (fun v _ k => g_s1_ex (f := fun n j r => g_sr r fun p r => g_ast true g p j (v &&& 1) fun g1 => EvN X n m (pc + 1) L r g1 rr) (fun j _ k => g_sr_ex (f := fun n p r => g_ast true g p j (v &&& 1) fun g1 => EvN X n m (pc + 1) L r g1 rr) (fun _ r k => g_ast_ex (f := fun n g1 => EvN X n m (pc + 1) L r g1 rr) (fun _ k => k) k) k) k) q
  case arraylength =>
    refine g_sr_ex (f := fun n p r => if p = 1000 then EvN X n m (pc + 1) L (.int (Int32.ofNat X.1) :: r) g rr else
      match g_shp p with
      | .inl q => p < g.1 ∧ EvN X n m (pc + 1) L (.int (Int32.ofNat q.2) :: r) g rr
      | .inr _ => False) (fun p r k => ?_) q
    by_cases hp : p = 1000
    · rw [if_pos hp] at k
      obtain ⟨n, k⟩ := k
      exact ⟨n, by rw [if_pos hp]; exact k⟩
    · rw [if_neg hp] at k
      split at k
      · obtain ⟨k1, n, k⟩ := k
        exact ⟨n, by rw [if_neg hp]; exact ⟨k1, k⟩⟩
      · exact k.elim
  case new =>
    obtain ⟨k1, k2, k3, k4, n, k⟩ := q
    exact ⟨n, k1, k2, k3, k4, k⟩
  case newarray t => exact g_s1_ex (f := fun n v r => (t = .int ∨ t = .boolean) ∧ g_shp g.1 = .inl (decide (t = .boolean), v.toNatClampNeg) ∧ ¬ v < 0 ∧ v.toNatClampNeg ≤ 2048 ∧ g.1 < 47 ∧ (g.2.2 g.1 = fun _ => 0) ∧ EvN X n m (pc + 2) L (.ref g.1 :: r) (g.1 + 1, g.2.1, g.2.2) rr) (fun _ _ ⟨k1, k2, k3, k4, k5, k6, n, k⟩ => ⟨n, k1, k2, k3, k4, k5, k6, k⟩) q
  case invokestatic =>
    simp only [g_do] at q ⊢
    by_cases hp : a = 998
    · simp only [if_pos hp] at q ⊢
      exact g_s2_ex (f := fun n a b r => (r.map fun v => v.category).sum ≤ 8 ∧ EvN X n m (pc + 3) L (.int (if a < b then b else a) :: r) g rr) (fun _ _ _ ⟨k1, n, k2⟩ => ⟨n, k1, k2⟩) q
    · simp only [if_neg hp] at q ⊢
      split at q
      · exact g_call_ev q
      · exact q.elim
  case invokevirtual =>
    simp only [g_do] at q ⊢
    split at q
    · exact g_obj_ex g_call_ev q
    · exact q.elim
  case invokespecial =>
    simp only [g_do] at q ⊢
    split at q
    · split at q
      · obtain ⟨n, k⟩ := q
        exact ⟨n, by rw [if_pos (by assumption)]; exact k⟩
      · exact q.elim
    · split at q
      · obtain ⟨n, k⟩ := g_call_ev q
        exact ⟨n, by rw [if_neg (by assumption)]; exact k⟩
      · exact q.elim
  case ireturn => exact ⟨0, q⟩
  case return_ => exact ⟨0, q⟩
  all_goals first | exact q | exact ⟨0, q⟩
theorem ev_i {X : gX} {m pc : Nat} {i : gI} {L : gLo} {st : List Value} {g : gS} {rr : gR} (ht : g_at m pc = some i) (q : g_do X (Ev X) m pc i L st g rr) : Ev X m pc L st g rr := by
  obtain ⟨n, h⟩ := g_do_ev q
  exact ⟨n + 1, i, ht, h⟩
end
section
/-! What the tables must say of each row of the code; held by the kernel. -/
def g_tbl : List Jvm.Cond := lw_tbl.filter goodWord
def g_sub (k : Nat) : List Jvm.Cond := match k with
  | 0 => k2_sels lw_privs
  | 1 => tables_1_1
  | 2 => tables_1_2
  | 3 => tables_1_3
  | _ => tables_1_4
theorem g_sub_in {k : Nat} {w : Jvm.Cond} (h : w ∈ g_sub k) : w ∈ lw_tbl := by
  unfold g_sub at h
  unfold lw_tbl tables_1
  split at h <;> simp [h]
def g_mem (p : Nat) (w : Jvm.Cond) : Bool := decide ((g_sub (p / 1000))[p % 1000]? = some w) && goodWord w
theorem g_memT {p : Nat} {w : Jvm.Cond} (h : g_mem p w = true) : w ∈ g_tbl := by
  simp only [g_mem, Bool.and_eq_true, decide_eq_true_eq] at h
  exact List.mem_filter.mpr ⟨g_sub_in (List.mem_of_getElem? h.1), h.2⟩
def g_nm (c : Nat) : String := g_CN.getD c ""
def g_own (m : Nat) : String := g_nm (g_meth m).1
/-- a field link -/
def g_okF (e : Nat × Nat × Nat × Nat × Nat) : Bool := match g_cls[e.2.1]? with
  | some q => decide (e.2.2.1 < q.2.2) && g_mem e.2.2.2.2 (.fieldLink (g_nm e.2.2.2.1) e.1 (q.2.1 e.2.2.1).1 (q.2.1 e.2.2.1).2.1 (q.2.1 e.2.2.1).2.2.1)
  | none => false
/-- a method link -/
def g_okL (e : Nat × Nat × Nat × Nat × Nat × Nat × Nat × Nat × Nat) : Bool :=
  let own := g_nm e.2.2.1
  let M := g_meth e.2.1
  let y := M.2.1
  decide (y.cls = g_nm M.1) && g_mem e.2.2.2.2.2.2.2.2 (.code y M.2.2.1 M.2.2.2.1 M.2.2.2.2.1) && g_mem e.2.2.2.2.2.2.2.1 (.initialized y.cls) &&
  decide (y.cls ≠ "java/lang/invoke/MethodHandle") && decide (y.cls ≠ "java/lang/invoke/VarHandle") && plainName y.cls && decide ((parseMethodDescriptor y.desc).map (fun d => d.parameters.length) = some M.2.2.2.2.2.2.2) &&
  (match e.2.2.2.1 with
  | 0 => g_mem e.2.2.2.2.1 (.methodLink own e.1 y) && g_mem e.2.2.2.2.2.1 (.instanceMethod y) && g_mem e.2.2.2.2.2.2.1 (.selects y.cls y y)
  | 1 => g_mem e.2.2.2.2.1 (.methodLink own e.1 y) && g_mem e.2.2.2.2.2.1 (.static y)
  | 2 => decide ((own, e.1, y) ∈ g_nest) && g_mem e.2.2.2.2.2.1 (.static y)
  | 3 => g_mem e.2.2.2.2.1 (.methodLink own e.1 y) && g_mem e.2.2.2.2.2.1 (.instanceMethod y) && decide (y.name = "<init>") && decide (M.2.2.2.2.1 = none)
  | _ => decide ((own, e.1, y) ∈ g_nest) && g_mem e.2.2.2.2.2.1 (.instanceMethod y) && decide (y.name = "<init>") && decide (M.2.2.2.2.1 = none))
theorem g_fl_ok : ∀ e ∈ g_fl, g_okF e = true := by decide +kernel
theorem g_lk_ok0 : ∀ e ∈ g_lk_0, g_okL e = true := by decide +kernel
theorem g_lk_ok1 : ∀ e ∈ g_lk_1, g_okL e = true := by decide +kernel
theorem g_lk_ok2 : ∀ e ∈ g_lk_2, g_okL e = true := by decide +kernel
theorem g_lk_ok3 : ∀ e ∈ g_lk_3, g_okL e = true := by decide +kernel
theorem g_lk_ok : ∀ e ∈ g_lk, g_okL e = true := by
  intro e he
  simp only [g_lk, List.mem_append] at he
  rcases he with ((he | he) | he) | he
  · exact g_lk_ok0 e he
  · exact g_lk_ok1 e he
  · exact g_lk_ok2 e he
  · exact g_lk_ok3 e he
def g_okC (e : Nat × Int32 × Nat × Nat) : Bool := g_mem e.2.2.2 (.constant (g_nm e.2.2.1) e.1 e.2.1)
theorem g_cs_ok : ∀ e ∈ g_cs, g_okC e = true := by decide +kernel
def g_okO (e : Nat × Nat × Nat) : Bool := g_mem e.2.2 (.methodLink (g_nm e.2.1) e.1 objectInit)
theorem g_ob_ok : ∀ e ∈ g_ob, g_okO e = true := by decide +kernel
theorem g_obI_ok : g_mem g_obI (.instanceMethod objectInit) = true := by decide +kernel
theorem g_obC_ok : g_mem g_obC (.code objectInit ⟨#[0xb1]⟩ 1 none) = true := by decide +kernel
def g_okX (e : Nat × Nat × Nat) : Bool := g_mem e.2.2 (.methodLink (g_nm e.2.1) e.1 Lib.Math.max.name)
theorem g_mx_ok : ∀ e ∈ g_mx, g_okX e = true := by decide +kernel
theorem g_mxS_ok : g_mem g_mxS (.static Lib.Math.max.name) = true := by decide +kernel
theorem g_mxI_ok : g_mem g_mxI (.initialized "java/lang/Math") = true := by decide +kernel
theorem g_mxC_ok : g_mem g_mxC (.code Lib.Math.max.name Lib.Math.max.code 2 (some .int)) = true := by decide +kernel
def g_okN (e : Nat × Nat × Nat × Nat × Nat × Nat) : Bool := match g_cls[e.2.1]? with
  | some q => g_mem e.2.2.2.1 (.classLink (g_nm e.2.2.1) e.1 q.1) && g_mem e.2.2.2.2.1 (.instantiable q.1 q.2.2) && g_mem e.2.2.2.2.2 (.initialized q.1)
  | none => false
theorem g_nw_ok : ∀ e ∈ g_nw, g_okN e = true := by decide +kernel
theorem g_ai_ok : g_mem g_ai (.arrayClass .int) = true := by decide +kernel
theorem g_az_ok : g_mem g_az (.arrayClass .boolean) = true := by decide +kernel
/-- a row of the code -/
def g_okI (m : Nat) (e : Nat × gI) : Bool :=
  let M := g_meth m
  let pc := e.1
  let D := decode M.2.2.1 pc
  let a := e.2.2.1
  let b := e.2.2.2.1
  let z := e.2.2.2.2
  match e.2.1 with
  | .iconst v => decide (D = .ok (.iconst v, 1)) && decide (Int32.ofInt v = z)
  | .bipush v => decide (D = .ok (.bipush v, 2)) && decide ((Int8.ofInt v).toInt32 = z)
  | .sipush v => decide (D = .ok (.sipush v, 3)) && decide ((Int16.ofInt v).toInt32 = z)
  | .ldc k => decide (D = .ok (.ldc k, 2)) && g_cs.any (fun q => decide (q.1 = k) && decide (q.2.1 = z) && decide (q.2.2.1 = M.1))
  | .ldc_w k => decide (D = .ok (.ldc_w k, 3)) && g_cs.any (fun q => decide (q.1 = k) && decide (q.2.1 = z) && decide (q.2.2.1 = M.1))
  | .iload k => decide (D = .ok (.iload k, 2))
  | .aload k => decide (D = .ok (.aload k, 2))
  | .istore k => decide (D = .ok (.istore k, 2))
  | .astore k => decide (D = .ok (.astore k, 2))
  | .iinc k v => decide (D = .ok (.iinc k v, 3)) && decide (Int32.ofInt v = z)
  | .goto o => decide (D = .ok (.goto o, 3)) && decide ((pc : Int) + o = (a : Int))
  | .if_icmp c o => decide (D = .ok (.if_icmp c o, 3)) && decide ((pc : Int) + o = (a : Int))
  | .ifCond c o => decide (D = .ok (.ifCond c o, 3)) && decide ((pc : Int) + o = (a : Int))
  | .tableswitch d lo hi offs => (match D with
    | .ok (j, _) => decide (j = .tableswitch d lo hi offs)
    | _ => false) && decide (0 ≤ (pc : Int) + d) && decide (hi - lo < (offs.size : Int)) && offs.toList.all (fun o => decide (0 ≤ (pc : Int) + o))
  | .getfield k => decide (D = .ok (.getfield k, 3)) && g_fl.any (fun q => decide (q.1 = k) && decide (q.2.1 = a) && decide (q.2.2.1 = b) && decide (q.2.2.2.1 = M.1))
  | .putfield k => decide (D = .ok (.putfield k, 3)) && g_fl.any (fun q => decide (q.1 = k) && decide (q.2.1 = a) && decide (q.2.2.1 = b) && decide (q.2.2.2.1 = M.1)) &&
      (match g_cls[a]? with
      | some q => !(q.2.1 b).2.2.2 || (decide (M.2.1.name = "<init>") && decide ((q.2.1 b).1 = g_nm M.1))
      | none => false)
  | .new k => decide (D = .ok (.new k, 3)) && g_nw.any (fun q => decide (q.1 = k) && decide (q.2.1 = a) && decide (q.2.2.1 = M.1))
  | .newarray t => decide (D = .ok (.newarray t, 2))
  | .invokestatic k => decide (D = .ok (.invokestatic k, 3)) && (if a = 998 then g_mx.any (fun q => decide (q.1 = k) && decide (q.2.1 = M.1)) && decide (1 ≤ M.2.2.2.2.2.1) && decide (21 ≤ M.2.2.2.2.2.2.1) else g_lk.any (fun q => decide (q.1 = k) && decide (q.2.1 = a) && decide (q.2.2.1 = M.1) && (decide (q.2.2.2.1 = 1) || decide (q.2.2.2.1 = 2))) && decide (b = (g_meth a).2.2.2.2.2.2.2) && decide ((g_meth a).2.2.2.2.2.1 + 1 ≤ M.2.2.2.2.2.1) && decide (8 + ((g_meth a).2.2.2.1 + 11) + (g_meth a).2.2.2.2.2.2.1 ≤ M.2.2.2.2.2.2.1))
  | .invokevirtual k => decide (D = .ok (.invokevirtual k, 3)) && g_lk.any (fun q => decide (q.1 = k) && decide (q.2.1 = a) && decide (q.2.2.1 = M.1) && decide (q.2.2.2.1 = 0)) && decide (b = (g_meth a).2.2.2.2.2.2.2) && decide ((g_meth a).2.2.2.2.2.1 + 1 ≤ M.2.2.2.2.2.1) && decide (8 + ((g_meth a).2.2.2.1 + 11) + (g_meth a).2.2.2.2.2.2.1 ≤ M.2.2.2.2.2.2.1)
  | .invokespecial k => decide (D = .ok (.invokespecial k, 3)) && (if a = 999 then g_ob.any (fun q => decide (q.1 = k) && decide (q.2.1 = M.1)) && decide (1 ≤ M.2.2.2.2.2.1) && decide (12 ≤ M.2.2.2.2.2.2.1) else
      g_lk.any (fun q => decide (q.1 = k) && decide (q.2.1 = a) && decide (q.2.2.1 = M.1) && (decide (q.2.2.2.1 = 3) || decide (q.2.2.2.1 = 4))) && decide (b = (g_meth a).2.2.2.2.2.2.2) && decide ((g_meth a).2.2.2.2.2.1 + 1 ≤ M.2.2.2.2.2.1) && decide (8 + ((g_meth a).2.2.2.1 + 11) + (g_meth a).2.2.2.2.2.2.1 ≤ M.2.2.2.2.2.2.1))
  | i => decide (D = .ok (i, 1))
end
section
theorem g_ok0_0 : ∀ e ∈ gk0_0, g_okI 0 e = true := by decide +kernel
theorem g_ok0 : ∀ e ∈ gk0, g_okI 0 e = true := g_ok0_0
theorem g_ok1_0 : ∀ e ∈ gk1_0, g_okI 1 e = true := by decide +kernel
theorem g_ok1 : ∀ e ∈ gk1, g_okI 1 e = true := g_ok1_0
theorem g_ok2_0 : ∀ e ∈ gk2_0, g_okI 2 e = true := by decide +kernel
theorem g_ok2 : ∀ e ∈ gk2, g_okI 2 e = true := g_ok2_0
theorem g_ok3_0 : ∀ e ∈ gk3_0, g_okI 3 e = true := by decide +kernel
theorem g_ok3 : ∀ e ∈ gk3, g_okI 3 e = true := g_ok3_0
theorem g_ok4_0 : ∀ e ∈ gk4_0, g_okI 4 e = true := by decide +kernel
theorem g_ok4 : ∀ e ∈ gk4, g_okI 4 e = true := g_ok4_0
theorem g_ok5_0 : ∀ e ∈ gk5_0, g_okI 5 e = true := by decide +kernel
theorem g_ok5_1 : ∀ e ∈ gk5_1, g_okI 5 e = true := by decide +kernel
theorem g_ok5 : ∀ e ∈ gk5, g_okI 5 e = true := List.forall_mem_append.mpr ⟨g_ok5_0, g_ok5_1⟩
theorem g_ok6_0 : ∀ e ∈ gk6_0, g_okI 6 e = true := by decide +kernel
theorem g_ok6_1 : ∀ e ∈ gk6_1, g_okI 6 e = true := by decide +kernel
theorem g_ok6 : ∀ e ∈ gk6, g_okI 6 e = true := List.forall_mem_append.mpr ⟨g_ok6_0, g_ok6_1⟩
theorem g_ok7_0 : ∀ e ∈ gk7_0, g_okI 7 e = true := by decide +kernel
theorem g_ok7_1 : ∀ e ∈ gk7_1, g_okI 7 e = true := by decide +kernel
theorem g_ok7 : ∀ e ∈ gk7, g_okI 7 e = true := List.forall_mem_append.mpr ⟨g_ok7_0, g_ok7_1⟩
theorem g_ok8_0 : ∀ e ∈ gk8_0, g_okI 8 e = true := by decide +kernel
theorem g_ok8_1 : ∀ e ∈ gk8_1, g_okI 8 e = true := by decide +kernel
theorem g_ok8 : ∀ e ∈ gk8, g_okI 8 e = true := List.forall_mem_append.mpr ⟨g_ok8_0, g_ok8_1⟩
theorem g_ok9_0 : ∀ e ∈ gk9_0, g_okI 9 e = true := by decide +kernel
theorem g_ok9 : ∀ e ∈ gk9, g_okI 9 e = true := g_ok9_0
theorem g_ok10_0 : ∀ e ∈ gk10_0, g_okI 10 e = true := by decide +kernel
theorem g_ok10 : ∀ e ∈ gk10, g_okI 10 e = true := g_ok10_0
theorem g_ok11_0 : ∀ e ∈ gk11_0, g_okI 11 e = true := by decide +kernel
theorem g_ok11 : ∀ e ∈ gk11, g_okI 11 e = true := g_ok11_0
theorem g_ok12_0 : ∀ e ∈ gk12_0, g_okI 12 e = true := by decide +kernel
theorem g_ok12 : ∀ e ∈ gk12, g_okI 12 e = true := g_ok12_0
theorem g_ok13_0 : ∀ e ∈ gk13_0, g_okI 13 e = true := by decide +kernel
theorem g_ok13 : ∀ e ∈ gk13, g_okI 13 e = true := g_ok13_0
theorem g_ok14_0 : ∀ e ∈ gk14_0, g_okI 14 e = true := by decide +kernel
theorem g_ok14 : ∀ e ∈ gk14, g_okI 14 e = true := g_ok14_0
theorem g_ok15_0 : ∀ e ∈ gk15_0, g_okI 15 e = true := by decide +kernel
theorem g_ok15 : ∀ e ∈ gk15, g_okI 15 e = true := g_ok15_0
theorem g_ok16_0 : ∀ e ∈ gk16_0, g_okI 16 e = true := by decide +kernel
theorem g_ok16_1 : ∀ e ∈ gk16_1, g_okI 16 e = true := by decide +kernel
theorem g_ok16 : ∀ e ∈ gk16, g_okI 16 e = true := List.forall_mem_append.mpr ⟨g_ok16_0, g_ok16_1⟩
theorem g_ok17_0 : ∀ e ∈ gk17_0, g_okI 17 e = true := by decide +kernel
theorem g_ok17 : ∀ e ∈ gk17, g_okI 17 e = true := g_ok17_0
theorem g_ok18_0 : ∀ e ∈ gk18_0, g_okI 18 e = true := by decide +kernel
theorem g_ok18_1 : ∀ e ∈ gk18_1, g_okI 18 e = true := by decide +kernel
theorem g_ok18 : ∀ e ∈ gk18, g_okI 18 e = true := List.forall_mem_append.mpr ⟨g_ok18_0, g_ok18_1⟩
theorem g_ok19_0 : ∀ e ∈ gk19_0, g_okI 19 e = true := by decide +kernel
theorem g_ok19 : ∀ e ∈ gk19, g_okI 19 e = true := g_ok19_0
theorem g_ok20_0 : ∀ e ∈ gk20_0, g_okI 20 e = true := by decide +kernel
theorem g_ok20 : ∀ e ∈ gk20, g_okI 20 e = true := g_ok20_0
theorem g_ok21_0 : ∀ e ∈ gk21_0, g_okI 21 e = true := by decide +kernel
theorem g_ok21 : ∀ e ∈ gk21, g_okI 21 e = true := g_ok21_0
theorem g_ok22_0 : ∀ e ∈ gk22_0, g_okI 22 e = true := by decide +kernel
theorem g_ok22 : ∀ e ∈ gk22, g_okI 22 e = true := g_ok22_0
theorem g_ok23_0 : ∀ e ∈ gk23_0, g_okI 23 e = true := by decide +kernel
theorem g_ok23 : ∀ e ∈ gk23, g_okI 23 e = true := g_ok23_0
theorem g_ok24_0 : ∀ e ∈ gk24_0, g_okI 24 e = true := by decide +kernel
theorem g_ok24 : ∀ e ∈ gk24, g_okI 24 e = true := g_ok24_0
theorem g_ok25_0 : ∀ e ∈ gk25_0, g_okI 25 e = true := by decide +kernel
theorem g_ok25 : ∀ e ∈ gk25, g_okI 25 e = true := g_ok25_0
theorem g_ok26_0 : ∀ e ∈ gk26_0, g_okI 26 e = true := by decide +kernel
theorem g_ok26_1 : ∀ e ∈ gk26_1, g_okI 26 e = true := by decide +kernel
theorem g_ok26 : ∀ e ∈ gk26, g_okI 26 e = true := List.forall_mem_append.mpr ⟨g_ok26_0, g_ok26_1⟩
theorem g_ok27_0 : ∀ e ∈ gk27_0, g_okI 27 e = true := by decide +kernel
theorem g_ok27_1 : ∀ e ∈ gk27_1, g_okI 27 e = true := by decide +kernel
theorem g_ok27 : ∀ e ∈ gk27, g_okI 27 e = true := List.forall_mem_append.mpr ⟨g_ok27_0, g_ok27_1⟩
theorem g_ok28_0 : ∀ e ∈ gk28_0, g_okI 28 e = true := by decide +kernel
theorem g_ok28 : ∀ e ∈ gk28, g_okI 28 e = true := g_ok28_0
theorem g_ok29_0 : ∀ e ∈ gk29_0, g_okI 29 e = true := by decide +kernel
theorem g_ok29 : ∀ e ∈ gk29, g_okI 29 e = true := g_ok29_0
theorem g_ok30_0 : ∀ e ∈ gk30_0, g_okI 30 e = true := by decide +kernel
theorem g_ok30_1 : ∀ e ∈ gk30_1, g_okI 30 e = true := by decide +kernel
theorem g_ok30 : ∀ e ∈ gk30, g_okI 30 e = true := List.forall_mem_append.mpr ⟨g_ok30_0, g_ok30_1⟩
theorem g_ok31_0 : ∀ e ∈ gk31_0, g_okI 31 e = true := by decide +kernel
theorem g_ok31 : ∀ e ∈ gk31, g_okI 31 e = true := g_ok31_0
theorem g_ok32_0 : ∀ e ∈ gk32_0, g_okI 32 e = true := by decide +kernel
theorem g_ok32 : ∀ e ∈ gk32, g_okI 32 e = true := g_ok32_0
theorem g_ok33_0 : ∀ e ∈ gk33_0, g_okI 33 e = true := by decide +kernel
theorem g_ok33_1 : ∀ e ∈ gk33_1, g_okI 33 e = true := by decide +kernel
theorem g_ok33 : ∀ e ∈ gk33, g_okI 33 e = true := List.forall_mem_append.mpr ⟨g_ok33_0, g_ok33_1⟩
theorem g_ok34_0 : ∀ e ∈ gk34_0, g_okI 34 e = true := by decide +kernel
theorem g_ok34 : ∀ e ∈ gk34, g_okI 34 e = true := g_ok34_0
theorem g_ok35_0 : ∀ e ∈ gk35_0, g_okI 35 e = true := by decide +kernel
theorem g_ok35 : ∀ e ∈ gk35, g_okI 35 e = true := g_ok35_0
theorem g_ok36_0 : ∀ e ∈ gk36_0, g_okI 36 e = true := by decide +kernel
theorem g_ok36 : ∀ e ∈ gk36, g_okI 36 e = true := g_ok36_0
theorem g_ok37_0 : ∀ e ∈ gk37_0, g_okI 37 e = true := by decide +kernel
theorem g_ok37_1 : ∀ e ∈ gk37_1, g_okI 37 e = true := by decide +kernel
theorem g_ok37 : ∀ e ∈ gk37, g_okI 37 e = true := List.forall_mem_append.mpr ⟨g_ok37_0, g_ok37_1⟩
theorem g_ok38_0 : ∀ e ∈ gk38_0, g_okI 38 e = true := by decide +kernel
theorem g_ok38 : ∀ e ∈ gk38, g_okI 38 e = true := g_ok38_0
theorem g_ok39_0 : ∀ e ∈ gk39_0, g_okI 39 e = true := by decide +kernel
theorem g_ok39 : ∀ e ∈ gk39, g_okI 39 e = true := g_ok39_0
theorem g_ok40_0 : ∀ e ∈ gk40_0, g_okI 40 e = true := by decide +kernel
theorem g_ok40_1 : ∀ e ∈ gk40_1, g_okI 40 e = true := by decide +kernel
theorem g_ok40 : ∀ e ∈ gk40, g_okI 40 e = true := List.forall_mem_append.mpr ⟨g_ok40_0, g_ok40_1⟩
theorem g_ok41_0 : ∀ e ∈ gk41_0, g_okI 41 e = true := by decide +kernel
theorem g_ok41_1 : ∀ e ∈ gk41_1, g_okI 41 e = true := by decide +kernel
theorem g_ok41 : ∀ e ∈ gk41, g_okI 41 e = true := List.forall_mem_append.mpr ⟨g_ok41_0, g_ok41_1⟩
theorem g_ok42_0 : ∀ e ∈ gk42_0, g_okI 42 e = true := by decide +kernel
theorem g_ok42 : ∀ e ∈ gk42, g_okI 42 e = true := g_ok42_0
theorem g_ok43_0 : ∀ e ∈ gk43_0, g_okI 43 e = true := by decide +kernel
theorem g_ok43_1 : ∀ e ∈ gk43_1, g_okI 43 e = true := by decide +kernel
theorem g_ok43 : ∀ e ∈ gk43, g_okI 43 e = true := List.forall_mem_append.mpr ⟨g_ok43_0, g_ok43_1⟩
theorem g_ok44_0 : ∀ e ∈ gk44_0, g_okI 44 e = true := by decide +kernel
theorem g_ok44 : ∀ e ∈ gk44, g_okI 44 e = true := g_ok44_0
theorem g_ok45_0 : ∀ e ∈ gk45_0, g_okI 45 e = true := by decide +kernel
theorem g_ok45_1 : ∀ e ∈ gk45_1, g_okI 45 e = true := by decide +kernel
theorem g_ok45 : ∀ e ∈ gk45, g_okI 45 e = true := List.forall_mem_append.mpr ⟨g_ok45_0, g_ok45_1⟩
theorem g_ok46_0 : ∀ e ∈ gk46_0, g_okI 46 e = true := by decide +kernel
theorem g_ok46 : ∀ e ∈ gk46, g_okI 46 e = true := g_ok46_0
theorem g_ok47_0 : ∀ e ∈ gk47_0, g_okI 47 e = true := by decide +kernel
theorem g_ok47_1 : ∀ e ∈ gk47_1, g_okI 47 e = true := by decide +kernel
theorem g_ok47_2 : ∀ e ∈ gk47_2, g_okI 47 e = true := by decide +kernel
theorem g_ok47 : ∀ e ∈ gk47, g_okI 47 e = true := List.forall_mem_append.mpr ⟨List.forall_mem_append.mpr ⟨g_ok47_0, g_ok47_1⟩, g_ok47_2⟩
theorem g_ok48_0 : ∀ e ∈ gk48_0, g_okI 48 e = true := by decide +kernel
theorem g_ok48 : ∀ e ∈ gk48, g_okI 48 e = true := g_ok48_0
theorem g_ok49_0 : ∀ e ∈ gk49_0, g_okI 49 e = true := by decide +kernel
theorem g_ok49_1 : ∀ e ∈ gk49_1, g_okI 49 e = true := by decide +kernel
theorem g_ok49 : ∀ e ∈ gk49, g_okI 49 e = true := List.forall_mem_append.mpr ⟨g_ok49_0, g_ok49_1⟩
theorem g_ok50_0 : ∀ e ∈ gk50_0, g_okI 50 e = true := by decide +kernel
theorem g_ok50 : ∀ e ∈ gk50, g_okI 50 e = true := g_ok50_0
theorem g_ok51_0 : ∀ e ∈ gk51_0, g_okI 51 e = true := by decide +kernel
theorem g_ok51 : ∀ e ∈ gk51, g_okI 51 e = true := g_ok51_0
theorem g_ok52_0 : ∀ e ∈ gk52_0, g_okI 52 e = true := by decide +kernel
theorem g_ok52 : ∀ e ∈ gk52, g_okI 52 e = true := g_ok52_0
theorem g_ok53_0 : ∀ e ∈ gk53_0, g_okI 53 e = true := by decide +kernel
theorem g_ok53 : ∀ e ∈ gk53, g_okI 53 e = true := g_ok53_0
theorem g_ok54_0 : ∀ e ∈ gk54_0, g_okI 54 e = true := by decide +kernel
theorem g_ok54_1 : ∀ e ∈ gk54_1, g_okI 54 e = true := by decide +kernel
theorem g_ok54 : ∀ e ∈ gk54, g_okI 54 e = true := List.forall_mem_append.mpr ⟨g_ok54_0, g_ok54_1⟩
theorem g_ok55_0 : ∀ e ∈ gk55_0, g_okI 55 e = true := by decide +kernel
theorem g_ok55_1 : ∀ e ∈ gk55_1, g_okI 55 e = true := by decide +kernel
theorem g_ok55_2 : ∀ e ∈ gk55_2, g_okI 55 e = true := by decide +kernel
theorem g_ok55 : ∀ e ∈ gk55, g_okI 55 e = true := List.forall_mem_append.mpr ⟨List.forall_mem_append.mpr ⟨g_ok55_0, g_ok55_1⟩, g_ok55_2⟩
theorem g_ok56_0 : ∀ e ∈ gk56_0, g_okI 56 e = true := by decide +kernel
theorem g_ok56_1 : ∀ e ∈ gk56_1, g_okI 56 e = true := by decide +kernel
theorem g_ok56 : ∀ e ∈ gk56, g_okI 56 e = true := List.forall_mem_append.mpr ⟨g_ok56_0, g_ok56_1⟩
theorem g_ok57_0 : ∀ e ∈ gk57_0, g_okI 57 e = true := by decide +kernel
theorem g_ok57_1 : ∀ e ∈ gk57_1, g_okI 57 e = true := by decide +kernel
theorem g_ok57 : ∀ e ∈ gk57, g_okI 57 e = true := List.forall_mem_append.mpr ⟨g_ok57_0, g_ok57_1⟩
theorem g_ok58_0 : ∀ e ∈ gk58_0, g_okI 58 e = true := by decide +kernel
theorem g_ok58_1 : ∀ e ∈ gk58_1, g_okI 58 e = true := by decide +kernel
theorem g_ok58 : ∀ e ∈ gk58, g_okI 58 e = true := List.forall_mem_append.mpr ⟨g_ok58_0, g_ok58_1⟩
theorem g_ok59_0 : ∀ e ∈ gk59_0, g_okI 59 e = true := by decide +kernel
theorem g_ok59_1 : ∀ e ∈ gk59_1, g_okI 59 e = true := by decide +kernel
theorem g_ok59_2 : ∀ e ∈ gk59_2, g_okI 59 e = true := by decide +kernel
theorem g_ok59 : ∀ e ∈ gk59, g_okI 59 e = true := List.forall_mem_append.mpr ⟨List.forall_mem_append.mpr ⟨g_ok59_0, g_ok59_1⟩, g_ok59_2⟩
theorem g_ok60_0 : ∀ e ∈ gk60_0, g_okI 60 e = true := by decide +kernel
theorem g_ok60_1 : ∀ e ∈ gk60_1, g_okI 60 e = true := by decide +kernel
theorem g_ok60 : ∀ e ∈ gk60, g_okI 60 e = true := List.forall_mem_append.mpr ⟨g_ok60_0, g_ok60_1⟩
theorem g_ok61_0 : ∀ e ∈ gk61_0, g_okI 61 e = true := by decide +kernel
theorem g_ok61 : ∀ e ∈ gk61, g_okI 61 e = true := g_ok61_0
theorem g_ok62_0 : ∀ e ∈ gk62_0, g_okI 62 e = true := by decide +kernel
theorem g_ok62_1 : ∀ e ∈ gk62_1, g_okI 62 e = true := by decide +kernel
theorem g_ok62 : ∀ e ∈ gk62, g_okI 62 e = true := List.forall_mem_append.mpr ⟨g_ok62_0, g_ok62_1⟩
theorem g_ok63_0 : ∀ e ∈ gk63_0, g_okI 63 e = true := by decide +kernel
theorem g_ok63_1 : ∀ e ∈ gk63_1, g_okI 63 e = true := by decide +kernel
theorem g_ok63_2 : ∀ e ∈ gk63_2, g_okI 63 e = true := by decide +kernel
theorem g_ok63 : ∀ e ∈ gk63, g_okI 63 e = true := List.forall_mem_append.mpr ⟨List.forall_mem_append.mpr ⟨g_ok63_0, g_ok63_1⟩, g_ok63_2⟩
theorem g_ok64_0 : ∀ e ∈ gk64_0, g_okI 64 e = true := by decide +kernel
theorem g_ok64 : ∀ e ∈ gk64, g_okI 64 e = true := g_ok64_0
theorem g_ok65_0 : ∀ e ∈ gk65_0, g_okI 65 e = true := by decide +kernel
theorem g_ok65 : ∀ e ∈ gk65, g_okI 65 e = true := g_ok65_0
theorem g_ok66_0 : ∀ e ∈ gk66_0, g_okI 66 e = true := by decide +kernel
theorem g_ok66 : ∀ e ∈ gk66, g_okI 66 e = true := g_ok66_0
theorem g_ok67_0 : ∀ e ∈ gk67_0, g_okI 67 e = true := by decide +kernel
theorem g_ok67_1 : ∀ e ∈ gk67_1, g_okI 67 e = true := by decide +kernel
theorem g_ok67 : ∀ e ∈ gk67, g_okI 67 e = true := List.forall_mem_append.mpr ⟨g_ok67_0, g_ok67_1⟩
theorem g_ok68_0 : ∀ e ∈ gk68_0, g_okI 68 e = true := by decide +kernel
theorem g_ok68 : ∀ e ∈ gk68, g_okI 68 e = true := g_ok68_0
theorem g_ok69_0 : ∀ e ∈ gk69_0, g_okI 69 e = true := by decide +kernel
theorem g_ok69 : ∀ e ∈ gk69, g_okI 69 e = true := g_ok69_0
theorem g_ok70_0 : ∀ e ∈ gk70_0, g_okI 70 e = true := by decide +kernel
theorem g_ok70_1 : ∀ e ∈ gk70_1, g_okI 70 e = true := by decide +kernel
theorem g_ok70_2 : ∀ e ∈ gk70_2, g_okI 70 e = true := by decide +kernel
theorem g_ok70 : ∀ e ∈ gk70, g_okI 70 e = true := List.forall_mem_append.mpr ⟨List.forall_mem_append.mpr ⟨g_ok70_0, g_ok70_1⟩, g_ok70_2⟩
theorem g_ok71_0 : ∀ e ∈ gk71_0, g_okI 71 e = true := by decide +kernel
theorem g_ok71_1 : ∀ e ∈ gk71_1, g_okI 71 e = true := by decide +kernel
theorem g_ok71_2 : ∀ e ∈ gk71_2, g_okI 71 e = true := by decide +kernel
theorem g_ok71 : ∀ e ∈ gk71, g_okI 71 e = true := List.forall_mem_append.mpr ⟨List.forall_mem_append.mpr ⟨g_ok71_0, g_ok71_1⟩, g_ok71_2⟩
theorem g_ok72_0 : ∀ e ∈ gk72_0, g_okI 72 e = true := by decide +kernel
theorem g_ok72 : ∀ e ∈ gk72, g_okI 72 e = true := g_ok72_0
theorem g_ok73_0 : ∀ e ∈ gk73_0, g_okI 73 e = true := by decide +kernel
theorem g_ok73 : ∀ e ∈ gk73, g_okI 73 e = true := g_ok73_0
theorem g_ok74_0 : ∀ e ∈ gk74_0, g_okI 74 e = true := by decide +kernel
theorem g_ok74 : ∀ e ∈ gk74, g_okI 74 e = true := g_ok74_0
theorem g_ok75_0 : ∀ e ∈ gk75_0, g_okI 75 e = true := by decide +kernel
theorem g_ok75 : ∀ e ∈ gk75, g_okI 75 e = true := g_ok75_0
theorem g_ok76_0 : ∀ e ∈ gk76_0, g_okI 76 e = true := by decide +kernel
theorem g_ok76_1 : ∀ e ∈ gk76_1, g_okI 76 e = true := by decide +kernel
theorem g_ok76 : ∀ e ∈ gk76, g_okI 76 e = true := List.forall_mem_append.mpr ⟨g_ok76_0, g_ok76_1⟩
theorem g_ok77_0 : ∀ e ∈ gk77_0, g_okI 77 e = true := by decide +kernel
theorem g_ok77 : ∀ e ∈ gk77, g_okI 77 e = true := g_ok77_0
theorem g_ok78_0 : ∀ e ∈ gk78_0, g_okI 78 e = true := by decide +kernel
theorem g_ok78_1 : ∀ e ∈ gk78_1, g_okI 78 e = true := by decide +kernel
theorem g_ok78 : ∀ e ∈ gk78, g_okI 78 e = true := List.forall_mem_append.mpr ⟨g_ok78_0, g_ok78_1⟩
theorem g_ok79_0 : ∀ e ∈ gk79_0, g_okI 79 e = true := by decide +kernel
theorem g_ok79 : ∀ e ∈ gk79, g_okI 79 e = true := g_ok79_0
theorem g_ok80_0 : ∀ e ∈ gk80_0, g_okI 80 e = true := by decide +kernel
theorem g_ok80 : ∀ e ∈ gk80, g_okI 80 e = true := g_ok80_0
theorem g_ok81_0 : ∀ e ∈ gk81_0, g_okI 81 e = true := by decide +kernel
theorem g_ok81_1 : ∀ e ∈ gk81_1, g_okI 81 e = true := by decide +kernel
theorem g_ok81 : ∀ e ∈ gk81, g_okI 81 e = true := List.forall_mem_append.mpr ⟨g_ok81_0, g_ok81_1⟩
theorem g_ok82_0 : ∀ e ∈ gk82_0, g_okI 82 e = true := by decide +kernel
theorem g_ok82 : ∀ e ∈ gk82, g_okI 82 e = true := g_ok82_0
theorem g_ok83_0 : ∀ e ∈ gk83_0, g_okI 83 e = true := by decide +kernel
theorem g_ok83_1 : ∀ e ∈ gk83_1, g_okI 83 e = true := by decide +kernel
theorem g_ok83 : ∀ e ∈ gk83, g_okI 83 e = true := List.forall_mem_append.mpr ⟨g_ok83_0, g_ok83_1⟩
theorem g_ok84_0 : ∀ e ∈ gk84_0, g_okI 84 e = true := by decide +kernel
theorem g_ok84 : ∀ e ∈ gk84, g_okI 84 e = true := g_ok84_0
theorem g_ok85_0 : ∀ e ∈ gk85_0, g_okI 85 e = true := by decide +kernel
theorem g_ok85 : ∀ e ∈ gk85, g_okI 85 e = true := g_ok85_0
theorem g_ok86_0 : ∀ e ∈ gk86_0, g_okI 86 e = true := by decide +kernel
theorem g_ok86_1 : ∀ e ∈ gk86_1, g_okI 86 e = true := by decide +kernel
theorem g_ok86 : ∀ e ∈ gk86, g_okI 86 e = true := List.forall_mem_append.mpr ⟨g_ok86_0, g_ok86_1⟩
theorem g_ok87_0 : ∀ e ∈ gk87_0, g_okI 87 e = true := by decide +kernel
theorem g_ok87 : ∀ e ∈ gk87, g_okI 87 e = true := g_ok87_0
theorem g_ok88_0 : ∀ e ∈ gk88_0, g_okI 88 e = true := by decide +kernel
theorem g_ok88 : ∀ e ∈ gk88, g_okI 88 e = true := g_ok88_0
theorem g_ok89_0 : ∀ e ∈ gk89_0, g_okI 89 e = true := by decide +kernel
theorem g_ok89 : ∀ e ∈ gk89, g_okI 89 e = true := g_ok89_0
theorem g_ok90_0 : ∀ e ∈ gk90_0, g_okI 90 e = true := by decide +kernel
theorem g_ok90 : ∀ e ∈ gk90, g_okI 90 e = true := g_ok90_0
theorem g_ok91_0 : ∀ e ∈ gk91_0, g_okI 91 e = true := by decide +kernel
theorem g_ok91 : ∀ e ∈ gk91, g_okI 91 e = true := g_ok91_0
theorem g_ok92_0 : ∀ e ∈ gk92_0, g_okI 92 e = true := by decide +kernel
theorem g_ok92_1 : ∀ e ∈ gk92_1, g_okI 92 e = true := by decide +kernel
theorem g_ok92_2 : ∀ e ∈ gk92_2, g_okI 92 e = true := by decide +kernel
theorem g_ok92_3 : ∀ e ∈ gk92_3, g_okI 92 e = true := by decide +kernel
theorem g_ok92_4 : ∀ e ∈ gk92_4, g_okI 92 e = true := by decide +kernel
theorem g_ok92 : ∀ e ∈ gk92, g_okI 92 e = true := List.forall_mem_append.mpr ⟨List.forall_mem_append.mpr ⟨List.forall_mem_append.mpr ⟨List.forall_mem_append.mpr ⟨g_ok92_0, g_ok92_1⟩, g_ok92_2⟩, g_ok92_3⟩, g_ok92_4⟩
theorem g_ok93_0 : ∀ e ∈ gk93_0, g_okI 93 e = true := by decide +kernel
theorem g_ok93_1 : ∀ e ∈ gk93_1, g_okI 93 e = true := by decide +kernel
theorem g_ok93 : ∀ e ∈ gk93, g_okI 93 e = true := List.forall_mem_append.mpr ⟨g_ok93_0, g_ok93_1⟩
theorem g_ok94_0 : ∀ e ∈ gk94_0, g_okI 94 e = true := by decide +kernel
theorem g_ok94 : ∀ e ∈ gk94, g_okI 94 e = true := g_ok94_0
theorem g_ok95_0 : ∀ e ∈ gk95_0, g_okI 95 e = true := by decide +kernel
theorem g_ok95 : ∀ e ∈ gk95, g_okI 95 e = true := g_ok95_0
theorem g_ok96_0 : ∀ e ∈ gk96_0, g_okI 96 e = true := by decide +kernel
theorem g_ok96 : ∀ e ∈ gk96, g_okI 96 e = true := g_ok96_0
theorem g_ok97_0 : ∀ e ∈ gk97_0, g_okI 97 e = true := by decide +kernel
theorem g_ok97_1 : ∀ e ∈ gk97_1, g_okI 97 e = true := by decide +kernel
theorem g_ok97 : ∀ e ∈ gk97, g_okI 97 e = true := List.forall_mem_append.mpr ⟨g_ok97_0, g_ok97_1⟩
theorem g_ok98_0 : ∀ e ∈ gk98_0, g_okI 98 e = true := by decide +kernel
theorem g_ok98 : ∀ e ∈ gk98, g_okI 98 e = true := g_ok98_0
theorem g_ok99_0 : ∀ e ∈ gk99_0, g_okI 99 e = true := by decide +kernel
theorem g_ok99 : ∀ e ∈ gk99, g_okI 99 e = true := g_ok99_0
theorem g_ok100_0 : ∀ e ∈ gk100_0, g_okI 100 e = true := by decide +kernel
theorem g_ok100 : ∀ e ∈ gk100, g_okI 100 e = true := g_ok100_0
theorem g_ok101_0 : ∀ e ∈ gk101_0, g_okI 101 e = true := by decide +kernel
theorem g_ok101 : ∀ e ∈ gk101, g_okI 101 e = true := g_ok101_0
theorem g_ok102_0 : ∀ e ∈ gk102_0, g_okI 102 e = true := by decide +kernel
theorem g_ok102 : ∀ e ∈ gk102, g_okI 102 e = true := g_ok102_0
theorem g_ok103_0 : ∀ e ∈ gk103_0, g_okI 103 e = true := by decide +kernel
theorem g_ok103_1 : ∀ e ∈ gk103_1, g_okI 103 e = true := by decide +kernel
theorem g_ok103 : ∀ e ∈ gk103, g_okI 103 e = true := List.forall_mem_append.mpr ⟨g_ok103_0, g_ok103_1⟩
theorem g_ok104_0 : ∀ e ∈ gk104_0, g_okI 104 e = true := by decide +kernel
theorem g_ok104 : ∀ e ∈ gk104, g_okI 104 e = true := g_ok104_0
theorem g_ok105_0 : ∀ e ∈ gk105_0, g_okI 105 e = true := by decide +kernel
theorem g_ok105 : ∀ e ∈ gk105, g_okI 105 e = true := g_ok105_0
theorem g_ok106_0 : ∀ e ∈ gk106_0, g_okI 106 e = true := by decide +kernel
theorem g_ok106_1 : ∀ e ∈ gk106_1, g_okI 106 e = true := by decide +kernel
theorem g_ok106 : ∀ e ∈ gk106, g_okI 106 e = true := List.forall_mem_append.mpr ⟨g_ok106_0, g_ok106_1⟩
theorem g_ok107_0 : ∀ e ∈ gk107_0, g_okI 107 e = true := by decide +kernel
theorem g_ok107_1 : ∀ e ∈ gk107_1, g_okI 107 e = true := by decide +kernel
theorem g_ok107 : ∀ e ∈ gk107, g_okI 107 e = true := List.forall_mem_append.mpr ⟨g_ok107_0, g_ok107_1⟩
theorem g_ok108_0 : ∀ e ∈ gk108_0, g_okI 108 e = true := by decide +kernel
theorem g_ok108 : ∀ e ∈ gk108, g_okI 108 e = true := g_ok108_0
theorem g_ok109_0 : ∀ e ∈ gk109_0, g_okI 109 e = true := by decide +kernel
theorem g_ok109 : ∀ e ∈ gk109, g_okI 109 e = true := g_ok109_0
theorem g_ok110_0 : ∀ e ∈ gk110_0, g_okI 110 e = true := by decide +kernel
theorem g_ok110 : ∀ e ∈ gk110, g_okI 110 e = true := g_ok110_0
theorem g_ok111_0 : ∀ e ∈ gk111_0, g_okI 111 e = true := by decide +kernel
theorem g_ok111 : ∀ e ∈ gk111, g_okI 111 e = true := g_ok111_0
theorem g_ok112_0 : ∀ e ∈ gk112_0, g_okI 112 e = true := by decide +kernel
theorem g_ok112 : ∀ e ∈ gk112, g_okI 112 e = true := g_ok112_0
theorem g_ok113_0 : ∀ e ∈ gk113_0, g_okI 113 e = true := by decide +kernel
theorem g_ok113_1 : ∀ e ∈ gk113_1, g_okI 113 e = true := by decide +kernel
theorem g_ok113 : ∀ e ∈ gk113, g_okI 113 e = true := List.forall_mem_append.mpr ⟨g_ok113_0, g_ok113_1⟩
theorem g_ok114_0 : ∀ e ∈ gk114_0, g_okI 114 e = true := by decide +kernel
theorem g_ok114_1 : ∀ e ∈ gk114_1, g_okI 114 e = true := by decide +kernel
theorem g_ok114 : ∀ e ∈ gk114, g_okI 114 e = true := List.forall_mem_append.mpr ⟨g_ok114_0, g_ok114_1⟩
theorem g_ok115_0 : ∀ e ∈ gk115_0, g_okI 115 e = true := by decide +kernel
theorem g_ok115 : ∀ e ∈ gk115, g_okI 115 e = true := g_ok115_0
theorem g_ok116_0 : ∀ e ∈ gk116_0, g_okI 116 e = true := by decide +kernel
theorem g_ok116_1 : ∀ e ∈ gk116_1, g_okI 116 e = true := by decide +kernel
theorem g_ok116_2 : ∀ e ∈ gk116_2, g_okI 116 e = true := by decide +kernel
theorem g_ok116 : ∀ e ∈ gk116, g_okI 116 e = true := List.forall_mem_append.mpr ⟨List.forall_mem_append.mpr ⟨g_ok116_0, g_ok116_1⟩, g_ok116_2⟩
theorem g_ok117_0 : ∀ e ∈ gk117_0, g_okI 117 e = true := by decide +kernel
theorem g_ok117_1 : ∀ e ∈ gk117_1, g_okI 117 e = true := by decide +kernel
theorem g_ok117 : ∀ e ∈ gk117, g_okI 117 e = true := List.forall_mem_append.mpr ⟨g_ok117_0, g_ok117_1⟩
theorem g_ok118_0 : ∀ e ∈ gk118_0, g_okI 118 e = true := by decide +kernel
theorem g_ok118_1 : ∀ e ∈ gk118_1, g_okI 118 e = true := by decide +kernel
theorem g_ok118 : ∀ e ∈ gk118, g_okI 118 e = true := List.forall_mem_append.mpr ⟨g_ok118_0, g_ok118_1⟩
theorem g_ok119_0 : ∀ e ∈ gk119_0, g_okI 119 e = true := by decide +kernel
theorem g_ok119 : ∀ e ∈ gk119, g_okI 119 e = true := g_ok119_0
theorem g_ok120_0 : ∀ e ∈ gk120_0, g_okI 120 e = true := by decide +kernel
theorem g_ok120_1 : ∀ e ∈ gk120_1, g_okI 120 e = true := by decide +kernel
theorem g_ok120 : ∀ e ∈ gk120, g_okI 120 e = true := List.forall_mem_append.mpr ⟨g_ok120_0, g_ok120_1⟩
theorem g_ok121_0 : ∀ e ∈ gk121_0, g_okI 121 e = true := by decide +kernel
theorem g_ok121 : ∀ e ∈ gk121, g_okI 121 e = true := g_ok121_0
theorem g_ok122_0 : ∀ e ∈ gk122_0, g_okI 122 e = true := by decide +kernel
theorem g_ok122 : ∀ e ∈ gk122, g_okI 122 e = true := g_ok122_0
theorem g_ok123_0 : ∀ e ∈ gk123_0, g_okI 123 e = true := by decide +kernel
theorem g_ok123 : ∀ e ∈ gk123, g_okI 123 e = true := g_ok123_0
theorem g_ok124_0 : ∀ e ∈ gk124_0, g_okI 124 e = true := by decide +kernel
theorem g_ok124 : ∀ e ∈ gk124, g_okI 124 e = true := g_ok124_0
theorem g_ok125_0 : ∀ e ∈ gk125_0, g_okI 125 e = true := by decide +kernel
theorem g_ok125_1 : ∀ e ∈ gk125_1, g_okI 125 e = true := by decide +kernel
theorem g_ok125 : ∀ e ∈ gk125, g_okI 125 e = true := List.forall_mem_append.mpr ⟨g_ok125_0, g_ok125_1⟩
theorem g_ok126_0 : ∀ e ∈ gk126_0, g_okI 126 e = true := by decide +kernel
theorem g_ok126 : ∀ e ∈ gk126, g_okI 126 e = true := g_ok126_0
theorem g_ok127_0 : ∀ e ∈ gk127_0, g_okI 127 e = true := by decide +kernel
theorem g_ok127_1 : ∀ e ∈ gk127_1, g_okI 127 e = true := by decide +kernel
theorem g_ok127 : ∀ e ∈ gk127, g_okI 127 e = true := List.forall_mem_append.mpr ⟨g_ok127_0, g_ok127_1⟩
theorem g_ok128_0 : ∀ e ∈ gk128_0, g_okI 128 e = true := by decide +kernel
theorem g_ok128 : ∀ e ∈ gk128, g_okI 128 e = true := g_ok128_0
theorem g_ok129_0 : ∀ e ∈ gk129_0, g_okI 129 e = true := by decide +kernel
theorem g_ok129_1 : ∀ e ∈ gk129_1, g_okI 129 e = true := by decide +kernel
theorem g_ok129_2 : ∀ e ∈ gk129_2, g_okI 129 e = true := by decide +kernel
theorem g_ok129_3 : ∀ e ∈ gk129_3, g_okI 129 e = true := by decide +kernel
theorem g_ok129 : ∀ e ∈ gk129, g_okI 129 e = true := List.forall_mem_append.mpr ⟨List.forall_mem_append.mpr ⟨List.forall_mem_append.mpr ⟨g_ok129_0, g_ok129_1⟩, g_ok129_2⟩, g_ok129_3⟩
theorem g_ok130_0 : ∀ e ∈ gk130_0, g_okI 130 e = true := by decide +kernel
theorem g_ok130 : ∀ e ∈ gk130, g_okI 130 e = true := g_ok130_0
theorem g_ok131_0 : ∀ e ∈ gk131_0, g_okI 131 e = true := by decide +kernel
theorem g_ok131_1 : ∀ e ∈ gk131_1, g_okI 131 e = true := by decide +kernel
theorem g_ok131 : ∀ e ∈ gk131, g_okI 131 e = true := List.forall_mem_append.mpr ⟨g_ok131_0, g_ok131_1⟩
theorem g_ok132_0 : ∀ e ∈ gk132_0, g_okI 132 e = true := by decide +kernel
theorem g_ok132 : ∀ e ∈ gk132, g_okI 132 e = true := g_ok132_0
theorem g_ok133_0 : ∀ e ∈ gk133_0, g_okI 133 e = true := by decide +kernel
theorem g_ok133 : ∀ e ∈ gk133, g_okI 133 e = true := g_ok133_0
theorem g_ok134_0 : ∀ e ∈ gk134_0, g_okI 134 e = true := by decide +kernel
theorem g_ok134 : ∀ e ∈ gk134, g_okI 134 e = true := g_ok134_0
theorem g_ok135_0 : ∀ e ∈ gk135_0, g_okI 135 e = true := by decide +kernel
theorem g_ok135 : ∀ e ∈ gk135, g_okI 135 e = true := g_ok135_0
theorem g_ok136_0 : ∀ e ∈ gk136_0, g_okI 136 e = true := by decide +kernel
theorem g_ok136_1 : ∀ e ∈ gk136_1, g_okI 136 e = true := by decide +kernel
theorem g_ok136 : ∀ e ∈ gk136, g_okI 136 e = true := List.forall_mem_append.mpr ⟨g_ok136_0, g_ok136_1⟩
theorem g_ok137_0 : ∀ e ∈ gk137_0, g_okI 137 e = true := by decide +kernel
theorem g_ok137 : ∀ e ∈ gk137, g_okI 137 e = true := g_ok137_0
theorem g_ok138_0 : ∀ e ∈ gk138_0, g_okI 138 e = true := by decide +kernel
theorem g_ok138 : ∀ e ∈ gk138, g_okI 138 e = true := g_ok138_0
theorem g_ok139_0 : ∀ e ∈ gk139_0, g_okI 139 e = true := by decide +kernel
theorem g_ok139_1 : ∀ e ∈ gk139_1, g_okI 139 e = true := by decide +kernel
theorem g_ok139 : ∀ e ∈ gk139, g_okI 139 e = true := List.forall_mem_append.mpr ⟨g_ok139_0, g_ok139_1⟩
theorem g_ok140_0 : ∀ e ∈ gk140_0, g_okI 140 e = true := by decide +kernel
theorem g_ok140 : ∀ e ∈ gk140, g_okI 140 e = true := g_ok140_0
theorem g_ok141_0 : ∀ e ∈ gk141_0, g_okI 141 e = true := by decide +kernel
theorem g_ok141_1 : ∀ e ∈ gk141_1, g_okI 141 e = true := by decide +kernel
theorem g_ok141_2 : ∀ e ∈ gk141_2, g_okI 141 e = true := by decide +kernel
theorem g_ok141 : ∀ e ∈ gk141, g_okI 141 e = true := List.forall_mem_append.mpr ⟨List.forall_mem_append.mpr ⟨g_ok141_0, g_ok141_1⟩, g_ok141_2⟩
theorem g_ok142_0 : ∀ e ∈ gk142_0, g_okI 142 e = true := by decide +kernel
theorem g_ok142 : ∀ e ∈ gk142, g_okI 142 e = true := g_ok142_0
theorem g_ok143_0 : ∀ e ∈ gk143_0, g_okI 143 e = true := by decide +kernel
theorem g_ok143 : ∀ e ∈ gk143, g_okI 143 e = true := g_ok143_0
theorem g_ok144_0 : ∀ e ∈ gk144_0, g_okI 144 e = true := by decide +kernel
theorem g_ok144 : ∀ e ∈ gk144, g_okI 144 e = true := g_ok144_0
theorem g_ok145_0 : ∀ e ∈ gk145_0, g_okI 145 e = true := by decide +kernel
theorem g_ok145 : ∀ e ∈ gk145, g_okI 145 e = true := g_ok145_0
theorem g_ok146_0 : ∀ e ∈ gk146_0, g_okI 146 e = true := by decide +kernel
theorem g_ok146_1 : ∀ e ∈ gk146_1, g_okI 146 e = true := by decide +kernel
theorem g_ok146 : ∀ e ∈ gk146, g_okI 146 e = true := List.forall_mem_append.mpr ⟨g_ok146_0, g_ok146_1⟩
theorem g_ok147_0 : ∀ e ∈ gk147_0, g_okI 147 e = true := by decide +kernel
theorem g_ok147 : ∀ e ∈ gk147, g_okI 147 e = true := g_ok147_0
theorem g_ok148_0 : ∀ e ∈ gk148_0, g_okI 148 e = true := by decide +kernel
theorem g_ok148_1 : ∀ e ∈ gk148_1, g_okI 148 e = true := by decide +kernel
theorem g_ok148 : ∀ e ∈ gk148, g_okI 148 e = true := List.forall_mem_append.mpr ⟨g_ok148_0, g_ok148_1⟩
theorem g_ok149_0 : ∀ e ∈ gk149_0, g_okI 149 e = true := by decide +kernel
theorem g_ok149_1 : ∀ e ∈ gk149_1, g_okI 149 e = true := by decide +kernel
theorem g_ok149_2 : ∀ e ∈ gk149_2, g_okI 149 e = true := by decide +kernel
theorem g_ok149_3 : ∀ e ∈ gk149_3, g_okI 149 e = true := by decide +kernel
theorem g_ok149_4 : ∀ e ∈ gk149_4, g_okI 149 e = true := by decide +kernel
theorem g_ok149_5 : ∀ e ∈ gk149_5, g_okI 149 e = true := by decide +kernel
theorem g_ok149_6 : ∀ e ∈ gk149_6, g_okI 149 e = true := by decide +kernel
theorem g_ok149_7 : ∀ e ∈ gk149_7, g_okI 149 e = true := by decide +kernel
theorem g_ok149_8 : ∀ e ∈ gk149_8, g_okI 149 e = true := by decide +kernel
theorem g_ok149_9 : ∀ e ∈ gk149_9, g_okI 149 e = true := by decide +kernel
theorem g_ok149_10 : ∀ e ∈ gk149_10, g_okI 149 e = true := by decide +kernel
theorem g_ok149_11 : ∀ e ∈ gk149_11, g_okI 149 e = true := by decide +kernel
theorem g_ok149 : ∀ e ∈ gk149, g_okI 149 e = true := List.forall_mem_append.mpr ⟨List.forall_mem_append.mpr ⟨List.forall_mem_append.mpr ⟨List.forall_mem_append.mpr ⟨List.forall_mem_append.mpr ⟨List.forall_mem_append.mpr ⟨List.forall_mem_append.mpr ⟨List.forall_mem_append.mpr ⟨List.forall_mem_append.mpr ⟨List.forall_mem_append.mpr ⟨List.forall_mem_append.mpr ⟨g_ok149_0, g_ok149_1⟩, g_ok149_2⟩, g_ok149_3⟩, g_ok149_4⟩, g_ok149_5⟩, g_ok149_6⟩, g_ok149_7⟩, g_ok149_8⟩, g_ok149_9⟩, g_ok149_10⟩, g_ok149_11⟩
theorem g_ok : ∀ (m : Nat), ∀ e ∈ g_code m, g_okI m e = true := by
  intro m
  match m with
  | 0 => exact g_ok0
  | 1 => exact g_ok1
  | 2 => exact g_ok2
  | 3 => exact g_ok3
  | 4 => exact g_ok4
  | 5 => exact g_ok5
  | 6 => exact g_ok6
  | 7 => exact g_ok7
  | 8 => exact g_ok8
  | 9 => exact g_ok9
  | 10 => exact g_ok10
  | 11 => exact g_ok11
  | 12 => exact g_ok12
  | 13 => exact g_ok13
  | 14 => exact g_ok14
  | 15 => exact g_ok15
  | 16 => exact g_ok16
  | 17 => exact g_ok17
  | 18 => exact g_ok18
  | 19 => exact g_ok19
  | 20 => exact g_ok20
  | 21 => exact g_ok21
  | 22 => exact g_ok22
  | 23 => exact g_ok23
  | 24 => exact g_ok24
  | 25 => exact g_ok25
  | 26 => exact g_ok26
  | 27 => exact g_ok27
  | 28 => exact g_ok28
  | 29 => exact g_ok29
  | 30 => exact g_ok30
  | 31 => exact g_ok31
  | 32 => exact g_ok32
  | 33 => exact g_ok33
  | 34 => exact g_ok34
  | 35 => exact g_ok35
  | 36 => exact g_ok36
  | 37 => exact g_ok37
  | 38 => exact g_ok38
  | 39 => exact g_ok39
  | 40 => exact g_ok40
  | 41 => exact g_ok41
  | 42 => exact g_ok42
  | 43 => exact g_ok43
  | 44 => exact g_ok44
  | 45 => exact g_ok45
  | 46 => exact g_ok46
  | 47 => exact g_ok47
  | 48 => exact g_ok48
  | 49 => exact g_ok49
  | 50 => exact g_ok50
  | 51 => exact g_ok51
  | 52 => exact g_ok52
  | 53 => exact g_ok53
  | 54 => exact g_ok54
  | 55 => exact g_ok55
  | 56 => exact g_ok56
  | 57 => exact g_ok57
  | 58 => exact g_ok58
  | 59 => exact g_ok59
  | 60 => exact g_ok60
  | 61 => exact g_ok61
  | 62 => exact g_ok62
  | 63 => exact g_ok63
  | 64 => exact g_ok64
  | 65 => exact g_ok65
  | 66 => exact g_ok66
  | 67 => exact g_ok67
  | 68 => exact g_ok68
  | 69 => exact g_ok69
  | 70 => exact g_ok70
  | 71 => exact g_ok71
  | 72 => exact g_ok72
  | 73 => exact g_ok73
  | 74 => exact g_ok74
  | 75 => exact g_ok75
  | 76 => exact g_ok76
  | 77 => exact g_ok77
  | 78 => exact g_ok78
  | 79 => exact g_ok79
  | 80 => exact g_ok80
  | 81 => exact g_ok81
  | 82 => exact g_ok82
  | 83 => exact g_ok83
  | 84 => exact g_ok84
  | 85 => exact g_ok85
  | 86 => exact g_ok86
  | 87 => exact g_ok87
  | 88 => exact g_ok88
  | 89 => exact g_ok89
  | 90 => exact g_ok90
  | 91 => exact g_ok91
  | 92 => exact g_ok92
  | 93 => exact g_ok93
  | 94 => exact g_ok94
  | 95 => exact g_ok95
  | 96 => exact g_ok96
  | 97 => exact g_ok97
  | 98 => exact g_ok98
  | 99 => exact g_ok99
  | 100 => exact g_ok100
  | 101 => exact g_ok101
  | 102 => exact g_ok102
  | 103 => exact g_ok103
  | 104 => exact g_ok104
  | 105 => exact g_ok105
  | 106 => exact g_ok106
  | 107 => exact g_ok107
  | 108 => exact g_ok108
  | 109 => exact g_ok109
  | 110 => exact g_ok110
  | 111 => exact g_ok111
  | 112 => exact g_ok112
  | 113 => exact g_ok113
  | 114 => exact g_ok114
  | 115 => exact g_ok115
  | 116 => exact g_ok116
  | 117 => exact g_ok117
  | 118 => exact g_ok118
  | 119 => exact g_ok119
  | 120 => exact g_ok120
  | 121 => exact g_ok121
  | 122 => exact g_ok122
  | 123 => exact g_ok123
  | 124 => exact g_ok124
  | 125 => exact g_ok125
  | 126 => exact g_ok126
  | 127 => exact g_ok127
  | 128 => exact g_ok128
  | 129 => exact g_ok129
  | 130 => exact g_ok130
  | 131 => exact g_ok131
  | 132 => exact g_ok132
  | 133 => exact g_ok133
  | 134 => exact g_ok134
  | 135 => exact g_ok135
  | 136 => exact g_ok136
  | 137 => exact g_ok137
  | 138 => exact g_ok138
  | 139 => exact g_ok139
  | 140 => exact g_ok140
  | 141 => exact g_ok141
  | 142 => exact g_ok142
  | 143 => exact g_ok143
  | 144 => exact g_ok144
  | 145 => exact g_ok145
  | 146 => exact g_ok146
  | 147 => exact g_ok147
  | 148 => exact g_ok148
  | 149 => exact g_ok149
  | m + 150 => exact fun e h => absurd h List.not_mem_nil
theorem g_look_mem {i : gI} {pc : Nat} : ∀ (l : List (Nat × gI)), g_look l pc = some i → (pc, i) ∈ l
  | [], h => by cases h
  | (q, j) :: l, h => by
    unfold g_look at h
    split at h
    · next e => cases h; subst e; exact List.mem_cons_self
    · exact List.mem_cons_of_mem _ (g_look_mem l h)
theorem g_okA {m pc : Nat} {i : gI} (h : g_at m pc = some i) : g_okI m (pc, i) = true := g_ok m _ (g_look_mem _ h)
end
section
/-! How the small machine's state lies in the heap. -/
def g_cv (b0 b : Nat) : Value → Value
  | .ref p => .ref (if p = 1000 then b0 else b + p)
  | v => v
theorem g_cv_cat (b0 b : Nat) (v : Value) : (g_cv b0 b v).category = v.category := by cases v <;> rfl
def g_pl (Dd : va_G) (cI cZ : ClassId) (b0 b : Nat) (ρ : Nat → Nat → Option Nat) (σ : Nat → Nat → Int32) (p : Nat) (H : Heap) : Prop := match g_shp p with
  | .inl q => H[b + p]? = some (arrV (if q.1 then cZ else cI) q.2 (fun j => .int (σ p j)))
  | .inr c => ∃ r : vw_C, g_cls[c]? = some r ∧ t_OB (b + p) (Dd.1 c) r.2.2 (Dd.2 c) H (fun k => g_cv b0 b (g_av ρ σ p c k))
def g_WP (Dd : va_G) (cI cZ : ClassId) (b0 b : Nat) (g : gS) (H : Heap) : Prop := H.size = b + g.1 ∧ g.1 ≤ 47 ∧ ∀ p, p < g.1 → g_pl Dd cI cZ b0 b g.2.1 g.2.2 p H
def g_WH (Dd : va_G) (cI cZ : ClassId) (b0 b : Nat) (X : gX) (g : gS) (s : State) (H : Heap) : Prop := g_WP Dd cI cZ b0 b g H ∧ b0 < b ∧ va_X b0 X.1 X.2 s H
def g_En (Dd : va_G) (cI cZ : ClassId) (s : State) : Prop := va_K Dd g_cls [(cI, .int), (cZ, .boolean)] s ∧ ∀ w ∈ g_nest, va_Nw (.methodLinkNest w.1 w.2.1 w.2.2 "SwitchBook") s
theorem g_En.warm {Dd : va_G} {cI cZ : ClassId} {s U : State} (hW : s.WarmedH U.vm) (h : g_En Dd cI cZ s) : g_En Dd cI cZ U := ⟨va_K.moved hW.alike h.1, fun w hw => va_Nw.warmM hW (h.2 w hw)⟩
theorem g_En.same {Dd : va_G} {cI cZ : ClassId} {s U : State} (hv : s.vm = U.vm) (h : g_En Dd cI cZ s) : g_En Dd cI cZ U := ⟨va_K.moved (by rw [hv]; exact Vm.Alike.refl _) h.1, fun w hw => va_Nw.same rfl hv (h.2 w hw)⟩
/-- the locals -/
def g_ll (b0 b : Nat) : Nat → gLo → List (Nat × Value)
  | _, [] => []
  | k, none :: L => g_ll b0 b (k + 1) L
  | k, some v :: L => (k, g_cv b0 b v) :: g_ll b0 b (k + 1) L
theorem g_ll_mem {b0 b : Nat} {j : Nat} {w : Value} : ∀ (L : gLo) (k : Nat), (j, w) ∈ g_ll b0 b k L ↔ ∃ i v, j = k + i ∧ g_lg L i = some v ∧ w = g_cv b0 b v
  | [], k => ⟨fun h => (by cases h), fun ⟨i, v, _, h, _⟩ => by cases i <;> cases h⟩
  | none :: L, k => by
    have ih := g_ll_mem (b0 := b0) (b := b) (j := j) (w := w) L (k + 1)
    simp only [g_ll]
    rw [ih]
    constructor
    · rintro ⟨i, v, h1, h2, h3⟩
      exact ⟨i + 1, v, by omega, h2, h3⟩
    · rintro ⟨i, v, h1, h2, h3⟩
      cases i with
      | zero => cases h2
      | succ i => exact ⟨i, v, by omega, h2, h3⟩
  | some u :: L, k => by
    have ih := g_ll_mem (b0 := b0) (b := b) (j := j) (w := w) L (k + 1)
    simp only [g_ll, List.mem_cons, Prod.mk.injEq]
    rw [ih]
    constructor
    · rintro (⟨h1, h2⟩ | ⟨i, v, h1, h2, h3⟩)
      · exact ⟨0, u, by omega, rfl, h2⟩
      · exact ⟨i + 1, v, by omega, h2, h3⟩
    · rintro ⟨i, v, h1, h2, h3⟩
      cases i with
      | zero =>
        cases h2
        exact Or.inl ⟨by omega, h3⟩
      | succ i => exact Or.inr ⟨i, v, by omega, h2, h3⟩
theorem g_ls_length : ∀ (L : gLo) (k : Nat) (v : Value), (g_ls L k v).length = L.length
  | [], _, _ => rfl
  | _ :: _, 0, _ => rfl
  | _ :: L, k + 1, v => congrArg (· + 1) (g_ls_length L k v)
theorem g_lg_ls : ∀ (L : gLo) (k : Nat) (v w : Value) (j : Nat), g_lg (g_ls L k v) j = some w → (j = k ∧ w = v) ∨ (j ≠ k ∧ g_lg L j = some w)
  | [], _, _, _, j, h => by cases j <;> cases h
  | a :: L, 0, v, w, j, h => by
    cases j with
    | zero =>
      cases h
      exact Or.inl ⟨rfl, rfl⟩
    | succ j => exact Or.inr ⟨by omega, h⟩
  | a :: L, k + 1, v, w, j, h => by
    cases j with
    | zero => exact Or.inr ⟨by omega, h⟩
    | succ j =>
      rcases g_lg_ls L k v w j h with ⟨h1, h2⟩ | ⟨h1, h2⟩
      · exact Or.inl ⟨by omega, h2⟩
      · exact Or.inr ⟨by omega, h2⟩
def g_LR (b0 b : Nat) (ls : Array Slot) (nL : Nat) (L : gLo) : Prop := lv_has ls nL (g_ll b0 b 0 L) ∧ L.length = nL ∧ ∀ k v, g_lg L k = some v → v.category = 1
theorem g_LR.get {b0 b : Nat} {ls : Array Slot} {nL : Nat} {L : gLo} (h : g_LR b0 b ls nL L) {k : Nat} {v : Value} (hk : g_lg L k = some v) : ls[k]? = some (.val (g_cv b0 b v)) := h.1.2.2 (k, _) ((g_ll_mem L 0).mpr ⟨k, v, by omega, hk, rfl⟩)
theorem g_LR.set {b0 b : Nat} {ls ls' : Array Slot} {nL : Nat} {L : gLo} (h : g_LR b0 b ls nL L) {k : Nat} {v : Value} (hc : v.category = 1) (h' : lv_has ls' nL ((k, g_cv b0 b v) :: (g_ll b0 b 0 L).filter (fun q => !(q.1 == k) && !(q.1 + 1 == k && q.2.category == 2)))) : g_LR b0 b ls' nL (g_ls L k v) := by
  refine ⟨⟨h'.1, h'.2.1, fun q hq => ?_⟩, by rw [g_ls_length]; exact h.2.1, fun j w hj => ?_⟩
  · obtain ⟨j, w⟩ := q
    obtain ⟨i, u, h1, h2, h3⟩ := (g_ll_mem _ 0).mp hq
    have e : j = i := by omega
    subst e
    rcases g_lg_ls L k v u j h2 with ⟨e1, e2⟩ | ⟨e1, e2⟩
    · subst e1; subst e2; subst h3
      exact h'.2.2 _ List.mem_cons_self
    · refine h'.2.2 _ (List.mem_cons_of_mem _ (List.mem_filter.mpr ⟨(g_ll_mem L 0).mpr ⟨j, u, by omega, e2, h3⟩, ?_⟩))
      have hcat : w.category = 1 := by rw [h3, g_cv_cat]; exact h.2.2 j u e2
      simp [e1, hcat]
  · rcases g_lg_ls L k v w j hj with ⟨e1, e2⟩ | ⟨e1, e2⟩
    · rw [e2]; exact hc
    · exact h.2.2 j w e2
theorem g_lg_map : ∀ (A : List Value) (n i : Nat) (v : Value), g_lg (A.map some ++ List.replicate n none) i = some v → A[i]? = some v
  | [], n, i, v, h => by
    exfalso
    simp only [List.map_nil, List.nil_append] at h
    induction n generalizing i with
    | zero => cases i <;> cases h
    | succ n ih =>
      rw [List.replicate_succ] at h
      cases i with
      | zero => cases h
      | succ i => exact ih i h
  | a :: A, n, 0, v, h => by simpa [g_lg] using h
  | a :: A, n, i + 1, v, h => by
    have := g_lg_map A n i v (by simpa [g_lg] using h)
    simpa using this
theorem g_args_mem : ∀ (A : List Value) (k i : Nat) (v : Value), (∀ v ∈ A, v.category = 1) → A[i]? = some v → (k + i, v) ∈ lv_args k A
  | [], _, i, v, _, h => by simp at h
  | a :: A, k, 0, v, hc, h => by
    simp only [List.getElem?_cons_zero] at h
    cases h
    exact List.mem_cons_self
  | a :: A, k, i + 1, v, hc, h => by
    have h1 : a.category = 1 := hc a List.mem_cons_self
    simp only [List.getElem?_cons_succ] at h
    have := g_args_mem A (k + 1) i v (fun v hv => hc v (List.mem_cons_of_mem _ hv)) h
    rw [show k + (i + 1) = k + 1 + i by omega]
    show _ ∈ (k, a) :: lv_args (if a.category = 2 then k + 2 else k + 1) A
    rw [if_neg (by omega)]
    exact List.mem_cons_of_mem _ this
theorem g_sl_len : ∀ (A : List Value), (∀ v ∈ A, v.category = 1) → (lg_sl A).length = A.length
  | [], _ => rfl
  | a :: A, h => by
    have h1 : a.category = 1 := h a List.mem_cons_self
    have ih := g_sl_len A (fun v hv => h v (List.mem_cons_of_mem _ hv))
    simp only [lg_sl, List.flatMap_cons, List.length_append, List.length_cons] at ih ⊢
    rw [if_neg (by omega), ih]
    simp
    omega
/-- the locals at a method's entry -/
theorem g_LR.entry {b0 b : Nat} {A : List Value} {n : Nat} (hc : ∀ v ∈ A, v.category = 1) (hn : A.length ≤ n) : g_LR b0 b (lg_sl (A.map (g_cv b0 b)) ++ List.replicate (n - (lg_sl (A.map (g_cv b0 b))).length) Slot.unset).toArray n (A.map some ++ List.replicate (n - A.length) none) := by
  have hc' : ∀ v ∈ A.map (g_cv b0 b), v.category = 1 := by
    intro v hv
    obtain ⟨u, h1, h2⟩ := List.mem_map.mp hv
    rw [← h2, g_cv_cat]
    exact hc u h1
  have hl := g_sl_len _ hc'
  rw [List.length_map] at hl
  have h := lv_entry (A.map (g_cv b0 b)) (n := n) (by omega)
  refine ⟨⟨h.1, h.2.1, fun q hq => ?_⟩, by simp; omega, fun k v hk => hc v (List.mem_of_getElem? (g_lg_map A _ k v hk))⟩
  obtain ⟨j, w⟩ := q
  obtain ⟨i, u, h1, h2, h3⟩ := (g_ll_mem _ 0).mp hq
  have h4 := g_lg_map A _ i u h2
  have h5 := g_args_mem (A.map (g_cv b0 b)) 0 i (g_cv b0 b u) hc' (by rw [List.getElem?_map, h4]; rfl)
  rw [h1, h3]
  exact h.2.2 _ h5
/-! places that stay -/
theorem g_pl.congr {Dd : va_G} {cI cZ : ClassId} {b0 b : Nat} {ρ ρ' : Nat → Nat → Option Nat} {σ σ' : Nat → Nat → Int32} {p : Nat} {H H' : Heap} (h : g_pl Dd cI cZ b0 b ρ σ p H) (hr : ρ' p = ρ p) (hs : σ' p = σ p) (hH : H'[b + p]? = H[b + p]?) : g_pl Dd cI cZ b0 b ρ' σ' p H' := by
  unfold g_pl at *
  split
  · next q hq =>
    rw [hq] at h
    rw [hH, hs]
    exact h
  · next c hq =>
    rw [hq] at h
    obtain ⟨r, h1, h2⟩ := h
    refine ⟨r, h1, (h2.kept hH).to (fun k _ => ?_)⟩
    simp only [g_av, hr, hs]
theorem g_WP.set {Dd : va_G} {cI cZ : ClassId} {b0 b : Nat} {n : Nat} {ρ ρ' : Nat → Nat → Option Nat} {σ σ' : Nat → Nat → Int32} {H H' : Heap} {p : Nat} (h : g_WP Dd cI cZ b0 b (n, ρ, σ) H) (hr : ∀ q, q ≠ p → ρ' q = ρ q) (hs : ∀ q, q ≠ p → σ' q = σ q) (hz : H'.size = H.size) (ho : ∀ q, q ≠ b + p → H'[q]? = H[q]?) (hp : g_pl Dd cI cZ b0 b ρ' σ' p H') : g_WP Dd cI cZ b0 b (n, ρ', σ') H' := by
  refine ⟨hz.trans h.1, h.2.1, fun q hq => ?_⟩
  by_cases e : q = p
  · subst e; exact hp
  · exact (h.2.2 q hq).congr (hr q e) (hs q e) (ho _ (by omega))
theorem g_X.kept {b0 b : Nat} {X : gX} {s : State} {H H' : Heap} (hb : b0 < b) (h : va_X b0 X.1 X.2 s H) (ho : ∀ q, q < b → H'[q]? = H[q]?) : va_X b0 X.1 X.2 s H' := h.kept (ho b0 hb)
theorem g_slots_mono {a c : Nat} (h : a ≤ c) : g_slots a ≤ g_slots c := by
  induction h with
  | refl => exact Nat.le_refl _
  | step _ ih => exact Nat.le_trans ih (Nat.le_add_right _ _)
/-! the classes -/
theorem g_in0 : ∀ w ∈ u_ws RX0 TX0 9, w ∈ lw_tbl ∧ goodWord w = true := by decide +kernel
theorem g_in1 : ∀ w ∈ u_ws RX1 TX1 14, w ∈ lw_tbl ∧ goodWord w = true := by decide +kernel
theorem g_in2 : ∀ w ∈ u_ws RX2 TX2 6, w ∈ lw_tbl ∧ goodWord w = true := by decide +kernel
theorem g_in3 : ∀ w ∈ u_ws RX3 TX3 16, w ∈ lw_tbl ∧ goodWord w = true := by decide +kernel
theorem g_in4 : ∀ w ∈ u_ws RX4 TX4 25, w ∈ lw_tbl ∧ goodWord w = true := by decide +kernel
def g_clsOK (c : Nat) (q : vw_C) : Prop := (∀ k, k < q.2.2 → parseFieldDescriptor (q.2.1 k).2.2.1 = some (g_tyf c k)) ∧ (∀ a, a < q.2.2 → ∀ b, b < q.2.2 → a ≠ b → (q.2.1 a).2.1 ≠ (q.2.1 b).2.1) ∧ ∀ w ∈ u_ws q.1 q.2.1 q.2.2, w ∈ g_tbl
theorem g_cls_ok {c : Nat} {q : vw_C} (h : g_cls[c]? = some q) : g_clsOK c q := by
  match c, h with
  | 0, h => cases h; exact ⟨tyX0_ok, nmX0, fun w hw => List.mem_filter.mpr (g_in0 w hw)⟩
  | 1, h => cases h; exact ⟨tyX1_ok, nmX1, fun w hw => List.mem_filter.mpr (g_in1 w hw)⟩
  | 2, h => cases h; exact ⟨tyX2_ok, nmX2, fun w hw => List.mem_filter.mpr (g_in2 w hw)⟩
  | 3, h => cases h; exact ⟨tyX3_ok, nmX3, fun w hw => List.mem_filter.mpr (g_in3 w hw)⟩
  | 4, h => cases h; exact ⟨tyX4_ok, nmX4, fun w hw => List.mem_filter.mpr (g_in4 w hw)⟩
  | c + 5, h => simp [g_cls] at h
theorem g_sz_cls {c : Nat} {q : vw_C} (h : g_cls[c]? = some q) {p : Nat} (hp : g_shp p = .inr c) : g_sz p = q.2.2 := by
  unfold g_sz
  rw [hp]
  match c, h with
  | 0, h => cases h; rfl
  | 1, h => cases h; rfl
  | 2, h => cases h; rfl
  | 3, h => cases h; rfl
  | 4, h => cases h; rfl
  | c + 5, h => simp [g_cls] at h
section GWR
variable {p : Program} {l : Launch} {e : Env} {R : Room} {s : State} {m : MethodId} {args : Array Value} {below : List Frame} {meth : Method} {c : Code} {H : Heap} {locs : List Loc} {cells slots : Nat} {Q : State → Prop}
variable {cc : ByteArray} {pc : Nat} {ls : Array Slot} {rest : List Value} {Dd : va_G} {cl : List vw_C} {a : Nat} {tys : List (ClassId × FieldType)}
/-- a field is written: what else stays -/
theorem gw_put (hexec : p.tables.exec = Jvm.exec) (hb : c.code = cc) {own : String} {C : String} {T : u_T} {N ci index : Nat} {Ts : List Jvm.Cond} (hts : ∀ w ∈ Ts, w.before args s = true) (hin : ∀ w ∈ u_ws C T N, w ∈ Ts) (ty0 : Nat → FieldType) (hty : ∀ k, k < N → parseFieldDescriptor (T k).2.2.1 = some (ty0 k)) (hnm : ∀ a, a < N → ∀ b, b < N → a ≠ b → (T a).2.1 ≠ (T b).2.1) (hown : s.vm.findClass own = some m.cls) (hK : va_K Dd cl tys s) {V : Nat → Value} (hO : t_OB a (Dd.1 ci) N (Dd.2 ci) H V) (hc : cl[ci]? = some (C, T, N)) (k : Nat) (hk : k < N) (hlink : (Jvm.Cond.fieldLink own index (T k).1 (T k).2.1 (T k).2.2.1).before args s = true) (hfin : (T k).2.2.2 = false ∨ (meth.name = "<init>" ∧ (T k).1 = own)) {v : Value} (hn : narrow (ty0 k) v = v) (hfit : fits (ty0 k) v = true)
    (hdg : decode cc pc = .ok (.putfield index, 3)) (kk : ∀ (H1 : Heap) (locs1 : List Loc), t_OB a (Dd.1 ci) N (Dd.2 ci) H1 (updV V k v) → H1.size = H.size → (∀ q, q ≠ a → H1[q]? = H[q]?) → (∀ q ∈ locs1, q ∈ locs ∨ q.base = a) → W p l e R s m args below meth c H1 locs1 cells slots Q (F0 m (pc + 3) ls rest)) : W p l e R s m args below meth c H locs cells slots Q (F0 m pc ls (v :: .ref a :: rest)) := by
  have hap := va_apart (own := own) hts hin ty0 hty hnm hK hc
  obtain ⟨cell, q1, q2, q3, q4⟩ := hO
  obtain ⟨hS, hfc, kC, hkC, hkind⟩ := hK.1 ci _ hc
  obtain ⟨cf, kf, fi, f, hi, hsl⟩ := hS k hk
  have hlay := hts _ (hin _ (u_in_lay hk))
  have hst := (u_facts hfc hkC (u_lays hts hin hk) hi).1
  have fin : ∀ (H1 : Heap) (L1 : List Loc), L1 = locs ++ [⟨a, f.slot⟩] → H1[a]? = some (cell.setSlot f.slot v) → H1.size = H.size → (∀ q, q ≠ a → H1[q]? = H[q]?) → W p l e R s m args below meth c H1 L1 cells slots Q (F0 m (pc + 3) ls rest) := by
    intro H1 L1 hL1 e1 e2 e3
    subst hL1
    refine kk H1 _ ⟨cell.setSlot (Dd.2 ci k) v, by rw [hsl] at e1; exact e1, q2, q3, t_set q4 hap hk v⟩ e2 e3 (fun q hq => ?_)
    rcases List.mem_append.mp hq with h | h
    · exact Or.inl h
    · rw [List.mem_singleton.mp h]; exact Or.inr rfl
  rcases Bool.eq_false_or_eq_true (T k).2.2.2 with hf | hf
  · obtain ⟨hin2, hdecl⟩ : meth.name = "<init>" ∧ (T k).1 = own := by
      rcases hfin with h | h
      · rw [hf] at h; cases h
      · exact h
    unfold u_lay at hlay
    rw [if_pos hf] at hlay
    have hcf : m.cls = cf := by
      obtain ⟨_, _, c', _, _, _, -, -, hf', -, -, -, hown2, -⟩ := Cond.laysFinal_spec hlay
      have e1 : c' = cf := by have := hi.symm.trans hf'; simp at this; exact this.1.symm
      rw [hdecl] at hown2
      rw [← e1]; exact Option.some.inj (hown.symm.trans hown2)
    have h6 := u_fits hfc hkC hkind (Or.inr hlay) hi (hty k hk) hn hfit
    exact W.putFinK hexec hb hown hlink hi hst hcf hin2 (by rw [q2]; exact h6) q1 q3 (by rw [hsl]; exact k2_hasslot (q4 k hk)) rfl rfl hdg fun H' e1 e2 e3 => fin H' _ rfl e1 e2 e3
  · unfold u_lay at hlay
    rw [if_neg (by rw [hf]; decide)] at hlay
    have h6 := u_store hfc hkC hkind hlay hi (hty k hk) hn hfit
    exact W.putK hexec hb (f := f) ⟨hown, hlink, ⟨_, _, _, hi⟩, hst⟩ (by rw [q2]; exact h6) q1 q3 (by rw [hsl]; exact k2_hasslot (q4 k hk)) rfl rfl hdg fun H' e1 e2 e3 => fin H' _ rfl e1 e2 e3
end GWR
end
section
/-! THE SMALL MACHINE IS THE MACHINE: what it answers, the bytecode answers. -/
def g_Q (Dd : va_G) (cI cZ : ClassId) (b0 b : Nat) (rr : gR) : Array Value → State → Outcome → State → Prop := fun _ st o t => o = .returned (rr.1.map (g_cv b0 b)) ∧ g_WP Dd cI cZ b0 b rr.2 t.heap ∧ ∀ q, q < b → t.heap[q]? = st.heap[q]?
def g_Cx (Dd : va_G) (cI cZ : ClassId) (p : Program) (R : Room) (s : State) (mm : MethodId) (args : Array Value) (meth : Method) (c : Code) (m : Nat) : Prop :=
  (p.tables.exec = Jvm.exec ∧ c.code = (g_meth m).2.2.1 ∧ meth.sig.returnType = (g_meth m).2.2.2.2.1 ∧ c.maxLocals = (g_meth m).2.2.2.1 ∧ s.vm.findClass (g_own m) = some mm.cls) ∧ (∀ w ∈ g_tbl, w.before args s = true) ∧ meth.locks = false ∧ ((g_meth m).2.1.name = "<init>" → meth.name = "<init>") ∧ (g_meth m).2.2.2.2.2.1 ≤ R.frames ∧ (g_meth m).2.2.2.2.2.2.1 ≤ R.locals ∧ g_En Dd cI cZ s
def g_Goal (l : Launch) (Dd : va_G) (cI cZ : ClassId) (b0 b : Nat) (X : gX) (n : Nat) : Prop := ∀ (m pc : Nat) (L : gLo) (st : List Value) (g : gS) (rr : gR), EvN X n m pc L st g rr →
  ∀ (p : Program) (e : Env) (R : Room) (s : State) (mm : MethodId) (args : Array Value) (below : List Frame) (meth : Method) (c : Code) (H : Heap) (locs : List Loc) (cells slots mc ms : Nat) (ls : Array Slot),
  g_Cx Dd cI cZ p R s mm args meth c m → g_LR b0 b ls (g_meth m).2.2.2.1 L → g_WH Dd cI cZ b0 b X g s H → va_S (fun q => b ≤ q) s.heap H locs → b ≤ s.heap.size →
  (cells + rr.2.1 = mc + g.1 ∧ slots + g_slots rr.2.1 = ms + g_slots g.1 ∧ mc ≤ R.cells ∧ ms ≤ R.slots) →
  W p l e R s mm args below meth c H locs cells slots (MQ below (g_Q Dd cI cZ b0 b rr) args s mc ms (fun q => b ≤ q)) (F0 mm pc ls (st.map (g_cv b0 b)))
def g_ws (y : Nat) : List Jvm.Cond := .code (g_meth y).2.1 (g_meth y).2.2.1 (g_meth y).2.2.2.1 (g_meth y).2.2.2.2.1 :: g_tbl
theorem g_good {y : Nat} (h : Jvm.Cond.code (g_meth y).2.1 (g_meth y).2.2.1 (g_meth y).2.2.2.1 (g_meth y).2.2.2.2.1 ∈ g_tbl) : GoodIn g_tbl (g_ws y) := by
  intro w hw
  have h1 : w ∈ g_tbl := by
    rcases List.mem_cons.mp hw with e | e
    · rw [e]; exact h
    · exact e
  exact ⟨h1, good_of_word (List.mem_filter.mp h1).2⟩
/-! how many cells stand never falls -/
theorem g_s1_out {st : List Value} {f : Int32 → List Value → Prop} {P : Prop} (h : ∀ a r, f a r → P) (k : g_s1 st f) : P := by
  unfold g_s1 at k
  split at k
  · exact h _ _ k
  · exact k.elim
theorem g_sr_out {st : List Value} {f : Nat → List Value → Prop} {P : Prop} (h : ∀ a r, f a r → P) (k : g_sr st f) : P := by
  unfold g_sr at k
  split at k
  · exact h _ _ k
  · exact k.elim
theorem g_s2_out {st : List Value} {f : Int32 → Int32 → List Value → Prop} {P : Prop} (h : ∀ a b r, f a b r → P) (k : g_s2 st f) : P := g_s1_out (fun _ _ k => g_s1_out (fun _ _ k => h _ _ _ k) k) k
theorem g_li_out {L : gLo} {k : Nat} {f : Int32 → Prop} {P : Prop} (h : ∀ a, f a → P) (q : g_li L k f) : P := by
  unfold g_li at q
  split at q
  · exact h _ q
  · exact q.elim
theorem g_lr_out {L : gLo} {k : Nat} {f : Nat → Prop} {P : Prop} (h : ∀ a, f a → P) (q : g_lr L k f) : P := by
  unfold g_lr at q
  split at q
  · exact h _ q
  · exact q.elim
theorem g_ald_out {X : gX} {z : Bool} {g : gS} {p : Nat} {i : Int32} {f : Int32 → Prop} {P : Prop} (h : ∀ a, f a → P) (q : g_ald X z g p i f) : P := by
  unfold g_ald at q
  split at q
  · exact h _ q.2.2
  · split at q
    · exact h _ q.2.2.2
    · exact q.elim
theorem g_ast_out {z : Bool} {g : gS} {p : Nat} {i v : Int32} {f : gS → Prop} {P : Prop} (h : ∀ s, f (g.1, g.2.1, s) → P) (q : g_ast z g p i v f) : P := by
  unfold g_ast at q
  split at q
  · exact h _ q.2.2.2
  · exact q.elim
theorem g_obj_out {g : gS} {p c : Nat} {P Q : Prop} (h : P → Q) (q : g_obj g p c P) : Q := by
  unfold g_obj at q
  split at q
  · exact q.elim
  · exact h q.2.2
theorem g_call_le {m pc y : Nat} {A : List Value} {L : gLo} {r : List Value} {g : gS} {rr : gR} (q : g_call (fun _ _ _ _ g rr => g.1 ≤ rr.2.1) m pc y A L r g rr) : g.1 ≤ rr.2.1 := by
  obtain ⟨-, -, v, g1, h1, h2⟩ := q
  exact Nat.le_trans h1 h2
set_option maxHeartbeats 4000000 in
theorem g_do_le {X : gX} {m pc : Nat} {i : gI} {L : gLo} {st : List Value} {g : gS} {rr : gR} (q : g_do X (fun _ _ _ _ g rr => g.1 ≤ rr.2.1) m pc i L st g rr) : g.1 ≤ rr.2.1 := by
  obtain ⟨ins, a, b, z⟩ := i
  cases ins
  case iconst => exact q
  case bipush => exact q
  case sipush => exact q
  case ldc => exact q
  case ldc_w => exact q
  case goto => exact q
  case iload => exact g_li_out (fun _ k => k) q
  case iload_n => exact g_li_out (fun _ k => k) q
  case aload => exact g_lr_out (fun _ k => k) q
  case aload_n => exact g_lr_out (fun _ k => k) q
  case istore => exact g_s1_out (fun _ _ k => k.2) q
  case istore_n => exact g_s1_out (fun _ _ k => k.2) q
  case astore => exact g_sr_out (fun _ _ k => k.2) q
  case astore_n => exact g_sr_out (fun _ _ k => k.2) q
  case iinc => exact g_li_out (fun _ k => k.2) q
  case iadd => exact g_s2_out (fun _ _ _ k => k) q
  case isub => exact g_s2_out (fun _ _ _ k => k) q
  case imul => exact g_s2_out (fun _ _ _ k => k) q
  case iand => exact g_s2_out (fun _ _ _ k => k) q
  case ior => exact g_s2_out (fun _ _ _ k => k) q
  case ixor => exact g_s2_out (fun _ _ _ k => k) q
  case ishl => exact g_s2_out (fun _ _ _ k => k) q
  case ishr => exact g_s2_out (fun _ _ _ k => k) q
  case iushr => exact g_s2_out (fun _ _ _ k => k) q
  case idiv => exact g_s2_out (fun _ _ _ k => k.2) q
  case irem => exact g_s2_out (fun _ _ _ k => k.2) q
  case dup =>
    match st, q with
    | v :: r, q => exact q.2
  case pop =>
    match st, q with
    | v :: r, q => exact q.2
  case dup2 =>
    match st, q with
    | v :: w :: r, q => exact q.2.2
  case if_icmp c _ => exact g_s2_out (fun x y _ k => (Classical.em (g_ic c x y)).elim k.1 k.2) q
  case ifCond c _ => exact g_s1_out (fun x _ k => (Classical.em (g_ic c x 0)).elim k.1 k.2) q
  case tableswitch => exact g_s1_out (fun _ _ k => k) q
  case getfield => exact g_sr_out (fun _ _ => g_obj_out (fun k => k)) q
  case putfield =>
    match st, q with
    | .int v :: r, q => exact g_sr_out (fun _ _ => g_obj_out (fun k => k.2)) q
    | .ref v :: r, q => exact g_sr_out (fun _ _ => g_obj_out (fun k => k.2.2)) q
  case iaload => exact g_s1_out (fun _ _ => g_sr_out (fun _ _ => g_ald_out (fun _ k => k))) q
  case baload => exact g_s1_out (fun _ _ => g_sr_out (fun _ _ => g_ald_out (fun _ k => k))) q
  case iastore => exact g_s1_out (fun _ _ => g_s1_out (fun _ _ => g_sr_out (fun _ _ => g_ast_out (fun _ k => k)))) q
  case bastore => exact g_s1_out (fun _ _ => g_s1_out (fun _ _ => g_sr_out (fun _ _ => g_ast_out (fun _ k => k)))) q
  case arraylength =>
    refine g_sr_out (fun p r k => ?_) q
    by_cases hp : p = 1000
    · rw [if_pos hp] at k
      exact k
    · rw [if_neg hp] at k
      split at k
      · exact k.2
      · exact k.elim
  case new => exact Nat.le_trans (Nat.le_succ _) q.2.2.2.2
  case newarray => exact g_s1_out (fun _ _ k => Nat.le_trans (Nat.le_succ _) k.2.2.2.2.2.2) q
  case invokestatic =>
    simp only [g_do] at q
    split at q
    · exact g_s2_out (fun _ _ _ k => k.2) q
    · split at q
      · exact g_call_le q
      · exact q.elim
  case invokevirtual =>
    simp only [g_do] at q
    split at q
    · exact g_obj_out g_call_le q
    · exact q.elim
  case invokespecial =>
    simp only [g_do] at q
    split at q
    · split at q
      · exact q
      · exact q.elim
    · split at q
      · exact g_call_le q
      · exact q.elim
  case ireturn =>
    match st, q with
    | [.int v], q => rw [q.2]; exact Nat.le_refl _
  case return_ => rw [q.2]; exact Nat.le_refl _
  all_goals exact q.elim
theorem EvN_n {X : gX} : ∀ (n : Nat) {m pc : Nat} {L : gLo} {st : List Value} {g : gS} {rr : gR}, EvN X n m pc L st g rr → g.1 ≤ rr.2.1
  | 0, _, _, _, _, _, _, h => h.elim
  | n + 1, _, _, _, _, _, _, h => by
    obtain ⟨i, h1, h2⟩ := h
    exact g_do_le (g_do_mono (fun _ _ _ _ _ _ k => EvN_n n k) h2)
/-! contracts out of the goal -/
def g_rm (y : Nat) (mc ms : Nat) : Room := { frames := (g_meth y).2.2.2.2.2.1, cells := mc, slots := ms, locals := (g_meth y).2.2.2.2.2.2.1 }
def g_Pc (Dd : va_G) (cI cZ : ClassId) (b0 b : Nat) (X : gX) (A : List Value) (g : gS) : Array Value → State → Prop := va_Pc (A.map (g_cv b0 b)) (fun U => b ≤ U.heap.size ∧ g_En Dd cI cZ U ∧ g_WH Dd cI cZ b0 b X g U U.heap)
theorem g_Pc.blind {Dd : va_G} {cI cZ : ClassId} {b0 b : Nat} {X : gX} {A : List Value} {g : gS} : FrameBlind (g_Pc Dd cI cZ b0 b X A g) := by
  intro a U f mk h
  obtain ⟨h1, h2, h3, h4, h5, h6⟩ := h
  exact ⟨h1, h2, h3.same (U := U.calling f mk a) rfl, h4, h5, va_X.moved (u := U) (U := U.calling f mk a) (Vm.Alike.refl U.vm) h6⟩
theorem g_met {l : Launch} {Dd : va_G} {cI cZ : ClassId} {b0 b : Nat} {X : gX} {n : Nat} (IH : g_Goal l Dd cI cZ b0 b X n) {y : Nat} {A : List Value} {g g1 : gS} {v : Option Value} (hp : plainName (g_meth y).2.1.cls = true) (hcl : (g_meth y).2.1.cls = g_own y) (hA : A.length ≤ (g_meth y).2.2.2.1) (hc : (A.all fun v => v.category == 1) = true) (h : EvN X n y 0 (g_l0 y A) [] g (v, g1)) :
    Met l (g_meth y).2.1 (g_ws y) (g_rm y (g1.1 - g.1) (g_slots g1.1 - g_slots g.1)) (g_Pc Dd cI cZ b0 b X A g) (g_Q Dd cI cZ b0 b (v, g1)) (g1.1 - g.1) (g_slots g1.1 - g_slots g.1) (fun q => b ≤ q) := by
  refine Met.ofW (cc := (g_meth y).2.2.1) (maxL := (g_meth y).2.2.2.1) (ret := (g_meth y).2.2.2.2.1) hp rfl ?_
  intro p e s m args below meth c s₁ B hml hv
  obtain ⟨rfl, hbs, hE, hW⟩ := hv
  have hts := atoms_spec (ws := g_ws y) B.pre
  have hown : s.vm.findClass (g_own y) = some m.cls := by rw [← hcl]; exact findClass_of_methodNamed B.named
  have hname : (g_meth y).2.1.name = "<init>" → meth.name = "<init>" := fun q => by rw [← q]; exact (name_of_methodNamed B.named B.method).1
  have hn := EvN_n n h
  have hsl := g_slots_mono hn
  have hcat : ∀ v ∈ A, v.category = 1 := fun v hv => by have := List.all_eq_true.mp hc v hv; simpa using this
  rw [lg_entry_eq]
  exact IH y 0 (g_l0 y A) [] g (v, g1) h p e _ s m _ below meth c s.heap [] 0 0 _ _ _ ⟨⟨B.exec, B.bytes, B.returns, hml, hown⟩, fun w hw => hts w (List.mem_cons_of_mem _ hw), B.notSynchronized, hname, Nat.le_refl _, Nat.le_refl _, hE⟩ (g_LR.entry hcat hA) hW va_S.rf hbs ⟨by dsimp only at hn ⊢; omega, by dsimp only at hn hsl ⊢; omega, Nat.le_refl _, Nat.le_refl _⟩
theorem g_s1_inv {st : List Value} {f : Int32 → List Value → Prop} (k : g_s1 st f) : ∃ a r, st = .int a :: r ∧ f a r := by
  unfold g_s1 at k
  split at k
  · exact ⟨_, _, rfl, k⟩
  · exact k.elim
theorem g_sr_inv {st : List Value} {f : Nat → List Value → Prop} (k : g_sr st f) : ∃ (a : Nat) (r : List Value), st = .ref a :: r ∧ f a r := by
  unfold g_sr at k
  split at k
  · exact ⟨_, _, rfl, k⟩
  · exact k.elim
theorem g_s2_inv {st : List Value} {f : Int32 → Int32 → List Value → Prop} (k : g_s2 st f) : ∃ a b r, st = .int b :: .int a :: r ∧ f a b r := by
  obtain ⟨b, r, e, k⟩ := g_s1_inv k
  obtain ⟨a, r, e2, k⟩ := g_s1_inv k
  exact ⟨a, b, r, by rw [e, e2], k⟩
theorem g_li_inv {L : gLo} {k : Nat} {f : Int32 → Prop} (q : g_li L k f) : ∃ a, g_lg L k = some (.int a) ∧ f a := by
  unfold g_li at q
  split at q
  · next h => exact ⟨_, h, q⟩
  · exact q.elim
theorem g_lr_inv {L : gLo} {k : Nat} {f : Nat → Prop} (q : g_lr L k f) : ∃ a : Nat, g_lg L k = some (.ref a) ∧ f a := by
  unfold g_lr at q
  split at q
  · next h => exact ⟨_, h, q⟩
  · exact q.elim
theorem g_obj_inv {g : gS} {p c : Nat} {P : Prop} (q : g_obj g p c P) : g_shp p = .inr c ∧ p < g.1 ∧ P := by
  unfold g_obj at q
  split at q
  · exact q.elim
  · next h => exact ⟨by rw [h, q.1], q.2⟩
theorem g_ast_inv {z : Bool} {g : gS} {p : Nat} {i v : Int32} {f : gS → Prop} (q : g_ast z g p i v f) : ∃ n, g_shp p = .inl (z, n) ∧ p < g.1 ∧ vp_in i n ∧ f (g.1, g.2.1, g_up g.2.2 p i.toNatClampNeg v) := by
  unfold g_ast at q
  split at q
  · next w h =>
    obtain ⟨w1, w2⟩ := w
    obtain ⟨q1, q2⟩ := q
    dsimp only at q1 q2
    subst q1
    exact ⟨w2, h, q2⟩
  · exact q.elim
theorem g_ald_inv {X : gX} {z : Bool} {g : gS} {p : Nat} {i : Int32} {f : Int32 → Prop} (q : g_ald X z g p i f) : (p = 1000 ∧ z = false ∧ vp_in i X.1 ∧ f (X.2 i.toNatClampNeg)) ∨ (p ≠ 1000 ∧ ∃ n, g_shp p = .inl (z, n) ∧ p < g.1 ∧ vp_in i n ∧ f (g.2.2 p i.toNatClampNeg)) := by
  unfold g_ald at q
  split at q
  · next h => exact Or.inl ⟨h, q⟩
  · next hp =>
    split at q
    · next w h =>
      obtain ⟨w1, w2⟩ := w
      obtain ⟨q1, q2⟩ := q
      dsimp only at q1 q2
      subst q1
      exact Or.inr ⟨hp, w2, h, q2⟩
    · exact q.elim
theorem g_cv_ref {b0 b p : Nat} (h : p ≠ 1000) : g_cv b0 b (.ref p) = .ref (b + p) := by
  simp only [g_cv, if_neg h]
theorem g_pops_eq : ∀ (n : Nat) (st acc A r : List Value), g_pops n st acc = some (A, r) → A.length = n + acc.length ∧ A.reverse ++ r = acc.reverse ++ st
  | 0, st, acc, A, r, h => by
    simp only [g_pops, Option.some.injEq, Prod.mk.injEq] at h
    obtain ⟨rfl, rfl⟩ := h
    exact ⟨by omega, rfl⟩
  | n + 1, [], acc, A, r, h => by cases h
  | n + 1, v :: st, acc, A, r, h => by
    obtain ⟨h1, h2⟩ := g_pops_eq n st (v :: acc) A r h
    refine ⟨by rw [h1, List.length_cons]; omega, ?_⟩
    rw [h2]
    simp
section GSIM
variable {p : Program} {l : Launch} {e : Env} {R : Room} {s : State} {mm : MethodId} {args : Array Value} {below : List Frame} {meth : Method} {c : Code} {H : Heap} {locs : List Loc} {cells slots : Nat} {Q : State → Prop} {Dd : va_G} {cI cZ : ClassId} {b0 b : Nat} {X : gX}
theorem g_after {pc mc' ms' : Nat} {ls : Array Slot} {st0 rest : List Value} {v : Option Value} {g g1 : gS} {a' : Array Value} (hr : va_Run p l e R s mm args below meth c H locs cells slots mc' ms' (F0 mm pc ls st0) rest (g_Q Dd cI cZ b0 b (v, g1) a') (fun q => b ≤ q)) (hW : g_WH Dd cI cZ b0 b X g s H) (hS : va_S (fun q => b ≤ q) s.heap H locs) (hn : g.1 ≤ g1.1) (hbs : b ≤ s.heap.size)
    (kk : ∀ (H1 : Heap) (locs1 : List Loc), g_WH Dd cI cZ b0 b X g1 s H1 → va_S (fun q => b ≤ q) s.heap H1 locs1 → W p l e R s mm args below meth c H1 locs1 (cells + mc') (slots + ms') Q (F0 mm (pc + 3) ls ((v.map (g_cv b0 b)).toList ++ rest))) : W p l e R s mm args below meth c H locs cells slots Q (F0 mm pc ls st0) := by
  intro T hT X'
  obtain ⟨w, st₀, t, T', Lc, h0, X1, hL, e1, e2, ⟨hq1, hq2, hq3⟩, st⟩ := hr T hT X'
  have hw : w = v.map (g_cv b0 b) := Outcome.returned.inj hq1
  subst hw
  have hz : T'.heap.size = b + g1.1 := by rw [e1]; exact hq2.1
  have hz0 : H.size = b + g.1 := hW.1.1
  obtain ⟨t2, a1, b1⟩ := kk T'.heap (locs ++ Lc) ⟨by rw [e1]; exact hq2, hW.2.1, g_X.kept hW.2.1 hW.2.2 (fun q hq => by rw [e1, hq3 q hq, h0])⟩
    ⟨by have := hS.1; omega, fun q h1 h2 => by rw [e1, hq3 q (by omega), h0]; exact hS.2.1 q h1 h2, fun q hq => by
      rcases List.mem_append.mp hq with h | h
      · exact hS.2.2 q h
      · exact hL q h⟩ T' rfl X1
  exact ⟨t2, st t2 a1, b1⟩
/-- the callee's contract, its words, its start: for all kinds of call -/
theorem g_pre {A : List Value} {g : gS} (hEn : g_En Dd cI cZ s) (hW : g_WH Dd cI cZ b0 b X g s H) : ∀ U : State, U.heap = H → s.WarmedH U.vm → g_Pc Dd cI cZ b0 b X A g (A.map (g_cv b0 b)).toArray U := by
  intro U hU hWm
  refine ⟨rfl, ?_, hEn.warm hWm, ?_, hW.2.1, ?_⟩
  · rw [hU, hW.1.1]; omega
  · rw [hU]; exact hW.1
  · rw [hU]; exact va_X.moved hWm.alike hW.2.2
end GSIM
theorem g_push_map (b0 b : Nat) (v : Option Value) (r : List Value) : (g_push v r).map (g_cv b0 b) = (v.map (g_cv b0 b)).toList ++ r.map (g_cv b0 b) := by cases v <;> rfl
theorem g_cls_nm {c : Nat} {q : vw_C} (h : g_cls[c]? = some q) : q.1 = g_nm c := by
  match c, h with
  | 0, h => cases h; rfl
  | 1, h => cases h; rfl
  | 2, h => cases h; rfl
  | 3, h => cases h; rfl
  | 4, h => cases h; rfl
  | c + 5, h => simp [g_cls] at h
section GSIN
variable {p : Program} {l : Launch} {e : Env} {R : Room} {s : State} {mm : MethodId} {args : Array Value} {below : List Frame} {meth : Method} {c : Code} {H : Heap} {locs : List Loc} {cells slots mc ms : Nat} {Q : State → Prop} {Dd : va_G} {cI cZ : ClassId} {b0 b : Nat} {X : gX} {n m pc : Nat} {L : gLo} {ls : Array Slot} {g : gS} {rr : gR}
theorem g_cont (IH : g_Goal l Dd cI cZ b0 b X n) {r st0 : List Value} {v : Option Value} {g1 : gS} {a' : Array Value} (h4 : EvN X n m (pc + 3) L (g_push v r) g1 rr) (hn : g.1 ≤ g1.1) (hC : g_Cx Dd cI cZ p R s mm args meth c m) (hL : g_LR b0 b ls (g_meth m).2.2.2.1 L) (hW : g_WH Dd cI cZ b0 b X g s H) (hS : va_S (fun q => b ≤ q) s.heap H locs) (hbs : b ≤ s.heap.size)
    (hR : cells + rr.2.1 = mc + g.1 ∧ slots + g_slots rr.2.1 = ms + g_slots g.1 ∧ mc ≤ R.cells ∧ ms ≤ R.slots)
    (hr : cells + (g1.1 - g.1) ≤ R.cells ∧ slots + (g_slots g1.1 - g_slots g.1) ≤ R.slots → va_Run p l e R s mm args below meth c H locs cells slots (g1.1 - g.1) (g_slots g1.1 - g_slots g.1) (F0 mm pc ls st0) (r.map (g_cv b0 b)) (g_Q Dd cI cZ b0 b (v, g1) a') (fun q => b ≤ q)) :
    W p l e R s mm args below meth c H locs cells slots (MQ below (g_Q Dd cI cZ b0 b rr) args s mc ms (fun q => b ≤ q)) (F0 mm pc ls st0) := by
  have hn2 := EvN_n n h4
  have hs1 := g_slots_mono hn
  have hs2 := g_slots_mono hn2
  obtain ⟨r1, r2, r3, r4⟩ := hR
  refine g_after (hr ⟨by omega, by omega⟩) hW hS hn hbs (fun H1 locs1 hW1 hS1 => ?_)
  have := IH m (pc + 3) L (g_push v r) g1 rr h4 p e R s mm args below meth c H1 locs1 (cells + (g1.1 - g.1)) (slots + (g_slots g1.1 - g_slots g.1)) mc ms ls hC hL hW1 hS1 hbs ⟨by omega, by omega, r3, r4⟩
  rw [g_push_map] at this
  exact this
/-- what a link's words say -/
theorem g_lk_words {k y cn kd p1 p2 p3 p4 p5 : Nat} (h : (k, y, cn, kd, p1, p2, p3, p4, p5) ∈ g_lk) : g_okL (k, y, cn, kd, p1, p2, p3, p4, p5) = true := g_lk_ok _ h
theorem g_runV (IH : g_Goal l Dd cI cZ b0 b X n) (hC : g_Cx Dd cI cZ p R s mm args meth c m) (hL : g_LR b0 b ls (g_meth m).2.2.2.1 L) (hW : g_WH Dd cI cZ b0 b X g s H) {k y q : Nat} {A r st : List Value} {v : Option Value} {g1 : gS}
    (hlk : g_lk.any (fun q => decide (q.1 = k) && decide (q.2.1 = y) && decide (q.2.2.1 = (g_meth m).1) && decide (q.2.2.2.1 = 0)) = true) (hnb : A.length = (g_meth y).2.2.2.2.2.2.2) (hf1 : (g_meth y).2.2.2.2.2.1 + 1 ≤ (g_meth m).2.2.2.2.2.1) (hf2 : 8 + ((g_meth y).2.2.2.1 + 11) + (g_meth y).2.2.2.2.2.2.1 ≤ (g_meth m).2.2.2.2.2.2.1)
    (hdg : decode (g_meth m).2.2.1 pc = .ok (.invokevirtual k, 3)) (hst : (Value.ref q :: A).reverse ++ r = st) (ho : g_shp q = .inr (g_meth y).1) (hq : q < g.1) (hcat : (r.map fun v => v.category).sum ≤ 8) (hA : (Value.ref q :: A).length ≤ (g_meth y).2.2.2.1) (hAc : ((Value.ref q :: A).all fun v => v.category == 1) = true) (h3 : EvN X n y 0 (g_l0 y (.ref q :: A)) [] g (v, g1))
    (hf : cells + (g1.1 - g.1) ≤ R.cells ∧ slots + (g_slots g1.1 - g_slots g.1) ≤ R.slots) :
    ∃ a', va_Run p l e R s mm args below meth c H locs cells slots (g1.1 - g.1) (g_slots g1.1 - g_slots g.1) (F0 mm pc ls (st.map (g_cv b0 b))) (r.map (g_cv b0 b)) (g_Q Dd cI cZ b0 b (v, g1) a') (fun q => b ≤ q) := by
  obtain ⟨⟨hx, hb, hret, hml, hown⟩, hts, hlocks, hname, hfr, hlo, hEn⟩ := hC
  obtain ⟨⟨k', y', cn, kd, p1, p2, p3, p4, p5⟩, hmem, hh⟩ := List.any_eq_true.mp hlk
  simp only [Bool.and_eq_true, decide_eq_true_eq] at hh
  obtain ⟨⟨⟨rfl, rfl⟩, rfl⟩, rfl⟩ := hh
  have hw := g_lk_ok _ hmem
  simp only [g_okL, Bool.and_eq_true, decide_eq_true_eq] at hw
  obtain ⟨⟨⟨⟨⟨⟨⟨w1, w2⟩, w3⟩, w4⟩, w5⟩, w6⟩, w7⟩, ⟨w8, w9⟩, w10⟩ := hw
  have hq1000 : q ≠ 1000 := by have := hW.1.2.1; omega
  have hM := g_met IH (y := y') (A := .ref q :: A) w6 w1 hA hAc h3
  have hpl := hW.1.2.2 q hq
  unfold g_pl at hpl
  rw [ho] at hpl
  obtain ⟨rc, hrc, cell, hc1, hc2, hc3, hc4⟩ := hpl
  have hkn := (hEn.1.1 _ _ hrc).2.1
  refine ⟨_, va_runV (As := A.map (g_cv b0 b)) (rest := r.map (g_cv b0 b)) (b := b + q) (C := (g_meth y').2.1.cls) ⟨hx, hb, hml, hown, hts⟩ hM
    ⟨callB_of (g_meth y').2.2.2.2.2.2.2 hts (g_good (g_memT w2)) rfl rfl rfl (hts _ (g_memT w3)) (hts _ (g_memT w8)) ⟨w4, w5, w7⟩ ⟨Nat.le_trans hf1 hfr, Nat.le_trans hf2 hlo⟩, hts _ (g_memT w9), hts _ (g_memT w10)⟩
    ⟨g_Pc.blind, ⟨cell, hc1, by rw [hc3]; rfl, by rw [w1, ← g_cls_nm hrc, hc2]; exact hkn⟩, ?_⟩ rfl (by rw [List.length_map]; exact hnb) hL.1.1 ?_ ?_ hdg hf⟩
  · have := g_pre (A := .ref q :: A) hEn hW
    rw [List.map_cons, g_cv_ref hq1000] at this
    exact this
  · rw [← hst]
    simp [g_cv_ref hq1000]
  · refine lv_room ?_
    rw [List.map_map]
    have : ((fun v => v.category) ∘ g_cv b0 b) = fun v : Value => v.category := funext fun v => g_cv_cat b0 b v
    rw [this]
    exact hcat
theorem g_runS (IH : g_Goal l Dd cI cZ b0 b X n) (hC : g_Cx Dd cI cZ p R s mm args meth c m) (hL : g_LR b0 b ls (g_meth m).2.2.2.1 L) (hW : g_WH Dd cI cZ b0 b X g s H) {k y : Nat} {A r st : List Value} {v : Option Value} {g1 : gS}
    (hlk : g_lk.any (fun q => decide (q.1 = k) && decide (q.2.1 = y) && decide (q.2.2.1 = (g_meth m).1) && (decide (q.2.2.2.1 = 1) || decide (q.2.2.2.1 = 2))) = true) (hnb : A.length = (g_meth y).2.2.2.2.2.2.2) (hf1 : (g_meth y).2.2.2.2.2.1 + 1 ≤ (g_meth m).2.2.2.2.2.1) (hf2 : 8 + ((g_meth y).2.2.2.1 + 11) + (g_meth y).2.2.2.2.2.2.1 ≤ (g_meth m).2.2.2.2.2.2.1)
    (hdg : decode (g_meth m).2.2.1 pc = .ok (.invokestatic k, 3)) (hst : A.reverse ++ r = st) (hcat : (r.map fun v => v.category).sum ≤ 8) (hA : A.length ≤ (g_meth y).2.2.2.1) (hAc : (A.all fun v => v.category == 1) = true) (h3 : EvN X n y 0 (g_l0 y A) [] g (v, g1))
    (hf : cells + (g1.1 - g.1) ≤ R.cells ∧ slots + (g_slots g1.1 - g_slots g.1) ≤ R.slots) :
    ∃ a', va_Run p l e R s mm args below meth c H locs cells slots (g1.1 - g.1) (g_slots g1.1 - g_slots g.1) (F0 mm pc ls (st.map (g_cv b0 b))) (r.map (g_cv b0 b)) (g_Q Dd cI cZ b0 b (v, g1) a') (fun q => b ≤ q) := by
  obtain ⟨⟨hx, hb, hret, hml, hown⟩, hts, hlocks, hname, hfr, hlo, hEn⟩ := hC
  obtain ⟨⟨k', y', cn, kd, p1, p2, p3, p4, p5⟩, hmem, hh⟩ := List.any_eq_true.mp hlk
  simp only [Bool.and_eq_true, Bool.or_eq_true, decide_eq_true_eq] at hh
  obtain ⟨⟨⟨rfl, rfl⟩, rfl⟩, hkd⟩ := hh
  have hw := g_lk_ok _ hmem
  have hroom : 2 * (F0 mm pc ls (st.map (g_cv b0 b))).monitorRoom + ((r.map (g_cv b0 b)).map fun v => v.category).sum ≤ 8 := by
    refine lv_room ?_
    rw [List.map_map]
    have : ((fun v => v.category) ∘ g_cv b0 b) = fun v : Value => v.category := funext fun v => g_cv_cat b0 b v
    rw [this]
    exact hcat
  rcases hkd with rfl | rfl
  · simp only [g_okL, Bool.and_eq_true, decide_eq_true_eq] at hw
    obtain ⟨⟨⟨⟨⟨⟨⟨w1, w2⟩, w3⟩, w4⟩, w5⟩, w6⟩, w7⟩, w8, w9⟩ := hw
    have hM := g_met IH (y := y') (A := A) w6 w1 hA hAc h3
    exact ⟨_, va_runS (As := A.map (g_cv b0 b)) (rest := r.map (g_cv b0 b)) ⟨hx, hb, hml, hown, hts⟩ hM
      ⟨callB_of (g_meth y').2.2.2.2.2.2.2 hts (g_good (g_memT w2)) rfl rfl rfl (hts _ (g_memT w3)) (hts _ (g_memT w8)) ⟨w4, w5, w7⟩ ⟨Nat.le_trans hf1 hfr, Nat.le_trans hf2 hlo⟩, hts _ (g_memT w9)⟩
      ⟨g_Pc.blind, g_pre hEn hW⟩ rfl (by rw [List.length_map]; exact hnb) hL.1.1 (by rw [← hst]; simp) hroom hdg hf⟩
  · simp only [g_okL, Bool.and_eq_true, decide_eq_true_eq] at hw
    obtain ⟨⟨⟨⟨⟨⟨⟨w1, w2⟩, w3⟩, w4⟩, w5⟩, w6⟩, w7⟩, w8, w9⟩ := hw
    have hM := g_met IH (y := y') (A := A) w6 w1 hA hAc h3
    have hg := g_good (g_memT w2)
    have hcb := va_cnB (R := R) (rm := g_rm y' (g1.1 - g.1) (g_slots g1.1 - g_slots g.1)) (g_meth y').2.2.2.2.2.2.2 hts hg rfl rfl rfl (hEn.2 _ w8) (hts _ (g_memT w3)) ⟨w4, w5, w7⟩ ⟨Nat.le_trans hf1 hfr, Nat.le_trans hf2 hlo⟩
    exact ⟨_, va_runSN (As := A.map (g_cv b0 b)) (rest := r.map (g_cv b0 b)) ⟨hx, hb, hml, hown, hts⟩ hM
      ⟨hcb, hts _ (g_memT w9), trivial⟩
      ⟨g_Pc.blind, g_pre hEn hW⟩ rfl (by rw [List.length_map]; exact hnb) hL.1.1 (by rw [← hst]; simp) hroom hdg hf⟩
theorem g_runI (IH : g_Goal l Dd cI cZ b0 b X n) (hC : g_Cx Dd cI cZ p R s mm args meth c m) (hL : g_LR b0 b ls (g_meth m).2.2.2.1 L) (hW : g_WH Dd cI cZ b0 b X g s H) {k y q : Nat} {A r st : List Value} {v : Option Value} {g1 : gS}
    (hlk : g_lk.any (fun q => decide (q.1 = k) && decide (q.2.1 = y) && decide (q.2.2.1 = (g_meth m).1) && (decide (q.2.2.2.1 = 3) || decide (q.2.2.2.1 = 4))) = true) (hnb : A.length = (g_meth y).2.2.2.2.2.2.2) (hf1 : (g_meth y).2.2.2.2.2.1 + 1 ≤ (g_meth m).2.2.2.2.2.1) (hf2 : 8 + ((g_meth y).2.2.2.1 + 11) + (g_meth y).2.2.2.2.2.2.1 ≤ (g_meth m).2.2.2.2.2.2.1)
    (hdg : decode (g_meth m).2.2.1 pc = .ok (.invokespecial k, 3)) (hst : (Value.ref q :: A).reverse ++ r = st) (hcat : (r.map fun v => v.category).sum ≤ 8) (hA : (Value.ref q :: A).length ≤ (g_meth y).2.2.2.1) (hAc : ((Value.ref q :: A).all fun v => v.category == 1) = true) (h3 : EvN X n y 0 (g_l0 y (.ref q :: A)) [] g (v, g1))
    (hf : cells + (g1.1 - g.1) ≤ R.cells ∧ slots + (g_slots g1.1 - g_slots g.1) ≤ R.slots) :
    ∃ a', va_Run p l e R s mm args below meth c H locs cells slots (g1.1 - g.1) (g_slots g1.1 - g_slots g.1) (F0 mm pc ls (st.map (g_cv b0 b))) (r.map (g_cv b0 b)) (g_Q Dd cI cZ b0 b (v, g1) a') (fun q => b ≤ q) := by
  obtain ⟨⟨hx, hb, hret, hml, hown⟩, hts, hlocks, hname, hfr, hlo, hEn⟩ := hC
  obtain ⟨⟨k', y', cn, kd, p1, p2, p3, p4, p5⟩, hmem, hh⟩ := List.any_eq_true.mp hlk
  simp only [Bool.and_eq_true, Bool.or_eq_true, decide_eq_true_eq] at hh
  obtain ⟨⟨⟨rfl, rfl⟩, rfl⟩, hkd⟩ := hh
  have hw := g_lk_ok _ hmem
  have hroom : 2 * (F0 mm pc ls (st.map (g_cv b0 b))).monitorRoom + ((r.map (g_cv b0 b)).map fun v => v.category).sum ≤ 8 := by
    refine lv_room ?_
    rw [List.map_map]
    have : ((fun v => v.category) ∘ g_cv b0 b) = fun v : Value => v.category := funext fun v => g_cv_cat b0 b v
    rw [this]
    exact hcat
  have hpre := g_pre (A := .ref q :: A) hEn hW
  rw [List.map_cons, show g_cv b0 b (.ref q) = .ref (if q = 1000 then b0 else b + q) from rfl] at hpre
  have hstk : st.map (g_cv b0 b) = (A.map (g_cv b0 b)).reverse ++ Value.ref (if q = 1000 then b0 else b + q) :: r.map (g_cv b0 b) := by
    rw [← hst]
    simp [g_cv]
  rcases hkd with rfl | rfl
  · simp only [g_okL, Bool.and_eq_true, decide_eq_true_eq] at hw
    obtain ⟨⟨⟨⟨⟨⟨⟨w1, w2⟩, w3⟩, w4⟩, w5⟩, w6⟩, w7⟩, ⟨⟨w8, w9⟩, w10⟩, w11⟩ := hw
    have hM := g_met IH (y := y') (A := .ref q :: A) w6 w1 hA hAc h3
    have hg := g_good (g_memT w2)
    have hcb := callB_of (R := R) (rm := g_rm y' (g1.1 - g.1) (g_slots g1.1 - g_slots g.1)) (g_meth y').2.2.2.2.2.2.2 hts hg rfl rfl rfl (hts _ (g_memT w3)) (hts _ (g_memT w8)) ⟨w4, w5, w7⟩ ⟨Nat.le_trans hf1 hfr, Nat.le_trans hf2 hlo⟩
    rw [w11] at hcb
    exact ⟨_, va_runI (As := A.map (g_cv b0 b)) (rest := r.map (g_cv b0 b)) (b := if q = 1000 then b0 else b + q) ⟨hx, hb, hml, hown, hts⟩ hM
      ⟨hcb, w10, hts _ (g_memT w9)⟩
      ⟨g_Pc.blind, hpre⟩ rfl (by rw [List.length_map]; exact hnb) hL.1.1 hstk hroom hdg hf⟩
  · simp only [g_okL, Bool.and_eq_true, decide_eq_true_eq] at hw
    obtain ⟨⟨⟨⟨⟨⟨⟨w1, w2⟩, w3⟩, w4⟩, w5⟩, w6⟩, w7⟩, ⟨⟨w8, w9⟩, w10⟩, w11⟩ := hw
    have hM := g_met IH (y := y') (A := .ref q :: A) w6 w1 hA hAc h3
    have hg := g_good (g_memT w2)
    have hcb := va_cnB (R := R) (rm := g_rm y' (g1.1 - g.1) (g_slots g1.1 - g_slots g.1)) (g_meth y').2.2.2.2.2.2.2 hts hg rfl rfl rfl (hEn.2 _ w8) (hts _ (g_memT w3)) ⟨w4, w5, w7⟩ ⟨Nat.le_trans hf1 hfr, Nat.le_trans hf2 hlo⟩
    rw [w11] at hcb
    exact ⟨_, va_runIN (As := A.map (g_cv b0 b)) (rest := r.map (g_cv b0 b)) (b := if q = 1000 then b0 else b + q) ⟨hx, hb, hml, hown, hts⟩ hM
      ⟨hcb, w10, hts _ (g_memT w9)⟩
      ⟨g_Pc.blind, hpre⟩ rfl (by rw [List.length_map]; exact hnb) hL.1.1 hstk hroom hdg hf⟩
end GSIN
end
section
def g_rtI (m : Nat) (i : Instr) : Bool := match i with
  | .ireturn => decide ((g_meth m).2.2.2.2.1 = some .int) || decide ((g_meth m).2.2.2.2.1 = some .boolean)
  | .return_ => decide ((g_meth m).2.2.2.2.1 = none)
  | _ => true
theorem g_rt_ok : ∀ m, m < 150 → ((g_code m).all fun e => g_rtI m e.2.1) = true := by decide +kernel
theorem g_rt_at {m pc : Nat} {i : gI} (h : g_at m pc = some i) : g_rtI m i.1 = true := by
  have hm := g_look_mem _ h
  by_cases hlt : m < 150
  · exact List.all_eq_true.mp (g_rt_ok m hlt) _ hm
  · have : g_code m = [] := by
      obtain ⟨k, rfl⟩ : ∃ k, m = k + 150 := ⟨m - 150, by omega⟩
      rfl
    rw [this] at hm
    cases hm
theorem g_any_fl {k a b cn : Nat} (h : g_fl.any (fun q => decide (q.1 = k) && decide (q.2.1 = a) && decide (q.2.2.1 = b) && decide (q.2.2.2.1 = cn)) = true) : ∃ q, g_cls[a]? = some q ∧ b < q.2.2 ∧ Jvm.Cond.fieldLink (g_nm cn) k (q.2.1 b).1 (q.2.1 b).2.1 (q.2.1 b).2.2.1 ∈ g_tbl := by
  obtain ⟨⟨k', a', b', cn', pl⟩, hq, hh⟩ := List.any_eq_true.mp h
  simp only [Bool.and_eq_true, decide_eq_true_eq] at hh
  obtain ⟨⟨⟨rfl, rfl⟩, rfl⟩, rfl⟩ := hh
  have h1 := g_fl_ok _ hq
  unfold g_okF at h1
  dsimp only at h1
  split at h1
  · next q hq' =>
    simp only [Bool.and_eq_true, decide_eq_true_eq] at h1
    exact ⟨q, hq', h1.1, g_memT h1.2⟩
  · cases h1
theorem g_any_cs {k cn : Nat} {z : Int32} (h : g_cs.any (fun q => decide (q.1 = k) && decide (q.2.1 = z) && decide (q.2.2.1 = cn)) = true) : Jvm.Cond.constant (g_nm cn) k z ∈ g_tbl := by
  obtain ⟨⟨k', z', cn', pl⟩, hq, hh⟩ := List.any_eq_true.mp h
  simp only [Bool.and_eq_true, decide_eq_true_eq] at hh
  obtain ⟨⟨rfl, rfl⟩, rfl⟩ := hh
  exact g_memT (g_cs_ok _ hq)
theorem g_any_ob {k cn : Nat} (h : g_ob.any (fun q => decide (q.1 = k) && decide (q.2.1 = cn)) = true) : Jvm.Cond.methodLink (g_nm cn) k objectInit ∈ g_tbl := by
  obtain ⟨⟨k', cn', pl⟩, hq, hh⟩ := List.any_eq_true.mp h
  simp only [Bool.and_eq_true, decide_eq_true_eq] at hh
  obtain ⟨rfl, rfl⟩ := hh
  exact g_memT (g_ob_ok _ hq)
theorem g_any_mx {k cn : Nat} (h : g_mx.any (fun q => decide (q.1 = k) && decide (q.2.1 = cn)) = true) : Jvm.Cond.methodLink (g_nm cn) k Lib.Math.max.name ∈ g_tbl := by
  obtain ⟨⟨k', cn', pl⟩, hq, hh⟩ := List.any_eq_true.mp h
  simp only [Bool.and_eq_true, decide_eq_true_eq] at hh
  obtain ⟨rfl, rfl⟩ := hh
  exact g_memT (g_mx_ok _ hq)
theorem g_any_nw {k a cn : Nat} (h : g_nw.any (fun q => decide (q.1 = k) && decide (q.2.1 = a) && decide (q.2.2.1 = cn)) = true) : ∃ q, g_cls[a]? = some q ∧ Jvm.Cond.classLink (g_nm cn) k q.1 ∈ g_tbl ∧ Jvm.Cond.instantiable q.1 q.2.2 ∈ g_tbl ∧ Jvm.Cond.initialized q.1 ∈ g_tbl := by
  obtain ⟨⟨k', a', cn', p1, p2, p3⟩, hq, hh⟩ := List.any_eq_true.mp h
  simp only [Bool.and_eq_true, decide_eq_true_eq] at hh
  obtain ⟨⟨rfl, rfl⟩, rfl⟩ := hh
  have h1 := g_nw_ok _ hq
  unfold g_okN at h1
  dsimp only at h1
  split at h1
  · next q hq' =>
    simp only [Bool.and_eq_true] at h1
    exact ⟨q, hq', g_memT h1.1.1, g_memT h1.1.2, g_memT h1.2⟩
  · cases h1
theorem g_cat_map (b0 b : Nat) (r : List Value) : ((r.map (g_cv b0 b)).map fun v => v.category) = r.map fun v => v.category := by
  rw [List.map_map]
  exact congrArg (fun f => List.map f r) (funext fun v => g_cv_cat b0 b v)
theorem g_isR_int {c k : Nat} (h : g_isR c k = false) : g_tyf c k = .int := by
  unfold g_isR at h
  split at h
  · assumption
  · cases h
theorem g_fits_ref {c : Nat} {q : vw_C} (hc : g_cls[c]? = some q) {k : Nat} (hk : k < q.2.2) (h : g_isR c k = true) (a : Nat) : narrow (g_tyf c k) (.ref a) = .ref a ∧ fits (g_tyf c k) (.ref a) = true := by
  have h0 : ∀ t : FieldType, narrow t (.ref a) = .ref a := fun t => by cases t <;> rfl
  refine ⟨h0 _, ?_⟩
  have key : ∀ c, c < 5 → ∀ k, k < 25 → g_isR c k = true → (match g_tyf c k with
    | .object _ => true
    | .array _ => true
    | _ => false) = true := by decide +kernel
  have hc5 : c < 5 := by
    have := (List.getElem?_eq_some_iff.mp hc).1
    exact this
  have hk25 : k < 25 := by
    match c, hc with
    | 0, hc => cases hc; exact Nat.lt_of_lt_of_le hk (by decide)
    | 1, hc => cases hc; exact Nat.lt_of_lt_of_le hk (by decide)
    | 2, hc => cases hc; exact Nat.lt_of_lt_of_le hk (by decide)
    | 3, hc => cases hc; exact Nat.lt_of_lt_of_le hk (by decide)
    | 4, hc => cases hc; exact Nat.lt_of_lt_of_le hk (by decide)
    | c + 5, hc => omega
  have h1 := key c hc5 k hk25 h
  cases ht : g_tyf c k <;> rw [ht] at h1 <;> first | rfl | cases h1
set_option maxHeartbeats 8000000 in
theorem g_sim (l : Launch) (Dd : va_G) (cI cZ : ClassId) (b0 b : Nat) (X : gX) : ∀ n, g_Goal l Dd cI cZ b0 b X n
  | 0 => fun _ _ _ _ _ _ h => h.elim
  | n + 1 => by
    have IH := g_sim l Dd cI cZ b0 b X n
    intro m pc L st g rr hE p e R s mm args below meth c H locs cells slots mc ms ls hC hL hW hS hbs hR
    obtain ⟨i, hat, hdo⟩ := hE
    have hok := g_okA hat
    have hC0 := hC
    obtain ⟨⟨hx, hb, hret, hml, hown⟩, hts, hlocks, hname, hfr, hlo, hEn⟩ := hC
    have go : ∀ (pc' : Nat) (L' : gLo) (st' : List Value) (ls' : Array Slot), EvN X n m pc' L' st' g rr → g_LR b0 b ls' (g_meth m).2.2.2.1 L' → W p l e R s mm args below meth c H locs cells slots (MQ below (g_Q Dd cI cZ b0 b rr) args s mc ms (fun q => b ≤ q)) (F0 mm pc' ls' (st'.map (g_cv b0 b))) :=
      fun pc' L' st' ls' h hl => IH m pc' L' st' g rr h p e R s mm args below meth c H locs cells slots mc ms ls' hC0 hl hW hS hbs hR
    have goW : ∀ (pc' : Nat) (st' : List Value) (g' : gS) (H' : Heap) (locs' : List Loc), EvN X n m pc' L st' g' rr → g'.1 = g.1 → g_WP Dd cI cZ b0 b g' H' → H'.size = H.size → (∀ q, q < b → H'[q]? = H[q]?) → (∀ q ∈ locs', q ∈ locs ∨ b ≤ q.base) → W p l e R s mm args below meth c H' locs' cells slots (MQ below (g_Q Dd cI cZ b0 b rr) args s mc ms (fun q => b ≤ q)) (F0 mm pc' ls (st'.map (g_cv b0 b))) := by
      intro pc' st' g' H' locs' h hg hP hz ho hl
      refine IH m pc' L st' g' rr h p e R s mm args below meth c H' locs' cells slots mc ms ls hC0 hL ⟨hP, hW.2.1, g_X.kept hW.2.1 hW.2.2 ho⟩ ⟨by rw [hz]; exact hS.1, fun q h1 h2 => by rw [ho q (by omega)]; exact hS.2.1 q h1 h2, fun q hq => ?_⟩ hbs (by rw [hg]; exact hR)
      rcases hl q hq with h1 | h1
      · exact hS.2.2 q h1
      · exact h1
    obtain ⟨ins, a, bb, z⟩ := i
    cases ins
    case iconst v =>
      simp only [g_okI, Bool.and_eq_true, decide_eq_true_eq] at hok
      exact lv_iconst hx hb hok.1 hok.2 (go _ _ _ _ hdo hL)
    case bipush v =>
      simp only [g_okI, Bool.and_eq_true, decide_eq_true_eq] at hok
      exact lv_bipush hx hb hok.1 hok.2 (go _ _ _ _ hdo hL)
    case sipush v =>
      simp only [g_okI, Bool.and_eq_true, decide_eq_true_eq] at hok
      exact lv_sipush hx hb hok.1 hok.2 (go _ _ _ _ hdo hL)
    case ldc v =>
      simp only [g_okI, Bool.and_eq_true, decide_eq_true_eq] at hok
      exact lv_ldc hx hb hown (hts _ (g_any_cs hok.2)) hok.1 (go _ _ _ _ hdo hL)
    case ldc_w v =>
      simp only [g_okI, Bool.and_eq_true, decide_eq_true_eq] at hok
      exact lv_ldcw hx hb hown (hts _ (g_any_cs hok.2)) hok.1 (go _ _ _ _ hdo hL)
    case iload k =>
      simp only [g_okI, decide_eq_true_eq] at hok
      obtain ⟨v, h1, h2⟩ := g_li_inv hdo
      exact lv_iload hx hb hok (hL.get h1) (go _ _ _ _ h2 hL)
    case iload_n k =>
      simp only [g_okI, decide_eq_true_eq] at hok
      obtain ⟨v, h1, h2⟩ := g_li_inv hdo
      exact lv_iload_n hx hb hok rfl (hL.get h1) (go _ _ _ _ h2 hL)
    case aload k =>
      simp only [g_okI, decide_eq_true_eq] at hok
      obtain ⟨v, h1, h2⟩ := g_lr_inv hdo
      exact lv_aload hx hb hok (hL.get h1) (go _ _ _ _ h2 hL)
    case aload_n k =>
      simp only [g_okI, decide_eq_true_eq] at hok
      obtain ⟨v, h1, h2⟩ := g_lr_inv hdo
      exact lv_aload_n hx hb hok rfl (hL.get h1) (go _ _ _ _ h2 hL)
    case istore k =>
      simp only [g_okI, decide_eq_true_eq] at hok
      obtain ⟨v, r, rfl, h1, h2⟩ := g_s1_inv hdo
      exact lv_istore hx hb hok hL.1 (by rw [← hL.2.1]; exact h1) rfl (fun ls' h' => go _ _ _ _ h2 (hL.set (v := .int v) rfl h'))
    case istore_n k =>
      simp only [g_okI, decide_eq_true_eq] at hok
      obtain ⟨v, r, rfl, h1, h2⟩ := g_s1_inv hdo
      exact lv_istore_n hx hb hok rfl hL.1 (by rw [← hL.2.1]; exact h1) rfl (fun ls' h' => go _ _ _ _ h2 (hL.set (v := .int v) rfl h'))
    case astore k =>
      simp only [g_okI, decide_eq_true_eq] at hok
      obtain ⟨v, r, rfl, h1, h2⟩ := g_sr_inv hdo
      exact lv_astore hx hb hok hL.1 (by rw [← hL.2.1]; exact h1) rfl (fun ls' h' => go _ _ _ _ h2 (hL.set (v := .ref v) rfl h'))
    case astore_n k =>
      simp only [g_okI, decide_eq_true_eq] at hok
      obtain ⟨v, r, rfl, h1, h2⟩ := g_sr_inv hdo
      exact lv_astore_n hx hb hok rfl hL.1 (by rw [← hL.2.1]; exact h1) rfl (fun ls' h' => go _ _ _ _ h2 (hL.set (v := .ref v) rfl h'))
    case iinc k v =>
      simp only [g_okI, Bool.and_eq_true, decide_eq_true_eq] at hok
      obtain ⟨w, h1, h2, h3⟩ := g_li_inv hdo
      obtain ⟨j, hj⟩ := List.getElem?_of_mem ((g_ll_mem (b0 := b0) (b := b) (j := k) L 0).mpr ⟨k, .int w, by omega, h1, rfl⟩)
      exact lv_iinc (v := w + z) hx hb hok.1 hL.1 hj (by rw [hok.2]) (by rw [← hL.2.1]; exact h2) rfl (fun ls' h' => go _ _ _ _ h3 (hL.set (v := .int (w + z)) rfl h'))
    case iadd =>
      simp only [g_okI, decide_eq_true_eq] at hok
      obtain ⟨v, w, r, rfl, h⟩ := g_s2_inv hdo
      exact lv_iadd hx hb hok (go _ _ _ _ h hL)
    case isub =>
      simp only [g_okI, decide_eq_true_eq] at hok
      obtain ⟨v, w, r, rfl, h⟩ := g_s2_inv hdo
      exact lv_isub hx hb hok (go _ _ _ _ h hL)
    case imul =>
      simp only [g_okI, decide_eq_true_eq] at hok
      obtain ⟨v, w, r, rfl, h⟩ := g_s2_inv hdo
      exact lv_imul hx hb hok (go _ _ _ _ h hL)
    case iand =>
      simp only [g_okI, decide_eq_true_eq] at hok
      obtain ⟨v, w, r, rfl, h⟩ := g_s2_inv hdo
      exact lv_iand hx hb hok (go _ _ _ _ h hL)
    case ior =>
      simp only [g_okI, decide_eq_true_eq] at hok
      obtain ⟨v, w, r, rfl, h⟩ := g_s2_inv hdo
      exact lv_ior hx hb hok (go _ _ _ _ h hL)
    case ixor =>
      simp only [g_okI, decide_eq_true_eq] at hok
      obtain ⟨v, w, r, rfl, h⟩ := g_s2_inv hdo
      exact lv_ixor hx hb hok (go _ _ _ _ h hL)
    case ishl =>
      simp only [g_okI, decide_eq_true_eq] at hok
      obtain ⟨v, w, r, rfl, h⟩ := g_s2_inv hdo
      exact lv_ishl hx hb hok (go _ _ _ _ h hL)
    case ishr =>
      simp only [g_okI, decide_eq_true_eq] at hok
      obtain ⟨v, w, r, rfl, h⟩ := g_s2_inv hdo
      exact lv_ishr hx hb hok (go _ _ _ _ h hL)
    case iushr =>
      simp only [g_okI, decide_eq_true_eq] at hok
      obtain ⟨v, w, r, rfl, h⟩ := g_s2_inv hdo
      exact lv_iushr hx hb hok rfl (go _ _ _ _ h hL)
    case idiv =>
      simp only [g_okI, decide_eq_true_eq] at hok
      obtain ⟨v, w, r, rfl, h0, h⟩ := g_s2_inv hdo
      exact lv_idiv hx hb hok h0 (go _ _ _ _ h hL)
    case irem =>
      simp only [g_okI, decide_eq_true_eq] at hok
      obtain ⟨v, w, r, rfl, h0, h⟩ := g_s2_inv hdo
      exact lv_irem hx hb hok h0 (go _ _ _ _ h hL)
    case dup =>
      simp only [g_okI, decide_eq_true_eq] at hok
      match st, hdo with
      | v :: r, hdo => exact lv_dup hx hb hok (by rw [g_cv_cat]; exact hdo.1) (go _ _ _ _ hdo.2 hL)
    case pop =>
      simp only [g_okI, decide_eq_true_eq] at hok
      match st, hdo with
      | v :: r, hdo => exact lv_pop hx hb hok (by rw [g_cv_cat]; exact hdo.1) (go _ _ _ _ hdo.2 hL)
    case dup2 =>
      simp only [g_okI, decide_eq_true_eq] at hok
      match st, hdo with
      | v :: w :: r, hdo => exact lv_dup2_11 hx hb hok (by rw [g_cv_cat]; exact hdo.1) (by rw [g_cv_cat]; exact hdo.2.1) (go _ _ _ _ hdo.2.2 hL)
    case goto o =>
      simp only [g_okI, Bool.and_eq_true, decide_eq_true_eq] at hok
      exact lv_goto hx hb hok.1 hok.2 (go _ _ _ _ hdo hL)
    case if_icmp cd o =>
      simp only [g_okI, Bool.and_eq_true, decide_eq_true_eq] at hok
      obtain ⟨v, w, r, rfl, h1, h2⟩ := g_s2_inv hdo
      cases cd
      · exact lv_icmp_eq hx hb hok.1 hok.2 (fun q => go _ _ _ _ (h1 q) hL) (fun q => go _ _ _ _ (h2 q) hL)
      · exact lv_icmp_ne hx hb hok.1 hok.2 (fun q => go _ _ _ _ (h1 q) hL) (fun q => go _ _ _ _ (h2 (fun z => z q)) hL)
      · exact lv_icmp_lt hx hb hok.1 hok.2 (fun q => go _ _ _ _ (h1 q) hL) (fun q => go _ _ _ _ (h2 q) hL)
      · exact lv_icmp_ge hx hb hok.1 hok.2 (fun q => go _ _ _ _ (h1 q) hL) (fun q => go _ _ _ _ (h2 q) hL)
      · exact lv_icmp_gt hx hb hok.1 hok.2 (fun q => go _ _ _ _ (h1 q) hL) (fun q => go _ _ _ _ (h2 q) hL)
      · exact lv_icmp_le hx hb hok.1 hok.2 (fun q => go _ _ _ _ (h1 q) hL) (fun q => go _ _ _ _ (h2 q) hL)
    case ifCond cd o =>
      simp only [g_okI, Bool.and_eq_true, decide_eq_true_eq] at hok
      obtain ⟨v, r, rfl, h1, h2⟩ := g_s1_inv hdo
      cases cd
      · exact lv_if_eq hx hb hok.1 hok.2 (fun q => go _ _ _ _ (h1 q) hL) (fun q => go _ _ _ _ (h2 q) hL)
      · exact lv_if_ne hx hb hok.1 hok.2 (fun q => go _ _ _ _ (h1 q) hL) (fun q => go _ _ _ _ (h2 (fun z => z q)) hL)
      · exact lv_if_lt hx hb hok.1 hok.2 (fun q => go _ _ _ _ (h1 q) hL) (fun q => go _ _ _ _ (h2 q) hL)
      · exact lv_if_ge hx hb hok.1 hok.2 (fun q => go _ _ _ _ (h1 q) hL) (fun q => go _ _ _ _ (h2 q) hL)
      · exact lv_if_gt hx hb hok.1 hok.2 (fun q => go _ _ _ _ (h1 q) hL) (fun q => go _ _ _ _ (h2 q) hL)
      · exact lv_if_le hx hb hok.1 hok.2 (fun q => go _ _ _ _ (h1 q) hL) (fun q => go _ _ _ _ (h2 q) hL)
    case tableswitch d lo hi offs =>
      simp only [g_okI, Bool.and_eq_true, decide_eq_true_eq, List.all_eq_true] at hok
      obtain ⟨⟨⟨hd, h0⟩, hsz⟩, hall⟩ := hok
      obtain ⟨v, r, rfl, h⟩ := g_s1_inv hdo
      have hd2 : ∃ len, decode (g_meth m).2.2.1 pc = .ok (.tableswitch d lo hi offs, len) := by
        split at hd
        · next j len hj =>
          simp only [decide_eq_true_eq] at hd
          exact ⟨len, by rw [hj, hd]⟩
        · cases hd
      obtain ⟨len, hd3⟩ := hd2
      by_cases hr : v.toInt < lo ∨ hi < v.toInt
      · have ht : g_tgt pc d lo hi offs v = ((pc : Int) + d).toNat := by unfold g_tgt; rw [if_pos hr]
        rw [ht] at h
        exact lv_tableOut hx hb hd3 hr (by omega) (go _ _ _ _ h hL)
      · have hlt : (v.toInt - lo).toNat < offs.size := by omega
        have ho : offs[(v.toInt - lo).toNat]? = some (offs.getD (v.toInt - lo).toNat 0) := by
          simp [Array.getD, hlt]
        have hm : offs.getD (v.toInt - lo).toNat 0 ∈ offs.toList := by
          rw [← Array.getElem?_toList] at ho
          exact List.mem_of_getElem? ho
        have hp := hall _ hm
        have ht : g_tgt pc d lo hi offs v = ((pc : Int) + offs.getD (v.toInt - lo).toNat 0).toNat := by unfold g_tgt; rw [if_neg hr]
        rw [ht] at h
        exact lv_tableIn hx hb hd3 (fun q => hr (Or.inl q)) (fun q => hr (Or.inr q)) ho (by omega) (go _ _ _ _ h hL)
    case getfield k =>
      simp only [g_okI, Bool.and_eq_true, decide_eq_true_eq] at hok
      obtain ⟨q, r, rfl, h⟩ := g_sr_inv hdo
      obtain ⟨ho, hq, h⟩ := g_obj_inv h
      obtain ⟨cq, hc, hk, hlink⟩ := g_any_fl hok.2
      have hq1000 : q ≠ 1000 := by have := hW.1.2.1; omega
      have hpl := hW.1.2.2 q hq
      unfold g_pl at hpl
      rw [ho] at hpl
      obtain ⟨rc, hrc, hO⟩ := hpl
      cases hrc.symm.trans hc
      obtain ⟨c1, c2, c3⟩ := g_cls_ok hc
      have hP : va_P Dd g_cls [(b + q, .inr (a, (List.range cq.2.2).map (fun j => g_cv b0 b (g_av g.2.1 g.2.2 q a j))))] H := by
        intro j y hy
        match j, hy with
        | 0, hy =>
          cases hy
          refine ⟨cq, hc, hO.to (fun j hj => ?_)⟩
          simp [vp_V, hj]
        | j + 1, hy => simp at hy
      have hgo := go _ _ _ _ h hL
      rw [List.map_cons] at hgo
      show W p l e R s mm args below meth c H locs cells slots _ (F0 mm pc ls (g_cv b0 b (.ref q) :: r.map (g_cv b0 b)))
      rw [g_cv_ref hq1000]
      exact va_get (Ts := g_tbl) (own := g_nm (g_meth m).1) hx hb hts c3 hown hEn.1 hP 0 rfl hc bb hk (hts _ hlink) (fun _ h => h) (by simp [hk]) hok.1 hgo
    case putfield k =>
      simp only [g_okI, Bool.and_eq_true, decide_eq_true_eq] at hok
      obtain ⟨⟨hdg, hfl⟩, hfn⟩ := hok
      obtain ⟨cq, hc, hk, hlink⟩ := g_any_fl hfl
      obtain ⟨c1, c2, c3⟩ := g_cls_ok hc
      have hfin : (cq.2.1 bb).2.2.2 = false ∨ (meth.name = "<init>" ∧ (cq.2.1 bb).1 = g_nm (g_meth m).1) := by
        rw [hc] at hfn
        simp only [Bool.or_eq_true, Bool.and_eq_true, decide_eq_true_eq, Bool.not_eq_true'] at hfn
        rcases hfn with h | ⟨h1, h2⟩
        · exact Or.inl h
        · exact Or.inr ⟨hname h1, h2⟩
      have key : ∀ (v : Value) (q : Nat) (r : List Value) (g' : gS), g_shp q = .inr a → q < g.1 → narrow (g_tyf a bb) (g_cv b0 b v) = g_cv b0 b v → fits (g_tyf a bb) (g_cv b0 b v) = true → g'.1 = g.1 → (∀ y, y ≠ q → g'.2.1 y = g.2.1 y) → (∀ y, y ≠ q → g'.2.2 y = g.2.2 y) → (∀ j, g_cv b0 b (g_av g'.2.1 g'.2.2 q a j) = updV (fun j => g_cv b0 b (g_av g.2.1 g.2.2 q a j)) bb (g_cv b0 b v) j) → EvN X n m (pc + 3) L r g' rr →
          W p l e R s mm args below meth c H locs cells slots (MQ below (g_Q Dd cI cZ b0 b rr) args s mc ms (fun q => b ≤ q)) (F0 mm pc ls (g_cv b0 b v :: g_cv b0 b (.ref q) :: r.map (g_cv b0 b))) := by
        intro v q r g' ho hq hn1 hn2 hg hr hs hav h
        have hq1000 : q ≠ 1000 := by have := hW.1.2.1; omega
        have hpl := hW.1.2.2 q hq
        unfold g_pl at hpl
        rw [ho] at hpl
        obtain ⟨rc, hrc, hO⟩ := hpl
        cases hrc.symm.trans hc
        rw [g_cv_ref hq1000]
        refine gw_put (Ts := g_tbl) (own := g_nm (g_meth m).1) hx hb hts c3 (g_tyf a) c1 c2 hown hEn.1 hO hc bb hk (hts _ hlink) hfin hn1 hn2 hdg (fun H1 locs1 e1 e2 e3 e4 => ?_)
        refine goW _ _ g' _ _ h hg ?_ e2 (fun y hy => e3 y (by omega)) (fun y hy => ?_)
        · obtain ⟨n', ρ', σ'⟩ := g'
          obtain ⟨n0, ρ, σ⟩ := g
          dsimp only at hg hr hs hav hq ⊢
          subst hg
          refine hW.1.set (p := q) hr hs e2 e3 ?_
          unfold g_pl
          rw [ho]
          exact ⟨cq, hc, e1.to (fun j _ => (hav j).symm)⟩
        · rcases e4 y hy with h1 | h1
          · exact Or.inl h1
          · exact Or.inr (by rw [h1]; exact Nat.le_add_right _ _)
      match st, hdo with
      | .int v :: st', hdo =>
        obtain ⟨q, r, rfl, h⟩ := g_sr_inv hdo
        obtain ⟨ho, hq, hR1, h⟩ := g_obj_inv h
        have hti := g_isR_int hR1
        refine key (.int v) q r (g.1, g.2.1, g_up g.2.2 q bb v) ho hq (by rw [hti]; rfl) (by rw [hti]; rfl) rfl (fun _ _ => rfl) (fun y hy => by simp only [g_up, if_neg hy]) (fun j => ?_) h
        by_cases hj : j = bb
        · subst hj
          simp [updV, g_av, hR1, g_up, upd, g_cv]
        · simp [updV, g_av, g_up, upd, hj]
      | .ref v :: st', hdo =>
        obtain ⟨q, r, rfl, h⟩ := g_sr_inv hdo
        obtain ⟨ho, hq, hR1, hv1, h⟩ := g_obj_inv h
        obtain ⟨f1, f2⟩ := g_fits_ref hc hk hR1 (if v = 1000 then b0 else b + v)
        refine key (.ref v) q r (g.1, g_ur g.2.1 q bb (some v), g.2.2) ho hq f1 f2 rfl (fun y hy => by funext j; simp only [g_ur, if_neg hy]) (fun _ _ => rfl) (fun j => ?_) h
        by_cases hj : j = bb
        · subst hj
          simp [updV, g_av, hR1, g_ur, va_rf]
        · simp [updV, g_av, g_ur, hj]
    case iaload =>
      simp only [g_okI, decide_eq_true_eq] at hok
      obtain ⟨j, r0, rfl, h0⟩ := g_s1_inv hdo
      obtain ⟨q, r, rfl, h⟩ := g_sr_inv h0
      show W p l e R s mm args below meth c H locs cells slots _ (F0 mm pc ls (.int j :: g_cv b0 b (.ref q) :: r.map (g_cv b0 b)))
      rcases g_ald_inv h with ⟨rfl, -, hin, h⟩ | ⟨hq1000, len, ho, hq, hin, h⟩
      · have : g_cv b0 b (.ref 1000) = .ref b0 := rfl
        rw [this]
        exact va_sld (H0 := H) (A := fun q => b ≤ q) (locs := locs) hx hb hW.2.2 (by have := hW.1.1; have := hW.2.1; omega) (by have := hW.2.1; omega) ⟨Nat.le_refl _, fun _ _ _ => rfl, hS.2.2⟩ hin hok (go _ _ _ _ h hL)
      · rw [g_cv_ref hq1000]
        have hpl := hW.1.2.2 q hq
        unfold g_pl at hpl
        rw [ho] at hpl
        have hP : va_P Dd g_cls [(b + q, .inl (cI, len, .inl (g.2.2 q)))] H := by
          intro k y hy
          match k, hy with
          | 0, hy => cases hy; exact hpl
          | k + 1, hy => simp at hy
        exact va_iald hx hb hEn.1 hP 0 0 rfl rfl hin hok (go _ _ _ _ h hL)
    case baload =>
      simp only [g_okI, decide_eq_true_eq] at hok
      obtain ⟨j, r0, rfl, h0⟩ := g_s1_inv hdo
      obtain ⟨q, r, rfl, h⟩ := g_sr_inv h0
      show W p l e R s mm args below meth c H locs cells slots _ (F0 mm pc ls (.int j :: g_cv b0 b (.ref q) :: r.map (g_cv b0 b)))
      rcases g_ald_inv h with ⟨rfl, hz, hin, h⟩ | ⟨hq1000, len, ho, hq, hin, h⟩
      · cases hz
      · rw [g_cv_ref hq1000]
        have hpl := hW.1.2.2 q hq
        unfold g_pl at hpl
        rw [ho] at hpl
        have hP : va_P Dd g_cls [(b + q, .inl (cZ, len, .inl (g.2.2 q)))] H := by
          intro k y hy
          match k, hy with
          | 0, hy => cases hy; exact hpl
          | k + 1, hy => simp at hy
        exact va_zald hx hb hEn.1 hP 0 1 rfl rfl hin hok (go _ _ _ _ h hL)
    case iastore =>
      simp only [g_okI, decide_eq_true_eq] at hok
      obtain ⟨v, r0, rfl, h0⟩ := g_s1_inv hdo
      obtain ⟨j, r1, rfl, h1⟩ := g_s1_inv h0
      obtain ⟨q, r, rfl, h2⟩ := g_sr_inv h1
      obtain ⟨len, ho, hq, hin, h⟩ := g_ast_inv h2
      have hq1000 : q ≠ 1000 := by have := hW.1.2.1; omega
      have hpl := hW.1.2.2 q hq
      unfold g_pl at hpl
      rw [ho] at hpl
      show W p l e R s mm args below meth c H locs cells slots _ (F0 mm pc ls (.int v :: .int j :: g_cv b0 b (.ref q) :: r.map (g_cv b0 b)))
      rw [g_cv_ref hq1000]
      refine W.iast hx hb hpl ((hEn.1.2 0 _ rfl).1 len (fun j => .int (g.2.2 q j))) (fun q => by cases q) (by rw [arrV_size]; exact hin) rfl rfl hok fun H1 e1 e2 e3 => ?_
      refine goW _ _ _ _ _ h rfl ?_ e2 (fun y hy => e3 y (Nat.ne_of_lt (Nat.lt_of_lt_of_le hy (Nat.le_add_right b q)))) (fun y hy => ?_)
      · obtain ⟨n0, ρ, σ⟩ := g
        refine hW.1.set (p := q) (fun _ _ => rfl) (fun y hy => by simp only [g_up, if_neg hy]) e2 e3 ?_
        unfold g_pl
        rw [ho]
        rw [e1, arrV_store]
        congr 2
        funext y
        by_cases hy : y = j.toNatClampNeg
        · simp [updV, g_up, upd, hy]
        · simp [updV, g_up, upd, hy]
      · rcases List.mem_append.mp hy with h1 | h1
        · exact Or.inl h1
        · rw [List.mem_singleton.mp h1]
          exact Or.inr (Nat.le_add_right _ _)
    case bastore =>
      simp only [g_okI, decide_eq_true_eq] at hok
      obtain ⟨v, r0, rfl, h0⟩ := g_s1_inv hdo
      obtain ⟨j, r1, rfl, h1⟩ := g_s1_inv h0
      obtain ⟨q, r, rfl, h2⟩ := g_sr_inv h1
      obtain ⟨len, ho, hq, hin, h⟩ := g_ast_inv h2
      have hq1000 : q ≠ 1000 := by have := hW.1.2.1; omega
      have hpl := hW.1.2.2 q hq
      unfold g_pl at hpl
      rw [ho] at hpl
      show W p l e R s mm args below meth c H locs cells slots _ (F0 mm pc ls (.int v :: .int j :: g_cv b0 b (.ref q) :: r.map (g_cv b0 b)))
      rw [g_cv_ref hq1000]
      refine W.zast hx hb hpl ((hEn.1.2 1 _ rfl).1 len (fun j => .int (g.2.2 q j))) (fun q => by cases q) (by rw [arrV_size]; exact hin) rfl rfl hok fun H1 e1 e2 e3 => ?_
      refine goW _ _ _ _ _ h rfl ?_ e2 (fun y hy => e3 y (Nat.ne_of_lt (Nat.lt_of_lt_of_le hy (Nat.le_add_right b q)))) (fun y hy => ?_)
      · obtain ⟨n0, ρ, σ⟩ := g
        refine hW.1.set (p := q) (fun _ _ => rfl) (fun y hy => by simp only [g_up, if_neg hy]) e2 e3 ?_
        unfold g_pl
        rw [ho]
        rw [e1, arrV_store]
        congr 2
        funext y
        by_cases hy : y = j.toNatClampNeg
        · simp [updV, g_up, upd, hy, narrow]
        · simp [updV, g_up, upd, hy]
      · rcases List.mem_append.mp hy with h1 | h1
        · exact Or.inl h1
        · rw [List.mem_singleton.mp h1]
          exact Or.inr (Nat.le_add_right _ _)
    case arraylength =>
      simp only [g_okI, decide_eq_true_eq] at hok
      obtain ⟨q, r, rfl, h⟩ := g_sr_inv hdo
      show W p l e R s mm args below meth c H locs cells slots _ (F0 mm pc ls (g_cv b0 b (.ref q) :: r.map (g_cv b0 b)))
      by_cases hq1000 : q = 1000
      · rw [if_pos hq1000] at h
        subst hq1000
        have : g_cv b0 b (.ref 1000) = .ref b0 := rfl
        rw [this]
        exact va_slen (H0 := H) (A := fun q => b ≤ q) (locs := locs) hx hb hW.2.2 (by have := hW.1.1; have := hW.2.1; omega) (by have := hW.2.1; omega) ⟨Nat.le_refl _, fun _ _ _ => rfl, hS.2.2⟩ hok (go _ _ _ _ h hL)
      · rw [if_neg hq1000] at h
        rw [g_cv_ref hq1000]
        split at h
        · next w ho =>
          obtain ⟨w1, w2⟩ := w
          obtain ⟨hq, h⟩ := h
          have hpl := hW.1.2.2 q hq
          unfold g_pl at hpl
          rw [ho] at hpl
          have hP : va_P Dd g_cls [(b + q, .inl (if w1 then cZ else cI, w2, .inl (g.2.2 q)))] H := by
            intro k y hy
            match k, hy with
            | 0, hy => cases hy; exact hpl
            | k + 1, hy => simp at hy
          cases w1
          · exact va_alen (ty := .int) hx hb hEn.1 hP 0 0 rfl rfl rfl hok (go _ _ _ _ h hL)
          · exact va_alen (ty := .boolean) hx hb hEn.1 hP 0 1 rfl rfl rfl hok (go _ _ _ _ h hL)
        · exact h.elim
    case new k =>
      simp only [g_okI, Bool.and_eq_true, decide_eq_true_eq] at hok
      obtain ⟨hsh, h47, hr0, hs0, h⟩ := hdo
      obtain ⟨cq, hc, hn1, hn2, hn3⟩ := g_any_nw hok.2
      obtain ⟨c1, c2, c3⟩ := g_cls_ok hc
      have hle := EvN_n n h
      have hsl := g_slots_mono hle
      have hsz : g_slots (g.1 + 1) = g_slots g.1 + cq.2.2 := by show g_slots g.1 + g_sz g.1 = _; rw [g_sz_cls hc hsh]
      obtain ⟨r1, r2, r3, r4⟩ := hR
      dsimp only at hle hsl
      have hKn := hEn.1.1 a _ hc
      refine W.newcK (h := b + g.1) hx hb hown (hts _ hn1) (hts _ hn2) (hts _ hn3) rfl hok.1 (by omega) (by omega) hKn.2.1 hW.1.1 fun H1 kC hkC e1 z1 o1 => ?_
      have hWP : g_WP Dd cI cZ b0 b (g.1 + 1, g.2.1, g.2.2) H1 := by
        refine ⟨by rw [z1]; rfl, h47, fun q hq => ?_⟩
        dsimp only at hq ⊢
        by_cases hqg : q = g.1
        · subst hqg
          unfold g_pl
          rw [hsh]
          refine ⟨cq, hc, (u_born (g_tyf a) hts c3 hKn hkC e1 c1).to (fun j hj => ?_)⟩
          simp only [g_av, hr0, hs0]
          have key : ∀ c, c < 5 → ∀ k, k < 25 → defaultValue (g_tyf c k) = if g_isR c k then .null else .int 0 := by decide +kernel
          have ha : a < 5 := (List.getElem?_eq_some_iff.mp hc).1
          have hj25 : j < 25 := by
            match a, hc with
            | 0, hc => cases hc; exact Nat.lt_of_lt_of_le hj (by decide)
            | 1, hc => cases hc; exact Nat.lt_of_lt_of_le hj (by decide)
            | 2, hc => cases hc; exact Nat.lt_of_lt_of_le hj (by decide)
            | 3, hc => cases hc; exact Nat.lt_of_lt_of_le hj (by decide)
            | 4, hc => cases hc; exact Nat.lt_of_lt_of_le hj (by decide)
            | c + 5, hc => omega
          rw [key a ha j hj25]
          cases g_isR a j <;> rfl
        · exact (hW.1.2.2 q (by omega)).congr rfl rfl (o1 _ (by omega))
      have := IH m (pc + 3) L (.ref g.1 :: st) (g.1 + 1, g.2.1, g.2.2) rr h p e R s mm args below meth c H1 locs (cells + 1) (slots + cq.2.2) mc ms ls hC0 hL ⟨hWP, hW.2.1, g_X.kept hW.2.1 hW.2.2 (fun q hq => o1 q (by omega))⟩ ⟨by have := hS.1; have := hW.1.1; omega, fun q h1 h2 => by rw [o1 q (by omega)]; exact hS.2.1 q h1 h2, hS.2.2⟩ hbs ⟨by dsimp only; omega, by dsimp only; omega, r3, r4⟩
      rw [List.map_cons, g_cv_ref (by omega)] at this
      exact this
    case newarray t =>
      simp only [g_okI, decide_eq_true_eq] at hok
      obtain ⟨v, r, rfl, ht, hsh, hv0, hv2, h47, hs0, h⟩ := g_s1_inv hdo
      have hle := EvN_n n h
      have hsl := g_slots_mono hle
      have hsz : g_slots (g.1 + 1) = g_slots g.1 + v.toNatClampNeg := by show g_slots g.1 + g_sz g.1 = _; unfold g_sz; rw [hsh]
      obtain ⟨r1, r2, r3, r4⟩ := hR
      dsimp only at hle hsl
      have fin : ∀ (cA : ClassId) (H1 : Heap), (if decide (t = .boolean) = true then cZ else cI) = cA → H1[b + g.1]? = some (arrV cA v.toNatClampNeg (fun _ => .int 0)) → H1.size = b + g.1 + 1 → (∀ q, q < b + g.1 → H1[q]? = H[q]?) → W p l e R s mm args below meth c H1 locs (cells + 1) (slots + v.toNatClampNeg) (MQ below (g_Q Dd cI cZ b0 b rr) args s mc ms (fun q => b ≤ q)) (F0 mm (pc + 2) ls (.ref (b + g.1) :: r.map (g_cv b0 b))) := by
        intro cA H1 hA e1 z1 o1
        have hWP : g_WP Dd cI cZ b0 b (g.1 + 1, g.2.1, g.2.2) H1 := by
          refine ⟨by rw [z1]; rfl, h47, fun q hq => ?_⟩
          dsimp only at hq ⊢
          by_cases hqg : q = g.1
          · subst hqg
            unfold g_pl
            rw [hsh]
            dsimp only
            rw [hA, e1, hs0]
          · exact (hW.1.2.2 q (by omega)).congr rfl rfl (o1 _ (by omega))
        have := IH m (pc + 2) L (.ref g.1 :: r) (g.1 + 1, g.2.1, g.2.2) rr h p e R s mm args below meth c H1 locs (cells + 1) (slots + v.toNatClampNeg) mc ms ls hC0 hL ⟨hWP, hW.2.1, g_X.kept hW.2.1 hW.2.2 (fun q hq => o1 q (by omega))⟩ ⟨by have := hS.1; have := hW.1.1; omega, fun q h1 h2 => by rw [o1 q (by omega)]; exact hS.2.1 q h1 h2, hS.2.2⟩ hbs ⟨by dsimp only; omega, by dsimp only; omega, r3, r4⟩
        rw [List.map_cons, g_cv_ref (by omega)] at this
        exact this
      rcases ht with rfl | rfl
      · refine va_newaK (atype := .int) (h := b + g.1) hx hb (hts _ (g_memT g_ai_ok)) rfl hok (n := v) (rest := r.map (g_cv b0 b)) rfl hv0 rfl (by show v.toNatClampNeg * 4 ≤ _; omega) (by omega) (by omega) hW.1.1 fun H1 cA e1 z1 o1 hAr hNm => ?_
        have h2 : s.vm.findClass ("[" ++ (FieldType.int).toString) = some cI := (hEn.1.2 0 _ rfl).2
        have : cA = cI := Option.some.inj (hNm.symm.trans h2)
        subst this
        exact fin cA H1 rfl e1 z1 o1
      · refine va_newaK (atype := .boolean) (h := b + g.1) hx hb (hts _ (g_memT g_az_ok)) rfl hok (n := v) (rest := r.map (g_cv b0 b)) rfl hv0 rfl (by show v.toNatClampNeg * 1 ≤ _; omega) (by omega) (by omega) hW.1.1 fun H1 cA e1 z1 o1 hAr hNm => ?_
        have h2 : s.vm.findClass ("[" ++ (FieldType.boolean).toString) = some cZ := (hEn.1.2 1 _ rfl).2
        have : cA = cZ := Option.some.inj (hNm.symm.trans h2)
        subst this
        exact fin cA H1 rfl e1 z1 o1
    case invokestatic k =>
      simp only [g_okI, Bool.and_eq_true, decide_eq_true_eq] at hok
      simp only [g_do] at hdo
      by_cases h998 : a = 998
      · simp only [if_pos h998] at hok hdo
        simp only [Bool.and_eq_true, decide_eq_true_eq] at hok
        obtain ⟨v, w, r, rfl, hcat, h⟩ := g_s2_inv hdo
        refine va_mmax hx hb (by rw [hml]; exact hL.1.1.symm) hown (hts _ (g_any_mx hok.2.1.1)) (hts _ (g_memT g_mxS_ok)) (hts _ (g_memT g_mxI_ok)) (hts _ (g_memT g_mxC_ok)) (Nat.le_trans hok.2.1.2 hfr) (by rw [g_cat_map]; have := hok.2.2; omega) ?_ ?_ hok.1 (go _ _ _ _ h hL)
        · have := EvN_n n h; have := hR.1; have := hR.2.2.1; omega
        · have := g_slots_mono (EvN_n n h); have := hR.2.1; have := hR.2.2.2; omega
      · simp only [if_neg h998] at hok hdo
        simp only [Bool.and_eq_true, decide_eq_true_eq] at hok
        split at hdo
        · next A r hp =>
          obtain ⟨hcat, ⟨hA, hAc⟩, v, g1, h3, h4⟩ := hdo
          obtain ⟨q1, q2⟩ := g_pops_eq _ _ _ _ _ hp
          have hn1 := EvN_n n h3
          refine g_cont (a' := (A.map (g_cv b0 b)).toArray) IH h4 hn1 hC0 hL hW hS hbs hR (fun hf => ?_)
          obtain ⟨a', h⟩ := g_runS IH hC0 hL hW (L := L) hok.2.1.1.1 (by rw [q1, hok.2.1.1.2]; rfl) hok.2.1.2 hok.2.2 hok.1 (st := st) (by rw [q2]; rfl) hcat hA hAc h3 hf
          exact h
        · exact hdo.elim
    case invokevirtual k =>
      simp only [g_okI, Bool.and_eq_true, decide_eq_true_eq] at hok
      simp only [g_do] at hdo
      split at hdo
      · next q A r hp =>
        obtain ⟨ho, hq, hdo⟩ := g_obj_inv hdo
        obtain ⟨hcat, ⟨hA, hAc⟩, v, g1, h3, h4⟩ := hdo
        obtain ⟨q1, q2⟩ := g_pops_eq _ _ _ _ _ hp
        have hn1 := EvN_n n h3
        refine g_cont (a' := #[]) IH h4 hn1 hC0 hL hW hS hbs hR (fun hf => ?_)
        obtain ⟨a', h⟩ := g_runV IH hC0 hL hW (L := L) hok.1.1.1.2 (by have := q1; simp at this; rw [this, hok.1.1.2]) hok.1.2 hok.2 hok.1.1.1.1 (st := st) (by rw [q2]; rfl) ho hq hcat hA hAc h3 hf
        exact h
      · exact hdo.elim
    case invokespecial k =>
      simp only [g_okI, Bool.and_eq_true, decide_eq_true_eq] at hok
      simp only [g_do] at hdo
      by_cases h999 : a = 999
      · simp only [if_pos h999] at hok hdo
        simp only [Bool.and_eq_true, decide_eq_true_eq] at hok
        split at hdo
        · next q =>
          exact W.objInit hx hb hown (hts _ (g_any_ob hok.2.1.1)) (hts _ (g_memT g_obI_ok)) (hts _ (g_memT g_obC_ok)) rfl (by rw [hml]; exact hL.1.1) rfl hok.1 (Nat.le_trans hok.2.1.2 hfr) (by show 2 * 0 + 0 + 12 ≤ _; have := hok.2.2; omega) (go _ _ _ _ hdo hL)
        · exact hdo.elim
      · simp only [if_neg h999] at hok hdo
        simp only [Bool.and_eq_true, decide_eq_true_eq] at hok
        split at hdo
        · next q A r hp =>
          obtain ⟨hcat, ⟨hA, hAc⟩, v, g1, h3, h4⟩ := hdo
          obtain ⟨q1, q2⟩ := g_pops_eq _ _ _ _ _ hp
          have hn1 := EvN_n n h3
          refine g_cont (a' := #[]) IH h4 hn1 hC0 hL hW hS hbs hR (fun hf => ?_)
          obtain ⟨a', h⟩ := g_runI IH hC0 hL hW (L := L) hok.2.1.1.1 (by have := q1; simp at this; rw [this, hok.2.1.1.2]) hok.2.1.2 hok.2.2 hok.1 (st := st) (by rw [q2]; rfl) hcat hA hAc h3 hf
          exact h
        · exact hdo.elim
    case ireturn =>
      simp only [g_okI, decide_eq_true_eq] at hok
      match st, hdo with
      | [.int v], hdo =>
        obtain ⟨hz, hrr⟩ := hdo
        subst hrr
        obtain ⟨r1, r2, r3, r4⟩ := hR
        dsimp only at r1 r2
        have e1 : cells = mc := by omega
        have e2 : slots = ms := by omega
        subst e1; subst e2
        have hrt := g_rt_at hat
        have hq : ∀ t : State, t.heap = H → s.WarmedH t.vm → g_Q Dd cI cZ b0 b (some (.int v), g) args s (.returned (some (.int v))) t := fun t ht _ => ⟨rfl, by rw [ht]; exact hW.1, fun q hq => by rw [ht]; exact hS.2.1 q (by omega) (by omega)⟩
        dsimp only [g_rtI] at hrt
        simp only [Bool.or_eq_true, decide_eq_true_eq] at hrt
        rcases hrt with hrt | hrt
        · exact W.iret hx hb (by rw [hret, hrt]) hq hS.2.2 hok
        · exact W.zret (ty := .boolean) hx hb (by rw [hret, hrt]) (by show Value.int (v &&& 1) = _; rw [hz (by unfold g_isZ; rw [hrt])]) hq hS.2.2 hok
    case return_ =>
      simp only [g_okI, decide_eq_true_eq] at hok
      obtain ⟨rfl, hrr⟩ := hdo
      subst hrr
      obtain ⟨r1, r2, r3, r4⟩ := hR
      dsimp only at r1 r2
      have e1 : cells = mc := by omega
      have e2 : slots = ms := by omega
      subst e1; subst e2
      have hrt := g_rt_at hat
      dsimp only [g_rtI] at hrt
      simp only [decide_eq_true_eq] at hrt
      exact W.vret hx hb (by rw [hret, hrt]) (fun t ht _ => ⟨rfl, by rw [ht]; exact hW.1, fun q hq => by rw [ht]; exact hS.2.1 q (by omega) (by omega)⟩) hS.2.2 hok
    all_goals exact hdo.elim
end
section
/-- where all begins: no cell stands -/
def g_0 : gS := (0, fun _ _ => none, fun _ _ => 0)
theorem law_ev (X : gX) (hX : X.1 ≤ 2048) : ∃ (ρ : Nat → Nat → Option Nat) (σ : Nat → Nat → Int32), Ev X 149 0 [some (.ref 1000), none, none, none] [] g_0 (some (.int 1), (47, ρ, σ)) := by
  sorry
end
section
-- ===== end of PART A; then your names; then what follows =====
/-! THE CLAIM OUT OF ONE WALK OF THE LAW'S BODY. Your part is whole_start (and what it stands on); all else here is the same for every law, but numbers. -/
def R_law : String := "SwitchBookLaw"
def lw_P (b : Addr) (xs : List Int32) (args : Array Value) (s : State) : Prop := args = #[.ref b] ∧ s.IntsAt b xs ∧ xs.length ≤ 2048 ∧ (Jvm.Cond.and given_1 narrow_1).before args s = true
def lw_Q (_ : Array Value) (s : State) (o : Outcome) (t : State) : Prop := o = .returned (some (.int 1)) ∧ Framed s o t [] 47 5037
def lw_Z (below : List Frame) (a : Array Value) (s : State) : State → Prop := fun t => ∃ o, t.status = .running ∧ Ended t below o ∧ lw_Q a s o t
/-- the law's own end, with 1 on the stack, nothing written that was there before, its room as the claim has it -/
theorem lw_ret {p : Program} {l : Launch} {e : Env} {s : State} {m : MethodId} {below : List Frame} {meth : Method} {c : Code} {b : Nat} (hx : p.tables.exec = Jvm.exec) (hb : c.code = code) (hr : meth.sig.returnType = ret) (hlocks : meth.locks = false) {pc : Nat} {H : Heap} {ls : Array Slot} (hdg : decode code pc = .ok (.ireturn, 1)) : W p l e room_1 s m #[Value.ref b] below meth c H [] 47 5037 (lw_Z below #[Value.ref b] s) (F0 m pc ls [.int 1]) := by
  intro T hT X
  obtain ⟨fs, hret, hrun, hended, hW, hframe⟩ := X.leave (v := some (.int 1)) (hlocks := hlocks) (fun h => by rw [hr] at h; cases h)
  have hmeth' : T.vm.method? m = some meth := X.method'
  refine ⟨T.setFrames fs, ?_, .returned (some (.int 1)), hrun, hended, rfl, ⟨_, rfl⟩, hW, hframe⟩
  jvm_step X.here [X.here.top, hx, hb, hdg, hmeth', hr, ret, narrow_b1]
  (try refine ⟨rfl, ?_⟩); (try refine ⟨rfl, ?_⟩)
  first | (intro acts; rw [hret _ acts rfl rfl rfl]) | rw [hret _ _ rfl rfl rfl]
  exact Steps.refl _
/-- what holds at the law's entry: the machine, the code, the tables' words (any of lw_tbl by 'hts w (by decide +kernel)'), the script of L ints xs at the cell b, what the Statement gives of the start (any of its parts by flat_of_before) -/
def lw_At (p : Program) (s : State) (m : MethodId) (meth : Method) (c : Code) (b L : Nat) (xs : Nat → Int32) : Prop :=
  p.tables.exec = Jvm.exec ∧ c.code = code ∧ meth.sig.returnType = ret ∧ c.maxLocals = 4 ∧ s.vm.findClass R_law = some m.cls ∧ (∀ w ∈ lw_tbl, w.before #[Value.ref b] s = true) ∧ va_X b L xs s s.heap ∧ b < s.heap.size ∧ meth.locks = false ∧ (Jvm.Cond.and given_1 narrow_1).before #[Value.ref b] s = true
theorem g_nest_in : ∀ w ∈ g_nest, Jvm.Cond.methodLinkNest w.1 w.2.1 w.2.2 "SwitchBook" ∈ lw_tbl := by decide +kernel
theorem g_inst_in : ∀ c ∈ g_cls, Jvm.Cond.instantiable c.1 c.2.2 ∈ lw_tbl := by decide +kernel
theorem g_tbl_sub {w : Jvm.Cond} (h : w ∈ g_tbl) : w ∈ lw_tbl := (List.mem_filter.mp h).1
theorem g_slots47 : g_slots 47 = 5037 := by decide +kernel
set_option maxHeartbeats 4000000 in
theorem whole_start {p : Program} {e : Env} {s : State} {m : MethodId} {below : List Frame} {meth : Method} {c : Code} (l : Launch) (hflags : l.flags = flags0) {b L : Nat} {xs : Nat → Int32} (hL : L ≤ 2048) (C0 : lw_At p s m meth c b L xs) : W p l e room_1 s m #[Value.ref b] below meth c s.heap [] 0 0 (lw_Z below #[Value.ref b] s) (entryFrame m ([Value.ref b] : List Value).toArray 4) := by
  obtain ⟨hx, hb, hr, hml, hown, hts, hX, hbl, hlocks, hgv⟩ := id C0
  have hks : ∀ (k : Nat) (q : vw_C), g_cls[k]? = some q → ∃ (cC : ClassId) (iS : Nat → Nat), u_Kn s q.1 q.2.1 q.2.2 cC iS := fun k q hq =>
    u_known hts (fun w hw => g_tbl_sub ((g_cls_ok hq).2.2 w hw)) (hts _ (g_inst_in q (List.mem_of_getElem? hq)))
  obtain ⟨dC, dI, hKc⟩ : ∃ (dC : Nat → ClassId) (dI : Nat → Nat → Nat), ∀ (k : Nat) (q : vw_C), g_cls[k]? = some q → u_Kn s q.1 q.2.1 q.2.2 (dC k) (dI k) := by
    have h : ∀ k : Nat, ∃ (cd : ClassId × (Nat → Nat)), ∀ (q : vw_C), g_cls[k]? = some q → u_Kn s q.1 q.2.1 q.2.2 cd.1 cd.2 := by
      intro k
      cases hk : g_cls[k]? with
      | none => exact ⟨(0, fun _ => 0), fun q h => by cases h⟩
      | some q0 =>
        obtain ⟨c1, c2, h⟩ := hks k q0 hk
        exact ⟨(c1, c2), fun q h' => by cases h'; exact h⟩
    exact ⟨fun k => (Classical.choose (h k)).1, fun k => (Classical.choose (h k)).2, fun k q hq => Classical.choose_spec (h k) q hq⟩
  obtain ⟨cI, kI, compI, i1, i2, i3⟩ := Cond.arrayClass_spec (hts _ (g_tbl_sub (g_memT g_ai_ok)))
  obtain ⟨cZ, kZ, compZ, z1, z2, z3⟩ := Cond.arrayClass_spec (hts _ (g_tbl_sub (g_memT g_az_ok)))
  have hEn : g_En (dC, dI) cI cZ s := by
    refine ⟨⟨hKc, fun k q hq => ?_⟩, fun w hw => va_Nw.of rfl (hts _ (g_nest_in w hw))⟩
    match k, hq with
    | 0, hq => cases hq; exact ⟨fun n z => ⟨fun k h => (by cases h), kI, i2, compI, i3⟩, i1⟩
    | 1, hq => cases hq; exact ⟨fun n z => ⟨fun k h => (by cases h), kZ, z2, compZ, z3⟩, z1⟩
    | k + 2, hq => simp at hq
  obtain ⟨ρ, σ, n, hev⟩ := law_ev (L, xs) hL
  have hWH : g_WH (dC, dI) cI cZ b s.heap.size (L, xs) g_0 s s.heap := ⟨⟨rfl, Nat.zero_le _, fun p hp => absurd hp (Nat.not_lt_zero p)⟩, hbl, hX⟩
  have hC : g_Cx (dC, dI) cI cZ p room_1 s m #[Value.ref b] meth c 149 := ⟨⟨hx, hb, hr, hml, hown⟩, fun w hw => hts w (g_tbl_sub hw), hlocks, fun h => absurd h (by decide +kernel), by decide, by decide, hEn⟩
  have hLR : g_LR b s.heap.size _ 4 [some (.ref 1000), none, none, none] := g_LR.entry (b0 := b) (b := s.heap.size) (A := [.ref 1000]) (n := 4) (fun v hv => by cases List.mem_singleton.mp hv; rfl) (by decide)
  have key := g_sim l (dC, dI) cI cZ b s.heap.size (L, xs) n 149 0 _ [] g_0 _ hev p e room_1 s m #[Value.ref b] below meth c s.heap [] 0 0 47 5037 _ hC hLR hWH va_S.rf (Nat.le_refl _) ⟨rfl, by show 0 + g_slots 47 = 5037 + 0; rw [g_slots47], by decide, by decide⟩
  rw [lg_entry_eq]
  intro T hT X
  obtain ⟨t, a1, o, b1, b2, ⟨q1, -, -⟩, Lc, ⟨f1, f2, f3⟩, hfree⟩ := key T hT X
  refine ⟨t, a1, o, b1, b2, q1, f1, f2, f3.weaken (fun y hy hlt => ?_) (Nat.le_refl _) (Nat.le_refl _)⟩
  exact absurd hlt (Nat.not_lt.mpr (hfree y hy))
set_option maxHeartbeats 4000000 in
theorem lw_walk (l : Launch) (hflags : l.flags = flags0) (b : Addr) (xs : List Int32) : MetFree l x (headSpec (Jvm.Cond.code x code maxLocals ret :: tables_1) room_1) (lw_P b xs) (fun _ _ _ _ _ => True) lw_Q := by
  refine MetFree.of_bodyS (code := code) (maxLocals := maxLocals) (ret := ret) (by decide) ?_ ?_
  · intro args s m h hn
    obtain ⟨meth, c, h1, h2, h3, h4, h5, h6, -, -⟩ := Cond.code_spec hn (atoms_spec (ws := Jvm.Cond.code x code maxLocals ret :: tables_1) h _ List.mem_cons_self)
    exact ⟨meth, c, h1, h2, h3, h4, h5, h6⟩
  · intro p e s m args below meth c s₁ B hml0 hP _
    obtain ⟨rfl, hx, hbd, hgv⟩ := hP
    obtain ⟨scr, harrAt, hlist, hof, hsmall⟩ := hx
    obtain ⟨hcb, hkn, -, -⟩ := State.arrayAt?_spec harrAt
    have hown : s.vm.findClass R_law = some m.cls := findClass_of_methodNamed B.named
    have hts0 : ∀ c ∈ (Jvm.Cond.code x code maxLocals ret :: tables_1), c.before #[Value.ref b] s = true := atoms_spec (ws := Jvm.Cond.code x code maxLocals ret :: tables_1) B.pre
    have hts : ∀ w ∈ lw_tbl, w.before #[Value.ref b] s = true := k2_hts_sels lw_privs (fun w hw => hts0 w (List.mem_cons_of_mem _ hw)) lw_privs_ok
    have hml : c.maxLocals = 4 := B.maxLocals_eq (hts0 _ List.mem_cons_self)
    have X₀ : Stand p l e room_1 s m #[Value.ref b] below meth c s₁ [] 0 0 := Stand.of_body B
    have hh0 : s₁.heap = s.heap := by rw [B.state]; rfl
    have hsz : scr.slots.size = xs.length := by rw [← Array.length_toList, hlist, List.length_map]
    have hval : ∀ j : Nat, j < xs.length → scr.slots[j]? = some (.int (xs.getD j 0)) := fun j hj => by
      rw [← Array.getElem?_toList, hlist]
      simp [hj]
    have hbl : b < s.heap.size := (Array.getElem?_eq_some_iff.mp hcb).1
    have hX : va_X b xs.length (fun j => xs.getD j 0) s s.heap := ⟨scr, hcb, hof, hkn, hsz, hval⟩
    have K : W p l e room_1 s m #[Value.ref b] below meth c s₁.heap [] 0 0 (lw_Z below #[Value.ref b] s) (entryFrame m ([Value.ref b] : List Value).toArray 4) := by
      rw [hh0]
      exact whole_start l hflags hbd ⟨B.exec, B.bytes, B.returns, hml, hown, hts, hX, hbl, B.notSynchronized, hgv⟩
    obtain ⟨t, a1, o, b1, b2, b3⟩ := K s₁ rfl X₀
    exact ⟨t, o, a1, b1, b2, b3⟩
theorem lw_pre_spec {args : Array Value} {s : State} (h : (Jvm.Cond.and given_1 narrow_1).before args s = true) (hr : rest_1_c.before args s = true) : ∃ (b : Addr) (xs : List Int32), lw_P b xs args s := by
  have hs := flat_of_before _ h
  have hq := flat_of_before _ hr
  have hc : (Cond.count 1).before args s = true := hs _ (by decide +kernel)
  have harr : (Cond.arrayOf (.arg 0) .int).before args s = true := hs _ (by decide +kernel)
  have hle : (Cond.le (.length (.arg 0)) (.int 2048)).before args s = true := hs _ (by decide +kernel)
  have hlen : (Cond.isInt (.length (.arg 0))).before args s = true := hq _ (by decide +kernel)
  have hall : (Cond.all (.arg 0) (.isInt (.elem (.arg 0) (.index 0)))).before args s = true := hq _ (by decide +kernel)
  obtain ⟨b, xs, hb, hx⟩ := State.ints_of_pre rfl harr hlen hall
  have hsm : xs.length < 2 ^ 31 := hx.choose_spec.2.2.2
  have hev : (Term.length (.arg 0)).eval args s none [] s = some (.int xs.length.toInt32) := hx.length_eval hb
  have hv := Cond.le_ints hev (show (Term.int 2048).eval args s none [] s = some (.int 2048) from rfl)
  have hd : xs.length.toInt32 ≤ 2048 := by
    simpa [Cond.before, Cond.holds, hv] using hle
  have hN : xs.length ≤ 2048 := (Int32.ofNat_le_ofNat hsm (by decide)).mp (show Int32.ofNat xs.length ≤ Int32.ofNat 2048 from hd)
  exact ⟨b, xs, Cond.one_arg hc (show args[0]? = some (.ref b) from hb), hx, hN, h⟩
theorem lw_comes (l : Launch) (hflags : l.flags = flags0) : Comes l x (Jvm.Cond.code x code maxLocals ret :: tables_1) room_1 (fun tb e args s => Calls_1 tb e args s ∧ rest_1 tb e args s ∧ Pre_1 tb e args s)
    (fun _ _ args s o t => lw_Q args s o t) := by
  intro p e ha hc hk s m args below hf hfit hheap happ hpre
  obtain ⟨b, xs, hP⟩ := lw_pre_spec hpre.2.2 hpre.2.1
  obtain ⟨k, o, h1, h2, h3, hQ⟩ := lw_walk l hflags b xs p e ha hc hk s m args below hf ((Spec.applies_iff_loose hf).mp happ).1 hP trivial
  exact ⟨k, o, h1, h2, h3, hQ⟩
theorem lw_frame {s t : State} {o : Outcome} {args : Array Value} (h : Framed s o t [] 47 5037) :
    Framed s o t (fieldLocs frame_1_writes args s ++ arrayLocs frame_1_arrays args s ++ staticLocs frame_1_statics s) 47 5037 := h
theorem lw_limb (L : Cond) (hL : ∀ (args : Array Value) (s t : State), L.after args s (.returned (some (.int 1))) t = true) :
    ArmFor flags0 classFile x code maxLocals ret World_1 tables_1 room_1 Calls_1 rest_1 Pre_1
      (fun tb e a s o t => postC L tb e a s o t ∧ Framed s o t (fieldLocs frame_1_writes a s ++ arrayLocs frame_1_arrays a s ++ staticLocs frame_1_statics s) 47 5037) := by
  intro l hflags _ _ p e ha hc hk s m args below hf hfit hheap happ hpre
  obtain ⟨k, o, h1, h2, h3, rfl, hF⟩ := lw_comes l hflags p e ha hc hk s m args below hf hfit hheap happ hpre
  exact ⟨k, _, h1, h2, h3, hL args s _, lw_frame hF⟩
theorem i_vc : Claimed_1_1 ∧ Claimed_1_2 := ⟨lw_limb limb_1_1 (fun args s t => by simp [limb_1_1, Cond.after, Cond.holds, Cond.value]), lw_limb limb_1_2 (fun args s t => Cond.after_iff.mpr (by
  first | (rw [show limb_1_2 = Cond.eq .result (.int 1) from rfl, Cond.eq_ints (x := 1) (y := 1) rfl rfl]; simp; done) | (simp [limb_1_2, Cond.value, Term.eval]; done)))⟩
end
