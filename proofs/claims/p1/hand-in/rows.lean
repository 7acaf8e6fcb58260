section
def lw_okq (q : MethodName × Nat) : Prop := (q.1.cls ≠ "java/lang/invoke/MethodHandle" ∧ q.1.cls ≠ "java/lang/invoke/VarHandle") ∧ Cond.instantiable q.1.cls q.2 ∈ tables_1 ∧ Cond.privateMethod q.1 ∈ tables_1 ∧ Cond.instanceMethod q.1 ∈ tables_1
theorem lw_p0 : lw_okq (⟨"LinkText", "feedFour", "(I)V"⟩, 6) := ⟨⟨by decide +kernel, by decide +kernel⟩, List.mem_of_getElem? (i := 15) (by decide +kernel), List.mem_of_getElem? (i := 163) (by decide +kernel), List.mem_of_getElem? (i := 164) (by decide +kernel)⟩
theorem lw_p1 : lw_okq (⟨"LinkText$Tokens", "sortAt", "(I)I"⟩, 7) := ⟨⟨by decide +kernel, by decide +kernel⟩, List.mem_of_getElem? (i := 81) (by decide +kernel), List.mem_of_getElem? (i := 203) (by decide +kernel), List.mem_of_getElem? (i := 204) (by decide +kernel)⟩
theorem lw_p2 : lw_okq (⟨"LinkText$Tokens", "weigh", "(Z)V"⟩, 7) := ⟨⟨by decide +kernel, by decide +kernel⟩, List.mem_of_getElem? (i := 81) (by decide +kernel), List.mem_of_getElem? (i := 207) (by decide +kernel), List.mem_of_getElem? (i := 208) (by decide +kernel)⟩
theorem lw_p3 : lw_okq (⟨"LinkText$Reader", "openLine", "()I"⟩, 4) := ⟨⟨by decide +kernel, by decide +kernel⟩, List.mem_of_getElem? (i := 75) (by decide +kernel), List.mem_of_getElem? (i := 217) (by decide +kernel), List.mem_of_getElem? (i := 218) (by decide +kernel)⟩
theorem lw_p4 : lw_okq (⟨"LinkText$Reader", "kindHere", "()I"⟩, 4) := ⟨⟨by decide +kernel, by decide +kernel⟩, List.mem_of_getElem? (i := 75) (by decide +kernel), List.mem_of_getElem? (i := 221) (by decide +kernel), List.mem_of_getElem? (i := 222) (by decide +kernel)⟩
theorem lw_p5 : lw_okq (⟨"LinkText$Reader", "fail", "(I)Z"⟩, 4) := ⟨⟨by decide +kernel, by decide +kernel⟩, List.mem_of_getElem? (i := 75) (by decide +kernel), List.mem_of_getElem? (i := 299) (by decide +kernel), List.mem_of_getElem? (i := 300) (by decide +kernel)⟩
theorem lw_p6 : lw_okq (⟨"LinkText$Reader", "takeCode", "()Z"⟩, 4) := ⟨⟨by decide +kernel, by decide +kernel⟩, List.mem_of_getElem? (i := 75) (by decide +kernel), List.mem_of_getElem? (i := 307) (by decide +kernel), List.mem_of_getElem? (i := 308) (by decide +kernel)⟩
theorem lw_p7 : lw_okq (⟨"LinkText$Reader", "takeCrossing", "()Z"⟩, 4) := ⟨⟨by decide +kernel, by decide +kernel⟩, List.mem_of_getElem? (i := 75) (by decide +kernel), List.mem_of_getElem? (i := 319) (by decide +kernel), List.mem_of_getElem? (i := 320) (by decide +kernel)⟩
theorem lw_p8 : lw_okq (⟨"LinkText$Reader", "takeSign", "()Z"⟩, 4) := ⟨⟨by decide +kernel, by decide +kernel⟩, List.mem_of_getElem? (i := 75) (by decide +kernel), List.mem_of_getElem? (i := 323) (by decide +kernel), List.mem_of_getElem? (i := 324) (by decide +kernel)⟩
theorem lw_p9 : lw_okq (⟨"LinkText$Reader", "takeMark", "(C)Z"⟩, 4) := ⟨⟨by decide +kernel, by decide +kernel⟩, List.mem_of_getElem? (i := 75) (by decide +kernel), List.mem_of_getElem? (i := 333) (by decide +kernel), List.mem_of_getElem? (i := 334) (by decide +kernel)⟩
theorem lw_p10 : lw_okq (⟨"LinkText$Reader", "takeNumber", "()Z"⟩, 4) := ⟨⟨by decide +kernel, by decide +kernel⟩, List.mem_of_getElem? (i := 75) (by decide +kernel), List.mem_of_getElem? (i := 337) (by decide +kernel), List.mem_of_getElem? (i := 338) (by decide +kernel)⟩
theorem lw_p11 : lw_okq (⟨"LinkText$Reader", "takeBraid", "()Z"⟩, 4) := ⟨⟨by decide +kernel, by decide +kernel⟩, List.mem_of_getElem? (i := 75) (by decide +kernel), List.mem_of_getElem? (i := 346) (by decide +kernel), List.mem_of_getElem? (i := 347) (by decide +kernel)⟩
theorem lw_p12 : lw_okq (⟨"LinkText$Reader", "takeSigned", "()Z"⟩, 4) := ⟨⟨by decide +kernel, by decide +kernel⟩, List.mem_of_getElem? (i := 75) (by decide +kernel), List.mem_of_getElem? (i := 350) (by decide +kernel), List.mem_of_getElem? (i := 351) (by decide +kernel)⟩
theorem lw_p13 : lw_okq (⟨"LinkText$Reader", "takeLevel", "()Z"⟩, 4) := ⟨⟨by decide +kernel, by decide +kernel⟩, List.mem_of_getElem? (i := 75) (by decide +kernel), List.mem_of_getElem? (i := 358) (by decide +kernel), List.mem_of_getElem? (i := 359) (by decide +kernel)⟩
theorem lw_p14 : lw_okq (⟨"LinkText$Reader", "takePolynomial", "(Ljava/lang/String;)Z"⟩, 4) := ⟨⟨by decide +kernel, by decide +kernel⟩, List.mem_of_getElem? (i := 75) (by decide +kernel), List.mem_of_getElem? (i := 369) (by decide +kernel), List.mem_of_getElem? (i := 370) (by decide +kernel)⟩
theorem lw_p15 : lw_okq (⟨"LinkText$Reader", "takeTerm", "(ZLjava/lang/String;)Z"⟩, 4) := ⟨⟨by decide +kernel, by decide +kernel⟩, List.mem_of_getElem? (i := 75) (by decide +kernel), List.mem_of_getElem? (i := 373) (by decide +kernel), List.mem_of_getElem? (i := 374) (by decide +kernel)⟩
def lw_privs_1 : List (MethodName × Nat) := [(⟨"LinkText", "feedFour", "(I)V"⟩, 6), (⟨"LinkText$Tokens", "sortAt", "(I)I"⟩, 7), (⟨"LinkText$Tokens", "weigh", "(Z)V"⟩, 7), (⟨"LinkText$Reader", "openLine", "()I"⟩, 4), (⟨"LinkText$Reader", "kindHere", "()I"⟩, 4), (⟨"LinkText$Reader", "fail", "(I)Z"⟩, 4), (⟨"LinkText$Reader", "takeCode", "()Z"⟩, 4), (⟨"LinkText$Reader", "takeCrossing", "()Z"⟩, 4), (⟨"LinkText$Reader", "takeSign", "()Z"⟩, 4), (⟨"LinkText$Reader", "takeMark", "(C)Z"⟩, 4), (⟨"LinkText$Reader", "takeNumber", "()Z"⟩, 4), (⟨"LinkText$Reader", "takeBraid", "()Z"⟩, 4), (⟨"LinkText$Reader", "takeSigned", "()Z"⟩, 4), (⟨"LinkText$Reader", "takeLevel", "()Z"⟩, 4), (⟨"LinkText$Reader", "takePolynomial", "(Ljava/lang/String;)Z"⟩, 4), (⟨"LinkText$Reader", "takeTerm", "(ZLjava/lang/String;)Z"⟩, 4)]
theorem lw_r1 : ∀ q ∈ lw_privs_1, lw_okq q := List.forall_mem_cons.mpr ⟨lw_p0, List.forall_mem_cons.mpr ⟨lw_p1, List.forall_mem_cons.mpr ⟨lw_p2, List.forall_mem_cons.mpr ⟨lw_p3, List.forall_mem_cons.mpr ⟨lw_p4, List.forall_mem_cons.mpr ⟨lw_p5, List.forall_mem_cons.mpr ⟨lw_p6, List.forall_mem_cons.mpr ⟨lw_p7, List.forall_mem_cons.mpr ⟨lw_p8, List.forall_mem_cons.mpr ⟨lw_p9, List.forall_mem_cons.mpr ⟨lw_p10, List.forall_mem_cons.mpr ⟨lw_p11, List.forall_mem_cons.mpr ⟨lw_p12, List.forall_mem_cons.mpr ⟨lw_p13, List.forall_mem_cons.mpr ⟨lw_p14, List.forall_mem_cons.mpr ⟨lw_p15, fun _ h => absurd h List.not_mem_nil⟩⟩⟩⟩⟩⟩⟩⟩⟩⟩⟩⟩⟩⟩⟩⟩
theorem lw_p16 : lw_okq (⟨"LinkText$Printer", "putText", "(Ljava/lang/String;)V"⟩, 2) := ⟨⟨by decide +kernel, by decide +kernel⟩, List.mem_of_getElem? (i := 127) (by decide +kernel), List.mem_of_getElem? (i := 429) (by decide +kernel), List.mem_of_getElem? (i := 430) (by decide +kernel)⟩
theorem lw_p17 : lw_okq (⟨"LinkText$Printer", "putCode", "(I)V"⟩, 2) := ⟨⟨by decide +kernel, by decide +kernel⟩, List.mem_of_getElem? (i := 127) (by decide +kernel), List.mem_of_getElem? (i := 436) (by decide +kernel), List.mem_of_getElem? (i := 437) (by decide +kernel)⟩
theorem lw_p18 : lw_okq (⟨"LinkText$Printer", "putDigits", "(J)V"⟩, 2) := ⟨⟨by decide +kernel, by decide +kernel⟩, List.mem_of_getElem? (i := 127) (by decide +kernel), List.mem_of_getElem? (i := 444) (by decide +kernel), List.mem_of_getElem? (i := 445) (by decide +kernel)⟩
theorem lw_p19 : lw_okq (⟨"LinkText$Printer", "putAllSigned", "(I)V"⟩, 2) := ⟨⟨by decide +kernel, by decide +kernel⟩, List.mem_of_getElem? (i := 127) (by decide +kernel), List.mem_of_getElem? (i := 454) (by decide +kernel), List.mem_of_getElem? (i := 455) (by decide +kernel)⟩
theorem lw_p20 : lw_okq (⟨"LinkText$Printer", "putSigned", "(J)V"⟩, 2) := ⟨⟨by decide +kernel, by decide +kernel⟩, List.mem_of_getElem? (i := 127) (by decide +kernel), List.mem_of_getElem? (i := 458) (by decide +kernel), List.mem_of_getElem? (i := 459) (by decide +kernel)⟩
theorem lw_p21 : lw_okq (⟨"LinkText$Printer", "putLevel", "(J)V"⟩, 2) := ⟨⟨by decide +kernel, by decide +kernel⟩, List.mem_of_getElem? (i := 127) (by decide +kernel), List.mem_of_getElem? (i := 469) (by decide +kernel), List.mem_of_getElem? (i := 470) (by decide +kernel)⟩
theorem lw_p22 : lw_okq (⟨"LinkText$Printer", "putPolynomial", "(ILjava/lang/String;)V"⟩, 2) := ⟨⟨by decide +kernel, by decide +kernel⟩, List.mem_of_getElem? (i := 127) (by decide +kernel), List.mem_of_getElem? (i := 476) (by decide +kernel), List.mem_of_getElem? (i := 477) (by decide +kernel)⟩
theorem lw_p23 : lw_okq (⟨"LinkText$Printer", "putTerm", "(JJLjava/lang/String;)V"⟩, 2) := ⟨⟨by decide +kernel, by decide +kernel⟩, List.mem_of_getElem? (i := 127) (by decide +kernel), List.mem_of_getElem? (i := 484) (by decide +kernel), List.mem_of_getElem? (i := 485) (by decide +kernel)⟩
theorem lw_p24 : lw_okq (⟨"LinkTextModel", "put", "(I)V"⟩, 26) := ⟨⟨by decide +kernel, by decide +kernel⟩, List.mem_of_getElem? (i := 510) (by decide +kernel), List.mem_of_getElem? (i := 598) (by decide +kernel), List.mem_of_getElem? (i := 599) (by decide +kernel)⟩
theorem lw_p25 : lw_okq (⟨"LinkTextModel", "stop", "(II)V"⟩, 26) := ⟨⟨by decide +kernel, by decide +kernel⟩, List.mem_of_getElem? (i := 510) (by decide +kernel), List.mem_of_getElem? (i := 606) (by decide +kernel), List.mem_of_getElem? (i := 607) (by decide +kernel)⟩
theorem lw_p26 : lw_okq (⟨"LinkTextModel", "finish", "(I)V"⟩, 26) := ⟨⟨by decide +kernel, by decide +kernel⟩, List.mem_of_getElem? (i := 510) (by decide +kernel), List.mem_of_getElem? (i := 610) (by decide +kernel), List.mem_of_getElem? (i := 611) (by decide +kernel)⟩
theorem lw_p27 : lw_okq (⟨"LinkTextModel", "mayEnd", "()Z"⟩, 26) := ⟨⟨by decide +kernel, by decide +kernel⟩, List.mem_of_getElem? (i := 510) (by decide +kernel), List.mem_of_getElem? (i := 614) (by decide +kernel), List.mem_of_getElem? (i := 615) (by decide +kernel)⟩
theorem lw_p28 : lw_okq (⟨"LinkTextModel", "add", "(J)V"⟩, 26) := ⟨⟨by decide +kernel, by decide +kernel⟩, List.mem_of_getElem? (i := 510) (by decide +kernel), List.mem_of_getElem? (i := 618) (by decide +kernel), List.mem_of_getElem? (i := 619) (by decide +kernel)⟩
theorem lw_p29 : lw_okq (⟨"LinkTextModel", "term", "(I)V"⟩, 26) := ⟨⟨by decide +kernel, by decide +kernel⟩, List.mem_of_getElem? (i := 510) (by decide +kernel), List.mem_of_getElem? (i := 622) (by decide +kernel), List.mem_of_getElem? (i := 623) (by decide +kernel)⟩
theorem lw_p30 : lw_okq (⟨"LinkTextModel", "token", "(II)V"⟩, 26) := ⟨⟨by decide +kernel, by decide +kernel⟩, List.mem_of_getElem? (i := 510) (by decide +kernel), List.mem_of_getElem? (i := 626) (by decide +kernel), List.mem_of_getElem? (i := 627) (by decide +kernel)⟩
theorem lw_p31 : lw_okq (⟨"LinkTextModel", "number", "()V"⟩, 26) := ⟨⟨by decide +kernel, by decide +kernel⟩, List.mem_of_getElem? (i := 510) (by decide +kernel), List.mem_of_getElem? (i := 636) (by decide +kernel), List.mem_of_getElem? (i := 637) (by decide +kernel)⟩
def lw_privs_2 : List (MethodName × Nat) := [(⟨"LinkText$Printer", "putText", "(Ljava/lang/String;)V"⟩, 2), (⟨"LinkText$Printer", "putCode", "(I)V"⟩, 2), (⟨"LinkText$Printer", "putDigits", "(J)V"⟩, 2), (⟨"LinkText$Printer", "putAllSigned", "(I)V"⟩, 2), (⟨"LinkText$Printer", "putSigned", "(J)V"⟩, 2), (⟨"LinkText$Printer", "putLevel", "(J)V"⟩, 2), (⟨"LinkText$Printer", "putPolynomial", "(ILjava/lang/String;)V"⟩, 2), (⟨"LinkText$Printer", "putTerm", "(JJLjava/lang/String;)V"⟩, 2), (⟨"LinkTextModel", "put", "(I)V"⟩, 26), (⟨"LinkTextModel", "stop", "(II)V"⟩, 26), (⟨"LinkTextModel", "finish", "(I)V"⟩, 26), (⟨"LinkTextModel", "mayEnd", "()Z"⟩, 26), (⟨"LinkTextModel", "add", "(J)V"⟩, 26), (⟨"LinkTextModel", "term", "(I)V"⟩, 26), (⟨"LinkTextModel", "token", "(II)V"⟩, 26), (⟨"LinkTextModel", "number", "()V"⟩, 26)]
theorem lw_r2 : ∀ q ∈ lw_privs_2, lw_okq q := List.forall_mem_cons.mpr ⟨lw_p16, List.forall_mem_cons.mpr ⟨lw_p17, List.forall_mem_cons.mpr ⟨lw_p18, List.forall_mem_cons.mpr ⟨lw_p19, List.forall_mem_cons.mpr ⟨lw_p20, List.forall_mem_cons.mpr ⟨lw_p21, List.forall_mem_cons.mpr ⟨lw_p22, List.forall_mem_cons.mpr ⟨lw_p23, List.forall_mem_cons.mpr ⟨lw_p24, List.forall_mem_cons.mpr ⟨lw_p25, List.forall_mem_cons.mpr ⟨lw_p26, List.forall_mem_cons.mpr ⟨lw_p27, List.forall_mem_cons.mpr ⟨lw_p28, List.forall_mem_cons.mpr ⟨lw_p29, List.forall_mem_cons.mpr ⟨lw_p30, List.forall_mem_cons.mpr ⟨lw_p31, fun _ h => absurd h List.not_mem_nil⟩⟩⟩⟩⟩⟩⟩⟩⟩⟩⟩⟩⟩⟩⟩⟩
theorem lw_p32 : lw_okq (⟨"LinkTextModel", "isCoefficient", "()Z"⟩, 26) := ⟨⟨by decide +kernel, by decide +kernel⟩, List.mem_of_getElem? (i := 510) (by decide +kernel), List.mem_of_getElem? (i := 643) (by decide +kernel), List.mem_of_getElem? (i := 644) (by decide +kernel)⟩
theorem lw_p33 : lw_okq (⟨"LinkTextModel", "one", "(I)V"⟩, 26) := ⟨⟨by decide +kernel, by decide +kernel⟩, List.mem_of_getElem? (i := 510) (by decide +kernel), List.mem_of_getElem? (i := 650) (by decide +kernel), List.mem_of_getElem? (i := 651) (by decide +kernel)⟩
theorem lw_p34 : lw_okq (⟨"LinkTextModel", "begin", "(I)V"⟩, 26) := ⟨⟨by decide +kernel, by decide +kernel⟩, List.mem_of_getElem? (i := 510) (by decide +kernel), List.mem_of_getElem? (i := 654) (by decide +kernel), List.mem_of_getElem? (i := 655) (by decide +kernel)⟩
theorem lw_p35 : lw_okq (⟨"LinkTextModel", "kindOfWord", "()I"⟩, 26) := ⟨⟨by decide +kernel, by decide +kernel⟩, List.mem_of_getElem? (i := 510) (by decide +kernel), List.mem_of_getElem? (i := 658) (by decide +kernel), List.mem_of_getElem? (i := 659) (by decide +kernel)⟩
theorem lw_p36 : lw_okq (⟨"LinkTextModel", "isWord", "(J)Z"⟩, 26) := ⟨⟨by decide +kernel, by decide +kernel⟩, List.mem_of_getElem? (i := 510) (by decide +kernel), List.mem_of_getElem? (i := 666) (by decide +kernel), List.mem_of_getElem? (i := 667) (by decide +kernel)⟩
theorem lw_p37 : lw_okq (⟨"LinkTextModel", "kindOfOther", "()I"⟩, 26) := ⟨⟨by decide +kernel, by decide +kernel⟩, List.mem_of_getElem? (i := 510) (by decide +kernel), List.mem_of_getElem? (i := 674) (by decide +kernel), List.mem_of_getElem? (i := 675) (by decide +kernel)⟩
theorem lw_p38 : lw_okq (⟨"LinkTextModel", "code", "(I)V"⟩, 26) := ⟨⟨by decide +kernel, by decide +kernel⟩, List.mem_of_getElem? (i := 510) (by decide +kernel), List.mem_of_getElem? (i := 680) (by decide +kernel), List.mem_of_getElem? (i := 681) (by decide +kernel)⟩
theorem lw_p39 : lw_okq (⟨"LinkTextModel", "wrong", "()V"⟩, 26) := ⟨⟨by decide +kernel, by decide +kernel⟩, List.mem_of_getElem? (i := 510) (by decide +kernel), List.mem_of_getElem? (i := 686) (by decide +kernel), List.mem_of_getElem? (i := 687) (by decide +kernel)⟩
theorem lw_p40 : lw_okq (⟨"LinkTextModel", "simple", "(I)V"⟩, 26) := ⟨⟨by decide +kernel, by decide +kernel⟩, List.mem_of_getElem? (i := 510) (by decide +kernel), List.mem_of_getElem? (i := 690) (by decide +kernel), List.mem_of_getElem? (i := 691) (by decide +kernel)⟩
theorem lw_p41 : lw_okq (⟨"LinkTextModel", "isSide", "(I)Z"⟩, 26) := ⟨⟨by decide +kernel, by decide +kernel⟩, List.mem_of_getElem? (i := 510) (by decide +kernel), List.mem_of_getElem? (i := 694) (by decide +kernel), List.mem_of_getElem? (i := 695) (by decide +kernel)⟩
theorem lw_p42 : lw_okq (⟨"LinkTextModel", "isOver", "()Z"⟩, 26) := ⟨⟨by decide +kernel, by decide +kernel⟩, List.mem_of_getElem? (i := 510) (by decide +kernel), List.mem_of_getElem? (i := 698) (by decide +kernel), List.mem_of_getElem? (i := 699) (by decide +kernel)⟩
theorem lw_p43 : lw_okq (⟨"LinkTextModel", "push", "(I)V"⟩, 26) := ⟨⟨by decide +kernel, by decide +kernel⟩, List.mem_of_getElem? (i := 510) (by decide +kernel), List.mem_of_getElem? (i := 702) (by decide +kernel), List.mem_of_getElem? (i := 703) (by decide +kernel)⟩
theorem lw_p44 : lw_okq (⟨"LinkTextModel", "polynomial", "(I)V"⟩, 26) := ⟨⟨by decide +kernel, by decide +kernel⟩, List.mem_of_getElem? (i := 510) (by decide +kernel), List.mem_of_getElem? (i := 706) (by decide +kernel), List.mem_of_getElem? (i := 707) (by decide +kernel)⟩
theorem lw_p45 : lw_okq (⟨"LinkTextModel", "isName", "()Z"⟩, 26) := ⟨⟨by decide +kernel, by decide +kernel⟩, List.mem_of_getElem? (i := 510) (by decide +kernel), List.mem_of_getElem? (i := 710) (by decide +kernel), List.mem_of_getElem? (i := 711) (by decide +kernel)⟩
theorem lw_p46 : lw_okq (⟨"LinkTextModel", "isLine", "(I)Z"⟩, 26) := ⟨⟨by decide +kernel, by decide +kernel⟩, List.mem_of_getElem? (i := 510) (by decide +kernel), List.mem_of_getElem? (i := 723) (by decide +kernel), List.mem_of_getElem? (i := 724) (by decide +kernel)⟩
theorem lw_p47 : lw_okq (⟨"LinkTextModel", "writeKind", "(I)V"⟩, 26) := ⟨⟨by decide +kernel, by decide +kernel⟩, List.mem_of_getElem? (i := 510) (by decide +kernel), List.mem_of_getElem? (i := 735) (by decide +kernel), List.mem_of_getElem? (i := 736) (by decide +kernel)⟩
def lw_privs_3 : List (MethodName × Nat) := [(⟨"LinkTextModel", "isCoefficient", "()Z"⟩, 26), (⟨"LinkTextModel", "one", "(I)V"⟩, 26), (⟨"LinkTextModel", "begin", "(I)V"⟩, 26), (⟨"LinkTextModel", "kindOfWord", "()I"⟩, 26), (⟨"LinkTextModel", "isWord", "(J)Z"⟩, 26), (⟨"LinkTextModel", "kindOfOther", "()I"⟩, 26), (⟨"LinkTextModel", "code", "(I)V"⟩, 26), (⟨"LinkTextModel", "wrong", "()V"⟩, 26), (⟨"LinkTextModel", "simple", "(I)V"⟩, 26), (⟨"LinkTextModel", "isSide", "(I)Z"⟩, 26), (⟨"LinkTextModel", "isOver", "()Z"⟩, 26), (⟨"LinkTextModel", "push", "(I)V"⟩, 26), (⟨"LinkTextModel", "polynomial", "(I)V"⟩, 26), (⟨"LinkTextModel", "isName", "()Z"⟩, 26), (⟨"LinkTextModel", "isLine", "(I)Z"⟩, 26), (⟨"LinkTextModel", "writeKind", "(I)V"⟩, 26)]
theorem lw_r3 : ∀ q ∈ lw_privs_3, lw_okq q := List.forall_mem_cons.mpr ⟨lw_p32, List.forall_mem_cons.mpr ⟨lw_p33, List.forall_mem_cons.mpr ⟨lw_p34, List.forall_mem_cons.mpr ⟨lw_p35, List.forall_mem_cons.mpr ⟨lw_p36, List.forall_mem_cons.mpr ⟨lw_p37, List.forall_mem_cons.mpr ⟨lw_p38, List.forall_mem_cons.mpr ⟨lw_p39, List.forall_mem_cons.mpr ⟨lw_p40, List.forall_mem_cons.mpr ⟨lw_p41, List.forall_mem_cons.mpr ⟨lw_p42, List.forall_mem_cons.mpr ⟨lw_p43, List.forall_mem_cons.mpr ⟨lw_p44, List.forall_mem_cons.mpr ⟨lw_p45, List.forall_mem_cons.mpr ⟨lw_p46, List.forall_mem_cons.mpr ⟨lw_p47, fun _ h => absurd h List.not_mem_nil⟩⟩⟩⟩⟩⟩⟩⟩⟩⟩⟩⟩⟩⟩⟩⟩
theorem lw_p48 : lw_okq (⟨"LinkTextModel", "writeWord", "(IIIIIIII)V"⟩, 26) := ⟨⟨by decide +kernel, by decide +kernel⟩, List.mem_of_getElem? (i := 510) (by decide +kernel), List.mem_of_getElem? (i := 739) (by decide +kernel), List.mem_of_getElem? (i := 740) (by decide +kernel)⟩
theorem lw_p49 : lw_okq (⟨"LinkTextModel", "write", "(I)V"⟩, 26) := ⟨⟨by decide +kernel, by decide +kernel⟩, List.mem_of_getElem? (i := 510) (by decide +kernel), List.mem_of_getElem? (i := 743) (by decide +kernel), List.mem_of_getElem? (i := 744) (by decide +kernel)⟩
theorem lw_p50 : lw_okq (⟨"LinkTextModel", "writeCode", "(I)V"⟩, 26) := ⟨⟨by decide +kernel, by decide +kernel⟩, List.mem_of_getElem? (i := 510) (by decide +kernel), List.mem_of_getElem? (i := 747) (by decide +kernel), List.mem_of_getElem? (i := 748) (by decide +kernel)⟩
theorem lw_p51 : lw_okq (⟨"LinkTextModel", "writeNumber", "(J)V"⟩, 26) := ⟨⟨by decide +kernel, by decide +kernel⟩, List.mem_of_getElem? (i := 510) (by decide +kernel), List.mem_of_getElem? (i := 752) (by decide +kernel), List.mem_of_getElem? (i := 753) (by decide +kernel)⟩
theorem lw_p52 : lw_okq (⟨"LinkTextModel", "writeTerms", "(I)V"⟩, 26) := ⟨⟨by decide +kernel, by decide +kernel⟩, List.mem_of_getElem? (i := 510) (by decide +kernel), List.mem_of_getElem? (i := 756) (by decide +kernel), List.mem_of_getElem? (i := 757) (by decide +kernel)⟩
theorem lw_p53 : lw_okq (⟨"LinkTextModel", "writeRest", "(I)V"⟩, 26) := ⟨⟨by decide +kernel, by decide +kernel⟩, List.mem_of_getElem? (i := 510) (by decide +kernel), List.mem_of_getElem? (i := 760) (by decide +kernel), List.mem_of_getElem? (i := 761) (by decide +kernel)⟩
theorem lw_p54 : lw_okq (⟨"LinkTextModel", "writeSide", "(J)V"⟩, 26) := ⟨⟨by decide +kernel, by decide +kernel⟩, List.mem_of_getElem? (i := 510) (by decide +kernel), List.mem_of_getElem? (i := 764) (by decide +kernel), List.mem_of_getElem? (i := 765) (by decide +kernel)⟩
def lw_privs_4 : List (MethodName × Nat) := [(⟨"LinkTextModel", "writeWord", "(IIIIIIII)V"⟩, 26), (⟨"LinkTextModel", "write", "(I)V"⟩, 26), (⟨"LinkTextModel", "writeCode", "(I)V"⟩, 26), (⟨"LinkTextModel", "writeNumber", "(J)V"⟩, 26), (⟨"LinkTextModel", "writeTerms", "(I)V"⟩, 26), (⟨"LinkTextModel", "writeRest", "(I)V"⟩, 26), (⟨"LinkTextModel", "writeSide", "(J)V"⟩, 26)]
theorem lw_r4 : ∀ q ∈ lw_privs_4, lw_okq q := List.forall_mem_cons.mpr ⟨lw_p48, List.forall_mem_cons.mpr ⟨lw_p49, List.forall_mem_cons.mpr ⟨lw_p50, List.forall_mem_cons.mpr ⟨lw_p51, List.forall_mem_cons.mpr ⟨lw_p52, List.forall_mem_cons.mpr ⟨lw_p53, List.forall_mem_cons.mpr ⟨lw_p54, fun _ h => absurd h List.not_mem_nil⟩⟩⟩⟩⟩⟩⟩
def lw_privs : List (MethodName × Nat) := lw_privs_1 ++ (lw_privs_2 ++ (lw_privs_3 ++ (lw_privs_4)))
def lw_tbl : List Cond := k2_sels lw_privs ++ tables_1
theorem lw_privs_ok : ∀ q ∈ lw_privs, lw_okq q := by
  show ∀ q ∈ lw_privs_1 ++ (lw_privs_2 ++ (lw_privs_3 ++ (lw_privs_4))), lw_okq q
  exact List.forall_mem_append.mpr ⟨lw_r1, List.forall_mem_append.mpr ⟨lw_r2, List.forall_mem_append.mpr ⟨lw_r3, lw_r4⟩⟩⟩
def k_tbl : List Cond := lw_tbl.filter goodWord
def RX0 : String := "LinkText$ByteRow"
def TX0 : u_T := fun k => match k with
  | 0 => ("LinkText$ByteRow", "bytes", "[B", true)
  | 1 => ("LinkText$ByteRow", "count", "I", false)
  | _ => ("LinkText$ByteRow", "overrun", "Z", false)
def tyX0 : Nat → FieldType := fun k => match k with
  | 0 => .array .byte
  | 1 => .int
  | _ => .boolean
theorem nmX0 : ∀ a, a < 3 → ∀ b, b < 3 → a ≠ b → (TX0 a).2.1 ≠ (TX0 b).2.1 := by decide +kernel
theorem tyX0_ok : ∀ k, k < 3 → parseFieldDescriptor (TX0 k).2.2.1 = some (tyX0 k) := by decide +kernel
theorem iaX0 : ∀ w ∈ u_ws RX0 TX0 3, w ∈ lw_tbl := by decide +kernel
theorem ibX0 : ∀ w ∈ u_ws RX0 TX0 3, goodWord w = true := by decide +kernel
theorem inX0 : ∀ w ∈ u_ws RX0 TX0 3, w ∈ k_tbl := fun w h => List.mem_filter.mpr ⟨iaX0 w h, ibX0 w h⟩
def RX1 : String := "LinkText$Lines"
def TX1 : u_T := fun k => match k with
  | 0 => ("LinkText$Lines", "kinds", "[I", true)
  | 1 => ("LinkText$Lines", "places", "[I", true)
  | 2 => ("LinkText$Lines", "firsts", "[I", true)
  | 3 => ("LinkText$Lines", "sizes", "[I", true)
  | 4 => ("LinkText$Lines", "numbers", "[J", true)
  | 5 => ("LinkText$Lines", "count", "I", false)
  | _ => ("LinkText$Lines", "numberCount", "I", false)
def tyX1 : Nat → FieldType := fun k => match k with
  | 0 => .array .int
  | 1 => .array .int
  | 2 => .array .int
  | 3 => .array .int
  | 4 => .array .long
  | 5 => .int
  | _ => .int
theorem nmX1 : ∀ a, a < 7 → ∀ b, b < 7 → a ≠ b → (TX1 a).2.1 ≠ (TX1 b).2.1 := by decide +kernel
theorem tyX1_ok : ∀ k, k < 7 → parseFieldDescriptor (TX1 k).2.2.1 = some (tyX1 k) := by decide +kernel
theorem iaX1 : ∀ w ∈ u_ws RX1 TX1 7, w ∈ lw_tbl := by decide +kernel
theorem ibX1 : ∀ w ∈ u_ws RX1 TX1 7, goodWord w = true := by decide +kernel
theorem inX1 : ∀ w ∈ u_ws RX1 TX1 7, w ∈ k_tbl := fun w h => List.mem_filter.mpr ⟨iaX1 w h, ibX1 w h⟩
def RX2 : String := "LinkText$Tokens"
def TX2 : u_T := fun k => match k with
  | 0 => ("LinkText$Tokens", "text", "[B", true)
  | 1 => ("LinkText$Tokens", "end", "I", false)
  | 2 => ("LinkText$Tokens", "sort", "I", false)
  | 3 => ("LinkText$Tokens", "place", "I", false)
  | 4 => ("LinkText$Tokens", "behind", "I", false)
  | 5 => ("LinkText$Tokens", "value", "J", false)
  | _ => ("LinkText$Tokens", "fault", "I", false)
def tyX2 : Nat → FieldType := fun k => match k with
  | 0 => .array .byte
  | 1 => .int
  | 2 => .int
  | 3 => .int
  | 4 => .int
  | 5 => .long
  | _ => .int
theorem nmX2 : ∀ a, a < 7 → ∀ b, b < 7 → a ≠ b → (TX2 a).2.1 ≠ (TX2 b).2.1 := by decide +kernel
theorem tyX2_ok : ∀ k, k < 7 → parseFieldDescriptor (TX2 k).2.2.1 = some (tyX2 k) := by decide +kernel
theorem iaX2 : ∀ w ∈ u_ws RX2 TX2 7, w ∈ lw_tbl := by decide +kernel
theorem ibX2 : ∀ w ∈ u_ws RX2 TX2 7, goodWord w = true := by decide +kernel
theorem inX2 : ∀ w ∈ u_ws RX2 TX2 7, w ∈ k_tbl := fun w h => List.mem_filter.mpr ⟨iaX2 w h, ibX2 w h⟩
def RX3 : String := "LinkText$Reader"
def TX3 : u_T := fun k => match k with
  | 0 => ("LinkText$Reader", "tokens", "LLinkText$Tokens;", true)
  | 1 => ("LinkText$Reader", "lines", "LLinkText$Lines;", true)
  | 2 => ("LinkText$Reader", "fault", "I", false)
  | _ => ("LinkText$Reader", "faultPlace", "I", false)
def tyX3 : Nat → FieldType := fun k => match k with
  | 0 => .object "LinkText$Tokens"
  | 1 => .object "LinkText$Lines"
  | 2 => .int
  | _ => .int
theorem nmX3 : ∀ a, a < 4 → ∀ b, b < 4 → a ≠ b → (TX3 a).2.1 ≠ (TX3 b).2.1 := by decide +kernel
theorem tyX3_ok : ∀ k, k < 4 → parseFieldDescriptor (TX3 k).2.2.1 = some (tyX3 k) := by decide +kernel
theorem iaX3 : ∀ w ∈ u_ws RX3 TX3 4, w ∈ lw_tbl := by decide +kernel
theorem ibX3 : ∀ w ∈ u_ws RX3 TX3 4, goodWord w = true := by decide +kernel
theorem inX3 : ∀ w ∈ u_ws RX3 TX3 4, w ∈ k_tbl := fun w h => List.mem_filter.mpr ⟨iaX3 w h, ibX3 w h⟩
def RX4 : String := "LinkText$Printer"
def TX4 : u_T := fun k => match k with
  | 0 => ("LinkText$Printer", "paper", "LLinkText$ByteRow;", true)
  | _ => ("LinkText$Printer", "lines", "LLinkText$Lines;", true)
def tyX4 : Nat → FieldType := fun k => match k with
  | 0 => .object "LinkText$ByteRow"
  | _ => .object "LinkText$Lines"
theorem nmX4 : ∀ a, a < 2 → ∀ b, b < 2 → a ≠ b → (TX4 a).2.1 ≠ (TX4 b).2.1 := by decide +kernel
theorem tyX4_ok : ∀ k, k < 2 → parseFieldDescriptor (TX4 k).2.2.1 = some (tyX4 k) := by decide +kernel
theorem iaX4 : ∀ w ∈ u_ws RX4 TX4 2, w ∈ lw_tbl := by decide +kernel
theorem ibX4 : ∀ w ∈ u_ws RX4 TX4 2, goodWord w = true := by decide +kernel
theorem inX4 : ∀ w ∈ u_ws RX4 TX4 2, w ∈ k_tbl := fun w h => List.mem_filter.mpr ⟨iaX4 w h, ibX4 w h⟩
def RX5 : String := "LinkText"
def TX5 : u_T := fun k => match k with
  | 0 => ("LinkText", "tape", "LLinkText$ByteRow;", true)
  | 1 => ("LinkText", "paper", "LLinkText$ByteRow;", true)
  | 2 => ("LinkText", "lines", "LLinkText$Lines;", true)
  | 3 => ("LinkText", "reader", "LLinkText$Reader;", true)
  | 4 => ("LinkText", "printer", "LLinkText$Printer;", true)
  | _ => ("LinkText", "everRead", "Z", false)
def tyX5 : Nat → FieldType := fun k => match k with
  | 0 => .object "LinkText$ByteRow"
  | 1 => .object "LinkText$ByteRow"
  | 2 => .object "LinkText$Lines"
  | 3 => .object "LinkText$Reader"
  | 4 => .object "LinkText$Printer"
  | _ => .boolean
theorem nmX5 : ∀ a, a < 6 → ∀ b, b < 6 → a ≠ b → (TX5 a).2.1 ≠ (TX5 b).2.1 := by decide +kernel
theorem tyX5_ok : ∀ k, k < 6 → parseFieldDescriptor (TX5 k).2.2.1 = some (tyX5 k) := by decide +kernel
theorem iaX5 : ∀ w ∈ u_ws RX5 TX5 6, w ∈ lw_tbl := by decide +kernel
theorem ibX5 : ∀ w ∈ u_ws RX5 TX5 6, goodWord w = true := by decide +kernel
theorem inX5 : ∀ w ∈ u_ws RX5 TX5 6, w ∈ k_tbl := fun w h => List.mem_filter.mpr ⟨iaX5 w h, ibX5 w h⟩
def RX6 : String := "LinkTextModel"
def TX6 : u_T := fun k => match k with
  | 0 => ("LinkTextModel", "thrown", "I", false)
  | 1 => ("LinkTextModel", "tape", "[I", true)
  | 2 => ("LinkTextModel", "taped", "I", false)
  | 3 => ("LinkTextModel", "fault", "I", false)
  | 4 => ("LinkTextModel", "place", "I", false)
  | 5 => ("LinkTextModel", "lines", "I", false)
  | 6 => ("LinkTextModel", "kind", "[I", true)
  | 7 => ("LinkTextModel", "first", "[I", true)
  | 8 => ("LinkTextModel", "count", "[I", true)
  | 9 => ("LinkTextModel", "begins", "[I", true)
  | 10 => ("LinkTextModel", "numbers", "[J", true)
  | 11 => ("LinkTextModel", "used", "I", false)
  | 12 => ("LinkTextModel", "state", "I", false)
  | 13 => ("LinkTextModel", "at", "I", false)
  | 14 => ("LinkTextModel", "many", "I", false)
  | 15 => ("LinkTextModel", "labels", "I", false)
  | 16 => ("LinkTextModel", "sign", "I", false)
  | 17 => ("LinkTextModel", "value", "J", false)
  | 18 => ("LinkTextModel", "from", "I", false)
  | 19 => ("LinkTextModel", "to", "I", false)
  | 20 => ("LinkTextModel", "out", "[I", true)
  | 21 => ("LinkTextModel", "printed", "I", false)
  | 22 => ("LinkTextModel", "fresh", "[I", true)
  | 23 => ("LinkTextModel", "written", "I", false)
  | 24 => ("LinkTextModel", "over", "Z", false)
  | _ => ("LinkTextModel", "digits", "[I", true)
def tyX6 : Nat → FieldType := fun k => match k with
  | 0 => .int
  | 1 => .array .int
  | 2 => .int
  | 3 => .int
  | 4 => .int
  | 5 => .int
  | 6 => .array .int
  | 7 => .array .int
  | 8 => .array .int
  | 9 => .array .int
  | 10 => .array .long
  | 11 => .int
  | 12 => .int
  | 13 => .int
  | 14 => .int
  | 15 => .int
  | 16 => .int
  | 17 => .long
  | 18 => .int
  | 19 => .int
  | 20 => .array .int
  | 21 => .int
  | 22 => .array .int
  | 23 => .int
  | 24 => .boolean
  | _ => .array .int
theorem nmX6 : ∀ a, a < 26 → ∀ b, b < 26 → a ≠ b → (TX6 a).2.1 ≠ (TX6 b).2.1 := by decide +kernel
theorem tyX6_ok : ∀ k, k < 26 → parseFieldDescriptor (TX6 k).2.2.1 = some (tyX6 k) := by decide +kernel
theorem iaX6 : ∀ w ∈ u_ws RX6 TX6 26, w ∈ lw_tbl := by decide +kernel
theorem ibX6 : ∀ w ∈ u_ws RX6 TX6 26, goodWord w = true := by decide +kernel
theorem inX6 : ∀ w ∈ u_ws RX6 TX6 26, w ∈ k_tbl := fun w h => List.mem_filter.mpr ⟨iaX6 w h, ibX6 w h⟩
abbrev vwCl : List vw_C := [(RX0, TX0, 3), (RX1, TX1, 7), (RX2, TX2, 7), (RX3, TX3, 4), (RX4, TX4, 2), (RX5, TX5, 6), (RX6, TX6, 26)]
end
section
def o_in {α : Type} (i : Int32) (n : Nat) (k : Option α) : Option α := if i < 0 ∨ n ≤ i.toNatClampNeg then none else k
theorem o_in_s {α : Type} {i : Int32} {n : Nat} {k : Option α} {r : α} (h : o_in i n k = some r) : vp_in i n ∧ k = some r := by
  unfold o_in at h
  by_cases c : i < 0 ∨ n ≤ i.toNatClampNeg
  · rw [if_pos c] at h; cases h
  · rw [if_neg c] at h; exact ⟨c, h⟩
def o_nz {α : Type} (y : Int32) (k : Option α) : Option α := if y = 0 then none else k
theorem o_nz_s {α : Type} {y : Int32} {k : Option α} {r : α} (h : o_nz y k = some r) : ¬ y = 0 ∧ k = some r := by
  unfold o_nz at h
  by_cases c : y = 0
  · rw [if_pos c] at h; cases h
  · rw [if_neg c] at h; exact ⟨c, h⟩
def o_nl {α : Type} (y : Int64) (k : Option α) : Option α := if y = 0 then none else k
theorem o_nl_s {α : Type} {y : Int64} {k : Option α} {r : α} (h : o_nl y k = some r) : ¬ y = 0 ∧ k = some r := by
  unfold o_nl at h
  by_cases c : y = 0
  · rw [if_pos c] at h; cases h
  · rw [if_neg c] at h; exact ⟨c, h⟩
def o_lt {α : Type} (i n : Nat) (k : Option α) : Option α := if i < n then k else none
theorem o_lt_s {α : Type} {i n : Nat} {k : Option α} {r : α} (h : o_lt i n k = some r) : i < n ∧ k = some r := by
  unfold o_lt at h
  by_cases c : i < n
  · rw [if_pos c] at h; exact ⟨c, h⟩
  · rw [if_neg c] at h; cases h
def o_let {α β : Type} (e : α) (f : α → Option β) : Option β := f e
theorem o_let_s {α β : Type} {e x : α} {f : α → Option β} {r : β} (ex : x = e) (h : o_let e f = some r) : f x = some r := by subst ex; exact h
def o_b {α β : Type} (x : Option α) (f : α → Option β) : Option β := match x with
  | none => none
  | some a => f a
theorem o_b_s {α β : Type} {x : Option α} {f : α → Option β} {r : β} (h : o_b x f = some r) : ∃ a, x = some a ∧ f a = some r := by
  cases x with
  | none => cases h
  | some a => exact ⟨a, rfl, h⟩
def o_zb {α : Type} (v : Int32) (k : Option α) : Option α := if v = 0 ∨ v = 1 then k else none
theorem o_zb_s {α : Type} {v : Int32} {k : Option α} {r : α} (h : o_zb v k = some r) : (narrow .boolean (.int v) = .int v ∧ fits .boolean (.int v) = true) ∧ k = some r := by
  unfold o_zb at h
  by_cases c : v = 0 ∨ v = 1
  · rw [if_pos c] at h
    refine ⟨?_, h⟩
    rcases c with rfl | rfl <;> exact ⟨rfl, rfl⟩
  · rw [if_neg c] at h; cases h
def fu : Nat := 100000
theorem sw_ne {x k : Int32} {n : Int} (h : ¬ x = k) (hk : k.toInt = n) : x.toInt ≠ n := fun e => h (Int32.toInt_inj.mp (e.trans hk.symm))
theorem o_t {α : Type} {c : Prop} {d : Decidable c} {a b : Option α} {r : α} (hc : c) (h : (@ite _ c d a b) = some r) : a = some r := by rw [if_pos hc] at h; exact h
theorem o_f {α : Type} {c : Prop} {d : Decidable c} {a b : Option α} {r : α} (hc : ¬ c) (h : (@ite _ c d a b) = some r) : b = some r := by rw [if_neg hc] at h; exact h
def o_cpy {α : Type} (f : Nat → Int32) (sp dp n : Int32) (n0 n1 : Nat) (k : Option α) : Option α := if (¬ sp < 0) ∧ (¬ dp < 0) ∧ (¬ n < 0) ∧ sp.toNatClampNeg + n.toNatClampNeg ≤ n0 ∧ dp.toNatClampNeg + n.toNatClampNeg ≤ n1 ∧ (∀ i, i < n.toNatClampNeg → fits .byte (.int (f (sp.toNatClampNeg + i))) = true) then k else none
theorem o_cpy_s {α : Type} {f : Nat → Int32} {sp dp n : Int32} {n0 n1 : Nat} {k : Option α} {r : α} (h : o_cpy f sp dp n n0 n1 k = some r) : ((¬ sp < 0) ∧ (¬ dp < 0) ∧ (¬ n < 0) ∧ sp.toNatClampNeg + n.toNatClampNeg ≤ n0 ∧ dp.toNatClampNeg + n.toNatClampNeg ≤ n1 ∧ (∀ i, i < n.toNatClampNeg → fits .byte (.int (f (sp.toNatClampNeg + i))) = true)) ∧ k = some r := by
  unfold o_cpy at h
  split at h
  · next c => exact ⟨c, h⟩
  · cases h
def kx (p : Program) (s : State) (m : MethodId) (args : Array Value) (meth : Method) (c : Code) (cc : ByteArray) (mL : Nat) (ret : Option FieldType) (own : String) (ws : List Cond) : Prop :=
  p.tables.exec = Jvm.exec ∧ c.code = cc ∧ meth.sig.returnType = ret ∧ c.maxLocals = mL ∧ s.vm.findClass own = some m.cls ∧ (∀ w ∈ ws, w.before args s = true) ∧ meth.locks = false
abbrev k_E : Type := (Nat → Prop) → State → Prop
def kEok (E : k_E) : Prop := (∀ (A : Nat → Prop) (U : State) (g : JFrame) (mk : MethodId) (a : Array Value), E A U → E A (U.calling g mk a)) ∧
  ∀ (A B : Nat → Prop) (s U : State) (H : Heap) (locs : List Loc), E A s → va_S A s.heap H locs → (∀ q, B q → A q) → U.heap = H → s.WarmedH U.vm → E B U
def kPre (E : k_E) (D : va_G) (cl : List vw_C) (av : List Value) (w : va_W) (sz : Nat) : Array Value → State → Prop :=
  va_Pc av (fun U => U.heap.size = sz ∧ va_P D cl w U.heap ∧ va_D (fun _ => True) w ∧ E (va_A w sz) U)
def kQi (D : va_G) (cl : List vw_C) (w' : va_W) (r : Int32) (A : Nat → Prop) : Array Value → State → Outcome → State → Prop := va_Qi (fun x (_ : Unit) => x = r) (fun _ t => va_P D cl w' t.heap ∧ va_D A w') A
def kQl (D : va_G) (cl : List vw_C) (w' : va_W) (r : Int64) (A : Nat → Prop) : Array Value → State → Outcome → State → Prop := va_Ql (fun x (_ : Unit) => x = r) (fun _ t => va_P D cl w' t.heap ∧ va_D A w') A
def kQv (D : va_G) (cl : List vw_C) (w' : va_W) (A : Nat → Prop) : Array Value → State → Outcome → State → Prop := va_Qv (fun (_ : Unit) => True) (fun _ t => va_P D cl w' t.heap ∧ va_D A w') A
def kQr (D : va_G) (cl : List vw_C) (w' : va_W) (r : Nat) (A : Nat → Prop) : Array Value → State → Outcome → State → Prop := va_Qr (fun (_ : Unit) => True) (fun _ a t => a = r ∧ va_P D cl w' t.heap ∧ va_D A w') A
def KMet (l : Launch) (y : MethodName) (ws : List Cond) (rm : Room) (E : k_E) (D : va_G) (cl : List vw_C) (av : List Value) (w : va_W) (Qc : (Nat → Prop) → Array Value → State → Outcome → State → Prop) : Prop :=
  ∀ sz : Nat, Met l y ws rm (kPre E D cl av w sz) (Qc (va_A w sz)) 0 0 (va_A w sz)
theorem kMet {l : Launch} {y : MethodName} {ws ws' : List Cond} {rm : Room} {cc : ByteArray} {mL : Nat} {ret : Option FieldType} {D : va_G} {cl : List vw_C} {E : k_E} {av : List Value} {w : va_W} {Qc : (Nat → Prop) → Array Value → State → Outcome → State → Prop}
    {own : String} (hy : plainName y.cls = true) (ho : y.cls = own) (hw : ws = Cond.code y cc mL ret :: ws') (hn : (lg_sl av).length ≤ mL)
    (body : ∀ (p : Program) (e : Env) (s : State) (m : MethodId) (below : List Frame) (meth : Method) (c : Code) (A : Nat → Prop), kx p s m av.toArray meth c cc mL ret own ws → meth.name = y.name → E A s → (∀ q : Nat, s.heap.size ≤ q → A q) → va_P D cl w s.heap → va_D A w → ∀ ls : Array Slot, lv_has ls mL (lv_args 0 av) →
      W p l e rm s m av.toArray below meth c s.heap [] 0 0 (MQ below (Qc A) av.toArray s 0 0 A) (F0 m 0 ls [])) :
    KMet l y ws rm E D cl av w Qc := by
  intro sz
  refine Met.ofW (cc := cc) (maxL := mL) (ret := ret) hy hw ?_
  intro p e s m args below meth c s₁ B hml hv
  obtain ⟨rfl, hsz, hP, hD0, hE⟩ := hv
  subst hsz
  have hown : s.vm.findClass own = some m.cls := by rw [← ho]; exact findClass_of_methodNamed B.named
  have hl := lv_entry av (n := mL) hn
  rw [lg_entry_eq]
  exact body p e s m below meth c _ ⟨B.exec, B.bytes, B.returns, hml, hown, atoms_spec (ws := ws) B.pre, B.notSynchronized⟩ (name_of_methodNamed B.named B.method).1 hE (fun q h => Or.inr h) hP (hD0.self) _ hl
section KR
variable {p : Program} {l : Launch} {e : Env} {R : Room} {s : State} {m : MethodId} {args : Array Value} {below : List Frame} {meth : Method} {c : Code} {H : Heap} {locs : List Loc} {cells slots : Nat} {cc : ByteArray} {mL : Nat} {own : String} {ws : List Cond} {D : va_G} {cl : List vw_C} {w : va_W} {A : Nat → Prop} {pc : Nat} {ls : Array Slot}
theorem kRet_i {v : Int32} (C : kx p s m args meth c cc mL (some .int) own ws) (hP : va_P D cl w H) (hD : va_D A w) (hS : va_S A s.heap H locs) (hdg : decode cc pc = .ok (.ireturn, 1)) : W p l e R s m args below meth c H locs cells slots (MQ below (kQi D cl w v A) args s cells slots A) (F0 m pc ls [.int v]) := by
  obtain ⟨hx, hb, hr, hml, hown, hts, hlocks⟩ := C
  exact W.iret (v := v) hx hb hr (fun t ht hW => ⟨⟨v, (), rfl, rfl, by rw [ht]; exact hP, hD⟩, hS.F ht⟩) hS.2.2 hdg
theorem kRet_l {v : Int64} (C : kx p s m args meth c cc mL (some .long) own ws) (hP : va_P D cl w H) (hD : va_D A w) (hS : va_S A s.heap H locs) (hdg : decode cc pc = .ok (.lreturn, 1)) : W p l e R s m args below meth c H locs cells slots (MQ below (kQl D cl w v A) args s cells slots A) (F0 m pc ls [.long v]) := by
  obtain ⟨hx, hb, hr, hml, hown, hts, hlocks⟩ := C
  exact W.lret (v := v) hx hb hr (fun t ht hW => ⟨⟨v, (), rfl, rfl, by rw [ht]; exact hP, hD⟩, hS.F ht⟩) hS.2.2 hdg
theorem kRet_v (C : kx p s m args meth c cc mL none own ws) (hP : va_P D cl w H) (hD : va_D A w) (hS : va_S A s.heap H locs) (hdg : decode cc pc = .ok (.return_, 1)) : W p l e R s m args below meth c H locs cells slots (MQ below (kQv D cl w A) args s cells slots A) (F0 m pc ls []) := by
  obtain ⟨hx, hb, hr, hml, hown, hts, hlocks⟩ := C
  exact W.vret hx hb hr (fun t ht hW => ⟨⟨(), rfl, trivial, by rw [ht]; exact hP, hD⟩, hS.F ht⟩) hS.2.2 hdg
theorem kRet_z {v : Int32} (C : kx p s m args meth c cc mL (some .boolean) own ws) (hz : narrow .boolean (.int v) = .int v) (hP : va_P D cl w H) (hD : va_D A w) (hS : va_S A s.heap H locs) (hdg : decode cc pc = .ok (.ireturn, 1)) : W p l e R s m args below meth c H locs cells slots (MQ below (kQi D cl w v A) args s cells slots A) (F0 m pc ls [.int v]) := by
  obtain ⟨hx, hb, hr, hml, hown, hts, hlocks⟩ := C
  exact W.zret (v := v) hx hb hr hz (fun t ht hW => ⟨⟨v, (), rfl, rfl, by rw [ht]; exact hP, hD⟩, hS.F ht⟩) hS.2.2 hdg
theorem kRet_r {v : Nat} {rt : FieldType} (C : kx p s m args meth c cc mL (some rt) own ws) (hrt : (∃ n, rt = .object n) ∨ ∃ t, rt = .array t) (hP : va_P D cl w H) (hD : va_D A w) (hS : va_S A s.heap H locs) (hdg : decode cc pc = .ok (.areturn, 1)) : W p l e R s m args below meth c H locs cells slots (MQ below (kQr D cl w v A) args s cells slots A) (F0 m pc ls [.ref v]) := by
  obtain ⟨hx, hb, hr, hml, hown, hts, hlocks⟩ := C
  exact W.aret (v := .ref v) hx hb hr hrt (Or.inr ⟨v, rfl⟩) (fun t ht hW => ⟨⟨(), v, rfl, trivial, rfl, by rw [ht]; exact hP, hD⟩, hS.F ht⟩) hS.2.2 hdg
end KR
def k_pk (w : va_W) (is : List Nat) : va_W := is.filterMap (fun i => w[i]?)
section KC
variable {p : Program} {l : Launch} {e : Env} {R : Room} {s : State} {m : MethodId} {args : Array Value} {below : List Frame} {meth : Method} {c : Code} {H : Heap} {locs : List Loc} {cells slots : Nat} {Q : State → Prop} {cc : ByteArray} {mL : Nat} {ret : Option FieldType} {own : String} {ws : List Cond} {D : va_G} {cl : List vw_C} {A : Nat → Prop} {pc : Nat} {ls : Array Slot}
variable {E : k_E} {w wc : va_W} {y : MethodName} {ws2 : List Cond} {rm2 : Room} {bytes : ByteArray} {maxL index n : Nat} {ret2 : Option FieldType} {As rest st0 : List Value} {Qc : (Nat → Prop) → Array Value → State → Outcome → State → Prop}
theorem kPreAt {av : List Value} (hEo : kEok E) (hE : E A s) (hA : ∀ q : Nat, s.heap.size ≤ q → A q) (hP : va_P D cl w H) (hD : va_D A w) (hS : va_S A s.heap H locs) (isC : List Nat) (hC : isC.map (fun i => w[i]?) = wc.map some) (hnd : va_nd isC = true) (hpk : isC.filterMap (fun i => w[i]?) = wc) :
    FrameBlind (kPre E D cl av wc H.size) ∧ ∀ U : State, U.heap = H → s.WarmedH U.vm → kPre E D cl av wc H.size av.toArray U := by
  refine ⟨fun a U g mk q => ?_, fun U hU hW => ?_⟩
  · obtain ⟨q0, q1, qP, qD, qE⟩ := q
    exact ⟨q0, q1, qP, qD, hEo.1 _ _ _ _ _ qE⟩
  · refine ⟨rfl, by rw [hU], by rw [hU]; exact hP.sub isC hpk, (hD.sub isC hnd hC).weaken (fun _ _ _ _ => trivial), ?_⟩
    exact hEo.2 A _ s U H locs hE hS (va_free hD hS hA isC hC) hU hW
theorem kRunV {b : Nat} {tys : List (ClassId × FieldType)} {T : u_T} {N : Nat} {Cn : String} {fs : List Value} (C : kx p s m args meth c cc mL ret own ws) (hEo : kEok E) (hE : E A s) (hA : ∀ q : Nat, s.heap.size ≤ q → A q) (hP : va_P D cl w H) (hD : va_D A w) (hS : va_S A s.heap H locs) (isC : List Nat) (hC : isC.map (fun i => w[i]?) = wc.map some) (hnd : va_nd isC = true) (hpk : isC.filterMap (fun i => w[i]?) = wc)
    (hM : KMet l y ws2 rm2 E D cl (.ref b :: As) wc Qc) (hK : va_K D cl tys s) (j ci : Nat) (hci : cl[ci]? = some (Cn, T, N)) (hj : wc[j]? = some (b, .inr (ci, fs))) (cw : CallW R s args own Cn index y bytes maxL ret2 ws2 rm2 0 0 n) (hn : As.length = n) (hsz : ls.size = mL) (hst : st0 = As.reverse ++ .ref b :: rest) (hroom : (rest.map fun v => v.category).sum ≤ 8) (hdg : decode cc pc = .ok (.invokevirtual index, 3)) (hf : cells ≤ R.cells ∧ slots ≤ R.slots) :
    va_Run p l e R s m args below meth c H locs cells slots 0 0 (F0 m pc ls st0) rest (Qc (va_A wc H.size) (Value.ref b :: As).toArray) (va_A wc H.size) := by
  obtain ⟨hx, hb, hr, hml, hown, hts, hlocks⟩ := C
  obtain ⟨h1, h2⟩ := kPreAt (av := .ref b :: As) hEo hE hA hP hD hS isC hC hnd hpk
  exact va_runV (g := F0 m pc ls st0) ⟨hx, hb, hml, hown, hts⟩ (hM H.size) cw ⟨h1, va_recv hK (hP.sub isC hpk) hci hj, h2⟩ rfl hn hsz hst (lv_room hroom) hdg hf
theorem kRunVN {b : Nat} {tys : List (ClassId × FieldType)} {T : u_T} {N : Nat} {Cn host : String} {fs : List Value} (C : kx p s m args meth c cc mL ret own ws) (hEo : kEok E) (hE : E A s) (hA : ∀ q : Nat, s.heap.size ≤ q → A q) (hP : va_P D cl w H) (hD : va_D A w) (hS : va_S A s.heap H locs) (isC : List Nat) (hC : isC.map (fun i => w[i]?) = wc.map some) (hnd : va_nd isC = true) (hpk : isC.filterMap (fun i => w[i]?) = wc)
    (hM : KMet l y ws2 rm2 E D cl (.ref b :: As) wc Qc) (hK : va_K D cl tys s) (j ci : Nat) (hci : cl[ci]? = some (Cn, T, N)) (hj : wc[j]? = some (b, .inr (ci, fs))) (cw : va_CN R s args own index y host bytes maxL ret2 ws2 rm2 0 0 n ∧ (Cond.instanceMethod y).before args s = true ∧ (Cond.selects Cn y y).before args s = true) (hn : As.length = n) (hsz : ls.size = mL) (hst : st0 = As.reverse ++ .ref b :: rest) (hroom : (rest.map fun v => v.category).sum ≤ 8) (hdg : decode cc pc = .ok (.invokevirtual index, 3)) (hf : cells ≤ R.cells ∧ slots ≤ R.slots) :
    va_Run p l e R s m args below meth c H locs cells slots 0 0 (F0 m pc ls st0) rest (Qc (va_A wc H.size) (Value.ref b :: As).toArray) (va_A wc H.size) := by
  obtain ⟨hx, hb, hr, hml, hown, hts, hlocks⟩ := C
  obtain ⟨h1, h2⟩ := kPreAt (av := .ref b :: As) hEo hE hA hP hD hS isC hC hnd hpk
  exact va_runVN (g := F0 m pc ls st0) ⟨hx, hb, hml, hown, hts⟩ (hM H.size) cw ⟨h1, va_recv hK (hP.sub isC hpk) hci hj, h2⟩ rfl hn hsz hst (lv_room hroom) hdg hf
theorem kRunS (C : kx p s m args meth c cc mL ret own ws) (hEo : kEok E) (hE : E A s) (hA : ∀ q : Nat, s.heap.size ≤ q → A q) (hP : va_P D cl w H) (hD : va_D A w) (hS : va_S A s.heap H locs) (isC : List Nat) (hC : isC.map (fun i => w[i]?) = wc.map some) (hnd : va_nd isC = true) (hpk : isC.filterMap (fun i => w[i]?) = wc)
    (hM : KMet l y ws2 rm2 E D cl As wc Qc) (cw : CallB R s args own index y bytes maxL ret2 ws2 rm2 0 0 n ∧ (Cond.static y).before args s = true) (hn : As.length = n) (hsz : ls.size = mL) (hst : st0 = As.reverse ++ rest) (hroom : (rest.map fun v => v.category).sum ≤ 8) (hdg : decode cc pc = .ok (.invokestatic index, 3)) (hf : cells ≤ R.cells ∧ slots ≤ R.slots) :
    va_Run p l e R s m args below meth c H locs cells slots 0 0 (F0 m pc ls st0) rest (Qc (va_A wc H.size) As.toArray) (va_A wc H.size) := by
  obtain ⟨hx, hb, hr, hml, hown, hts, hlocks⟩ := C
  exact va_runS (g := F0 m pc ls st0) ⟨hx, hb, hml, hown, hts⟩ (hM H.size) cw (kPreAt (av := As) hEo hE hA hP hD hS isC hC hnd hpk) rfl hn hsz hst (lv_room hroom) hdg hf
theorem kRunSN {host : String} (C : kx p s m args meth c cc mL ret own ws) (hEo : kEok E) (hE : E A s) (hA : ∀ q : Nat, s.heap.size ≤ q → A q) (hP : va_P D cl w H) (hD : va_D A w) (hS : va_S A s.heap H locs) (isC : List Nat) (hC : isC.map (fun i => w[i]?) = wc.map some) (hnd : va_nd isC = true) (hpk : isC.filterMap (fun i => w[i]?) = wc)
    (hM : KMet l y ws2 rm2 E D cl As wc Qc) (cw : va_CN R s args own index y host bytes maxL ret2 ws2 rm2 0 0 n ∧ (Cond.static y).before args s = true ∧ True) (hn : As.length = n) (hsz : ls.size = mL) (hst : st0 = As.reverse ++ rest) (hroom : (rest.map fun v => v.category).sum ≤ 8) (hdg : decode cc pc = .ok (.invokestatic index, 3)) (hf : cells ≤ R.cells ∧ slots ≤ R.slots) :
    va_Run p l e R s m args below meth c H locs cells slots 0 0 (F0 m pc ls st0) rest (Qc (va_A wc H.size) As.toArray) (va_A wc H.size) := by
  obtain ⟨hx, hb, hr, hml, hown, hts, hlocks⟩ := C
  exact va_runSN (g := F0 m pc ls st0) ⟨hx, hb, hml, hown, hts⟩ (hM H.size) cw (kPreAt (av := As) hEo hE hA hP hD hS isC hC hnd hpk) rfl hn hsz hst (lv_room hroom) hdg hf
theorem kJoin {wc' w' : va_W} {t : State} {H1 : Heap} (isC isR perm : List Nat) (hP : va_P D cl w H) (hD : va_D A w) (hS : va_S A s.heap H locs) (hA : ∀ q : Nat, s.heap.size ≤ q → A q) (hC : isC.map (fun i => w[i]?) = wc.map some) (hR : isR.map (fun i => w[i]?) = (k_pk w isR).map some) (hn : va_nd isR = true) (hdis : ∀ i ∈ isR, i ∉ isC) (hnp : va_nd perm = true) (hp1 : perm.map (fun i => (k_pk w isR ++ wc')[i]?) = w'.map some) (hp2 : perm.filterMap (fun i => (k_pk w isR ++ wc')[i]?) = w')
    (ht : t.heap = H1) (hB : va_P D cl wc' t.heap ∧ va_D (va_A wc H.size) wc') (hk : ∀ q : Nat, q < H.size → ¬ va_A wc H.size q → H1[q]? = H[q]?) : va_P D cl w' H1 ∧ va_D A w' := by
  obtain ⟨hP1, hD1⟩ := hB
  rw [ht] at hP1
  obtain ⟨a, b⟩ := va_join (wr := k_pk w isR) (w1 := wc') hP hD isC isR hC hR hn hdis hk (va_free hD hS hA isC hC) hP1 hD1
  exact ⟨a.sub perm hp2, b.sub perm hnp hp1⟩
theorem kCi {wc' w' : va_W} {r : Int32} {a : Array Value} (hP : va_P D cl w H) (hD : va_D A w) (hS : va_S A s.heap H locs) (hA : ∀ q : Nat, s.heap.size ≤ q → A q) (isC isR perm : List Nat)
    (hr : va_Run p l e R s m args below meth c H locs cells slots 0 0 (F0 m pc ls st0) rest (kQi D cl wc' r (va_A wc H.size) a) (va_A wc H.size))
    (hC : isC.map (fun i => w[i]?) = wc.map some) (hR : isR.map (fun i => w[i]?) = (k_pk w isR).map some) (hn : va_nd isR = true) (hdis : ∀ i ∈ isR, i ∉ isC) (hnp : va_nd perm = true) (hp1 : perm.map (fun i => (k_pk w isR ++ wc')[i]?) = w'.map some) (hp2 : perm.filterMap (fun i => (k_pk w isR ++ wc')[i]?) = w')
    (kk : ∀ (H1 : Heap) (locs1 : List Loc), va_P D cl w' H1 → va_D A w' → va_S A s.heap H1 locs1 → W p l e R s m args below meth c H1 locs1 cells slots Q (F0 m (pc + 3) ls (.int r :: rest))) : W p l e R s m args below meth c H locs cells slots Q (F0 m pc ls st0) := by
  have hF := va_free hD hS hA isC hC
  refine va_calli hr hS (fun q _ h => hF q h) hF (fun x u t H1 locs1 ht hvm hw hB hz hk hS1 => ?_)
  obtain ⟨h1, h2⟩ := kJoin isC isR perm hP hD hS hA hC hR hn hdis hnp hp1 hp2 ht hB hk
  subst hw
  exact kk H1 locs1 h1 h2 hS1
theorem kCl {wc' w' : va_W} {r : Int64} {a : Array Value} (hP : va_P D cl w H) (hD : va_D A w) (hS : va_S A s.heap H locs) (hA : ∀ q : Nat, s.heap.size ≤ q → A q) (isC isR perm : List Nat)
    (hr : va_Run p l e R s m args below meth c H locs cells slots 0 0 (F0 m pc ls st0) rest (kQl D cl wc' r (va_A wc H.size) a) (va_A wc H.size))
    (hC : isC.map (fun i => w[i]?) = wc.map some) (hR : isR.map (fun i => w[i]?) = (k_pk w isR).map some) (hn : va_nd isR = true) (hdis : ∀ i ∈ isR, i ∉ isC) (hnp : va_nd perm = true) (hp1 : perm.map (fun i => (k_pk w isR ++ wc')[i]?) = w'.map some) (hp2 : perm.filterMap (fun i => (k_pk w isR ++ wc')[i]?) = w')
    (kk : ∀ (H1 : Heap) (locs1 : List Loc), va_P D cl w' H1 → va_D A w' → va_S A s.heap H1 locs1 → W p l e R s m args below meth c H1 locs1 cells slots Q (F0 m (pc + 3) ls (.long r :: rest))) : W p l e R s m args below meth c H locs cells slots Q (F0 m pc ls st0) := by
  have hF := va_free hD hS hA isC hC
  refine va_calll hr hS (fun q _ h => hF q h) hF (fun x u t H1 locs1 ht hvm hw hB hz hk hS1 => ?_)
  obtain ⟨h1, h2⟩ := kJoin isC isR perm hP hD hS hA hC hR hn hdis hnp hp1 hp2 ht hB hk
  subst hw
  exact kk H1 locs1 h1 h2 hS1
theorem kCv {wc' w' : va_W} {a : Array Value} (hP : va_P D cl w H) (hD : va_D A w) (hS : va_S A s.heap H locs) (hA : ∀ q : Nat, s.heap.size ≤ q → A q) (isC isR perm : List Nat)
    (hr : va_Run p l e R s m args below meth c H locs cells slots 0 0 (F0 m pc ls st0) rest (kQv D cl wc' (va_A wc H.size) a) (va_A wc H.size))
    (hC : isC.map (fun i => w[i]?) = wc.map some) (hR : isR.map (fun i => w[i]?) = (k_pk w isR).map some) (hn : va_nd isR = true) (hdis : ∀ i ∈ isR, i ∉ isC) (hnp : va_nd perm = true) (hp1 : perm.map (fun i => (k_pk w isR ++ wc')[i]?) = w'.map some) (hp2 : perm.filterMap (fun i => (k_pk w isR ++ wc')[i]?) = w')
    (kk : ∀ (H1 : Heap) (locs1 : List Loc), va_P D cl w' H1 → va_D A w' → va_S A s.heap H1 locs1 → W p l e R s m args below meth c H1 locs1 cells slots Q (F0 m (pc + 3) ls rest)) : W p l e R s m args below meth c H locs cells slots Q (F0 m pc ls st0) := by
  have hF := va_free hD hS hA isC hC
  refine va_callv hr hS (fun q _ h => hF q h) hF (fun u t H1 locs1 ht hvm hw hB hz hk hS1 => ?_)
  obtain ⟨h1, h2⟩ := kJoin isC isR perm hP hD hS hA hC hR hn hdis hnp hp1 hp2 ht hB hk
  exact kk H1 locs1 h1 h2 hS1
theorem kCr {wc' w' : va_W} {r : Nat} {a : Array Value} (hP : va_P D cl w H) (hD : va_D A w) (hS : va_S A s.heap H locs) (hA : ∀ q : Nat, s.heap.size ≤ q → A q) (isC isR perm : List Nat)
    (hr : va_Run p l e R s m args below meth c H locs cells slots 0 0 (F0 m pc ls st0) rest (kQr D cl wc' r (va_A wc H.size) a) (va_A wc H.size))
    (hC : isC.map (fun i => w[i]?) = wc.map some) (hR : isR.map (fun i => w[i]?) = (k_pk w isR).map some) (hn : va_nd isR = true) (hdis : ∀ i ∈ isR, i ∉ isC) (hnp : va_nd perm = true) (hp1 : perm.map (fun i => (k_pk w isR ++ wc')[i]?) = w'.map some) (hp2 : perm.filterMap (fun i => (k_pk w isR ++ wc')[i]?) = w')
    (kk : ∀ (H1 : Heap) (locs1 : List Loc), va_P D cl w' H1 → va_D A w' → va_S A s.heap H1 locs1 → W p l e R s m args below meth c H1 locs1 cells slots Q (F0 m (pc + 3) ls (.ref r :: rest))) : W p l e R s m args below meth c H locs cells slots Q (F0 m pc ls st0) := by
  have hF := va_free hD hS hA isC hC
  refine va_callr hr hS (fun q _ h => hF q h) hF (fun u x t H1 locs1 ht hvm hw hB hz hk hS1 => ?_)
  obtain ⟨hxr, hB⟩ := hB
  obtain ⟨h1, h2⟩ := kJoin isC isR perm hP hD hS hA hC hR hn hdis hnp hp1 hp2 ht hB hk
  subst hxr
  exact kk H1 locs1 h1 h2 hS1
end KC
def kQn {S : Type} (D : va_G) (cl : List vw_C) (w' : S → va_W) (A : Nat → Prop) : Array Value → State → Outcome → State → Prop := va_Qv (fun (_ : S) => True) (fun u t => va_P D cl (w' u) t.heap ∧ va_D A (w' u)) A
def KMetN {S : Type} (l : Launch) (y : MethodName) (ws : List Cond) (rm : Room) (mc ms : Nat) (E : k_E) (D : va_G) (cl : List vw_C) (av : List Value) (w : va_W) (w' : S → va_W) : Prop :=
  ∀ sz : Nat, Met l y ws rm (kPre E D cl av w sz) (kQn D cl w' (va_A w sz)) mc ms (va_A w sz)
theorem kMetN {S : Type} {l : Launch} {y : MethodName} {ws ws' : List Cond} {rm : Room} {mc ms : Nat} {cc : ByteArray} {mL : Nat} {ret : Option FieldType} {D : va_G} {cl : List vw_C} {E : k_E} {av : List Value} {w : va_W} {w' : S → va_W}
    {own : String} (hy : plainName y.cls = true) (ho : y.cls = own) (hw : ws = Cond.code y cc mL ret :: ws') (hn : (lg_sl av).length ≤ mL)
    (body : ∀ (p : Program) (e : Env) (s : State) (m : MethodId) (below : List Frame) (meth : Method) (c : Code) (A : Nat → Prop), kx p s m av.toArray meth c cc mL ret own ws → meth.name = y.name → E A s → (∀ q : Nat, s.heap.size ≤ q → A q) → va_P D cl w s.heap → va_D A w → ∀ ls : Array Slot, lv_has ls mL (lv_args 0 av) →
      W p l e rm s m av.toArray below meth c s.heap [] 0 0 (MQ below (kQn D cl w' A) av.toArray s mc ms A) (F0 m 0 ls [])) :
    KMetN l y ws rm mc ms E D cl av w w' := by
  intro sz
  refine Met.ofW (cc := cc) (maxL := mL) (ret := ret) hy hw ?_
  intro p e s m args below meth c s₁ B hml hv
  obtain ⟨rfl, hsz, hP, hD0, hE⟩ := hv
  subst hsz
  have hown : s.vm.findClass own = some m.cls := by rw [← ho]; exact findClass_of_methodNamed B.named
  have hl := lv_entry av (n := mL) hn
  rw [lg_entry_eq]
  exact body p e s m below meth c _ ⟨B.exec, B.bytes, B.returns, hml, hown, atoms_spec (ws := ws) B.pre, B.notSynchronized⟩ (name_of_methodNamed B.named B.method).1 hE (fun q h => Or.inr h) hP (hD0.self) _ hl
section KN
variable {p : Program} {l : Launch} {e : Env} {R : Room} {s : State} {m : MethodId} {args : Array Value} {below : List Frame} {meth : Method} {c : Code} {H : Heap} {locs : List Loc} {cells slots mc ms : Nat} {Q : State → Prop} {cc : ByteArray} {mL : Nat} {ret : Option FieldType} {own : String} {ws : List Cond} {D : va_G} {cl : List vw_C} {A : Nat → Prop} {pc : Nat} {ls : Array Slot}
variable {E : k_E} {w wc : va_W} {y : MethodName} {ws2 : List Cond} {rm2 : Room} {bytes : ByteArray} {maxL index n : Nat} {As rest st0 : List Value}
theorem kRet_n {S : Type} {w' : S → va_W} (u : S) (C : kx p s m args meth c cc mL none own ws) (hP : va_P D cl (w' u) H) (hD : va_D A (w' u)) (hS : va_S A s.heap H locs) (hdg : decode cc pc = .ok (.return_, 1)) : W p l e R s m args below meth c H locs cells slots (MQ below (kQn D cl w' A) args s cells slots A) (F0 m pc ls []) := by
  obtain ⟨hx, hb, hr, hml, hown, hts, hlocks⟩ := C
  exact W.vret hx hb hr (fun t ht hW => ⟨⟨u, rfl, trivial, by rw [ht]; exact hP, hD⟩, hS.F ht⟩) hS.2.2 hdg
theorem kRunI {S : Type} {w' : S → va_W} {b : Nat} (C : kx p s m args meth c cc mL ret own ws) (hEo : kEok E) (hE : E A s) (hA : ∀ q : Nat, s.heap.size ≤ q → A q) (hP : va_P D cl w H) (hD : va_D A w) (hS : va_S A s.heap H locs) (isC : List Nat) (hC : isC.map (fun i => w[i]?) = wc.map some) (hnd : va_nd isC = true) (hpk : isC.filterMap (fun i => w[i]?) = wc)
    (hM : KMetN l y ws2 rm2 mc ms E D cl (.ref b :: As) wc w') (cw : CallB R s args own index y bytes maxL none ws2 rm2 mc ms n ∧ y.name = "<init>" ∧ (Cond.instanceMethod y).before args s = true) (hn : As.length = n) (hsz : ls.size = mL) (hst : st0 = As.reverse ++ .ref b :: rest) (hroom : (rest.map fun v => v.category).sum ≤ 8) (hdg : decode cc pc = .ok (.invokespecial index, 3)) (hf : cells + mc ≤ R.cells ∧ slots + ms ≤ R.slots) :
    va_Run p l e R s m args below meth c H locs cells slots mc ms (F0 m pc ls st0) rest (kQn D cl w' (va_A wc H.size) (Value.ref b :: As).toArray) (va_A wc H.size) := by
  obtain ⟨hx, hb, hr, hml, hown, hts, hlocks⟩ := C
  exact va_runI (g := F0 m pc ls st0) ⟨hx, hb, hml, hown, hts⟩ (hM H.size) cw (kPreAt (av := .ref b :: As) hEo hE hA hP hD hS isC hC hnd hpk) rfl hn hsz hst (lv_room hroom) hdg hf
theorem kRunIN {S : Type} {w' : S → va_W} {b : Nat} {host : String} (C : kx p s m args meth c cc mL ret own ws) (hEo : kEok E) (hE : E A s) (hA : ∀ q : Nat, s.heap.size ≤ q → A q) (hP : va_P D cl w H) (hD : va_D A w) (hS : va_S A s.heap H locs) (isC : List Nat) (hC : isC.map (fun i => w[i]?) = wc.map some) (hnd : va_nd isC = true) (hpk : isC.filterMap (fun i => w[i]?) = wc)
    (hM : KMetN l y ws2 rm2 mc ms E D cl (.ref b :: As) wc w') (cw : va_CN R s args own index y host bytes maxL none ws2 rm2 mc ms n ∧ y.name = "<init>" ∧ (Cond.instanceMethod y).before args s = true) (hn : As.length = n) (hsz : ls.size = mL) (hst : st0 = As.reverse ++ .ref b :: rest) (hroom : (rest.map fun v => v.category).sum ≤ 8) (hdg : decode cc pc = .ok (.invokespecial index, 3)) (hf : cells + mc ≤ R.cells ∧ slots + ms ≤ R.slots) :
    va_Run p l e R s m args below meth c H locs cells slots mc ms (F0 m pc ls st0) rest (kQn D cl w' (va_A wc H.size) (Value.ref b :: As).toArray) (va_A wc H.size) := by
  obtain ⟨hx, hb, hr, hml, hown, hts, hlocks⟩ := C
  exact va_runIN (g := F0 m pc ls st0) ⟨hx, hb, hml, hown, hts⟩ (hM H.size) cw (kPreAt (av := .ref b :: As) hEo hE hA hP hD hS isC hC hnd hpk) rfl hn hsz hst (lv_room hroom) hdg hf
theorem kCn {S : Type} {wc' w' : S → va_W} {a : Array Value} (hP : va_P D cl w H) (hD : va_D A w) (hS : va_S A s.heap H locs) (hA : ∀ q : Nat, s.heap.size ≤ q → A q) (isC isR perm : List Nat)
    (hr : va_Run p l e R s m args below meth c H locs cells slots mc ms (F0 m pc ls st0) rest (kQn D cl wc' (va_A wc H.size) a) (va_A wc H.size))
    (hC : isC.map (fun i => w[i]?) = wc.map some) (hR : isR.map (fun i => w[i]?) = (k_pk w isR).map some) (hn : va_nd isR = true) (hdis : ∀ i ∈ isR, i ∉ isC) (hnp : va_nd perm = true) (hp1 : ∀ u : S, perm.map (fun i => (k_pk w isR ++ wc' u)[i]?) = (w' u).map some) (hp2 : ∀ u : S, perm.filterMap (fun i => (k_pk w isR ++ wc' u)[i]?) = w' u)
    (kk : ∀ (u : S) (H1 : Heap) (locs1 : List Loc), va_P D cl (w' u) H1 → va_D A (w' u) → va_S A s.heap H1 locs1 → W p l e R s m args below meth c H1 locs1 (cells + mc) (slots + ms) Q (F0 m (pc + 3) ls rest)) : W p l e R s m args below meth c H locs cells slots Q (F0 m pc ls st0) := by
  have hF := va_free hD hS hA isC hC
  refine va_callv hr hS (fun q _ h => hF q h) hF (fun u t H1 locs1 ht hvm hw hB hz hk hS1 => ?_)
  obtain ⟨h1, h2⟩ := kJoin isC isR perm hP hD hS hA hC hR hn hdis hnp (hp1 u) (hp2 u) ht hB hk
  exact kk u H1 locs1 h1 h2 hS1
theorem k_newa {H0 : Heap} {tys : List (ClassId × FieldType)} (hexec : p.tables.exec = Jvm.exec) (hb : c.code = cc) {atype : ArrayType} (harr : (Cond.arrayClass (newarray.typeOf atype)).before args s = true) {ty : FieldType} (hty : newarray.typeOf atype = ty) (hK : va_K D cl tys s) (t0 : Nat) {c0 : ClassId} (ht0 : tys[t0]? = some (c0, ty)) (hra : ∀ cA : ClassId, va_RA s cA ty → va_RA s c0 ty → cA = c0) (hP : va_P D cl w H) (hD : va_D A w) (hS : va_S A H0 H locs) (hA : ∀ q, H0.size ≤ q → A q)
    {k : Int32} {N' : Nat} {a0 : vp_A} (ha : ∀ cA : ClassId, vp_cell cA a0 = arrV cA N' (fun _ => defaultValue ty)) (hn : ¬ k < 0) (hN : k.toNatClampNeg = N') (hbytes : N' * componentBytes ty ≤ 536870912) (hcells : cells + 1 ≤ R.cells) (hslots : slots + N' ≤ R.slots) (hdg : decode cc pc = .ok (.newarray atype, 2))
    (kk : ∀ (q : Nat) (H1 : Heap), va_P D cl (w ++ [(q, .inl (c0, a0))]) H1 → va_D A (w ++ [(q, .inl (c0, a0))]) → va_S A H0 H1 locs → W p l e R s m args below meth c H1 locs (cells + 1) (slots + N') Q (F0 m (pc + 2) ls (.ref q :: rest))) : W p l e R s m args below meth c H locs cells slots Q (F0 m pc ls (.int k :: rest)) := by
  refine va_newa hexec hb harr hty hK hP hD hS hA ha hn hN hbytes hcells hslots hdg (fun q cA H1 hK1 hP1 hD1 hS1 => ?_)
  have e : cA = c0 := hra cA (hK1.2 tys.length (cA, ty) (by simp)).2 (hK.2 t0 (c0, ty) ht0).2
  subst e
  exact kk q H1 hP1 hD1 hS1
end KN
theorem k_good : ∀ w ∈ k_tbl, goodWord w = true := fun _ h => (List.mem_filter.mp h).2
theorem gC {y : MethodName} {b : ByteArray} {n : Nat} {r : Option FieldType} (hc : Cond.code y b n r ∈ k_tbl) : GoodIn k_tbl (.code y b n r :: k_tbl) := fun w h => (List.mem_cons.mp h).elim (fun e => e ▸ ⟨hc, good_of_word (k_good _ hc)⟩) (fun h => ⟨h, good_of_word (k_good _ h)⟩)
theorem gApp {a b : List Cond} (ha : ∀ w ∈ a, w ∈ k_tbl) (hb : GoodIn k_tbl b) : GoodIn k_tbl (a ++ b) := fun w h => (List.mem_append.mp h).elim (fun h => ⟨ha w h, good_of_word (k_good w (ha w h))⟩) (hb w)
theorem gV {own C : String} {idx : Nat} {y : MethodName} {b : ByteArray} {n : Nat} {r : Option FieldType} (h1 : Cond.methodLink own idx y ∈ k_tbl) (h2 : Cond.instanceMethod y ∈ k_tbl) (h3 : Cond.selects C y y ∈ k_tbl) (h4 : Cond.initialized C ∈ k_tbl) (hc : Cond.code y b n r ∈ k_tbl) : GoodIn k_tbl (wsV own idx C y (.code y b n r :: k_tbl)) :=
  gApp (fun w h => by
    rcases List.mem_cons.mp h with e | h
    · exact e ▸ h1
    rcases List.mem_cons.mp h with e | h
    · exact e ▸ h2
    rcases List.mem_cons.mp h with e | h
    · exact e ▸ h3
    rcases List.mem_cons.mp h with e | h
    · exact e ▸ h4
    · cases h) (gC hc)
theorem gS {own : String} {idx : Nat} {y : MethodName} {b : ByteArray} {n : Nat} {r : Option FieldType} (h1 : Cond.methodLink own idx y ∈ k_tbl) (h2 : Cond.static y ∈ k_tbl) (h3 : Cond.initialized y.cls ∈ k_tbl) (hc : Cond.code y b n r ∈ k_tbl) : GoodIn k_tbl (va_wsS own idx y (.code y b n r :: k_tbl)) :=
  gApp (fun w h => by
    rcases List.mem_cons.mp h with e | h
    · exact e ▸ h1
    rcases List.mem_cons.mp h with e | h
    · exact e ▸ h2
    rcases List.mem_cons.mp h with e | h
    · exact e ▸ h3
    · cases h) (gC hc)
def k_nest : Cond → Bool
  | .fieldLinkNest .. => true
  | .methodLinkNest .. => true
  | _ => false
theorem k_nest_tab {w : Cond} (h : k_nest w = true) : w.onTables = true := by
  cases w <;> first | rfl | (simp [k_nest] at h; done)
theorem k_nest_warm {w : Cond} (h : k_nest w = true) {s U : State} (hW : s.WarmedH U.vm) (hZ : va_Nw w s) : va_Nw w U := by
  cases w <;> first | exact va_Nw.warmF hW hZ | exact va_Nw.warmM hW hZ | (simp [k_nest] at h; done)
def ev (D : va_G) (cB cI cL : ClassId) : k_E := fun _ U => va_K D vwCl [(cB, .byte), (cI, .int), (cL, .long)] U ∧ (U.vm.findClass ("[" ++ FieldType.byte.toString) = some cB ∧ U.vm.findClass ("[" ++ FieldType.int.toString) = some cI ∧ U.vm.findClass ("[" ++ FieldType.long.toString) = some cL) ∧ ∀ w ∈ lw_tbl, k_nest w = true → va_Nw w U
theorem ev_ok {D : va_G} {cB cI cL : ClassId} : kEok (ev D cB cI cL) := by
  refine ⟨fun A U g mk a h => ⟨va_K.moved (u := U) (U := U.calling g mk a) (Vm.Alike.refl U.vm) h.1, h.2.1, fun w hw hn => va_Nw.same (u := U) (U := U.calling g mk a) (k_nest_tab hn) rfl (h.2.2 w hw hn)⟩, fun A B s U H locs h _ _ _ hW => ⟨va_K.moved hW.alike h.1, ?_, fun w hw hn => k_nest_warm hn hW (h.2.2 w hw hn)⟩⟩
  have e := hW.alike
  exact ⟨by rw [e.findClass]; exact h.2.1.1, by rw [e.findClass]; exact h.2.1.2.1, by rw [e.findClass]; exact h.2.1.2.2⟩
end
section
theorem kw_30 : (Jvm.Cond.fieldLink "LinkText$ByteRow" (15 : Nat) "LinkText$ByteRow" "count" "I") ∈ k_tbl := List.mem_filter.mpr ⟨List.mem_append_right _ (List.mem_append_left _ (List.mem_of_getElem? (i := 30) rfl)), rfl⟩
theorem kw_28 : (Jvm.Cond.fieldLink "LinkText$ByteRow" (9 : Nat) "LinkText$ByteRow" "bytes" "[B") ∈ k_tbl := List.mem_filter.mpr ⟨List.mem_append_right _ (List.mem_append_left _ (List.mem_of_getElem? (i := 28) rfl)), rfl⟩
theorem kw_32 : (Jvm.Cond.fieldLink "LinkText$ByteRow" (19 : Nat) "LinkText$ByteRow" "overrun" "Z") ∈ k_tbl := List.mem_filter.mpr ⟨List.mem_append_right _ (List.mem_append_left _ (List.mem_of_getElem? (i := 32) rfl)), rfl⟩
theorem kw_505 : (Jvm.Cond.methodLink "LinkText$ByteRow" (23 : Nat) ({ cls := "java/lang/System", name := "arraycopy", desc := "(Ljava/lang/Object;ILjava/lang/Object;II)V" } : Jvm.MethodName)) ∈ k_tbl := List.mem_filter.mpr ⟨List.mem_append_right _ (List.mem_append_right _ (List.mem_append_right _ (List.mem_append_left _ (List.mem_of_getElem? (i := 25) rfl)))), rfl⟩
theorem kw_507 : (Jvm.Cond.native ({ cls := "java/lang/System", name := "arraycopy", desc := "(Ljava/lang/Object;ILjava/lang/Object;II)V" } : Jvm.MethodName)) ∈ k_tbl := List.mem_filter.mpr ⟨List.mem_append_right _ (List.mem_append_right _ (List.mem_append_right _ (List.mem_append_left _ (List.mem_of_getElem? (i := 27) rfl)))), rfl⟩
theorem kw_506 : (Jvm.Cond.static ({ cls := "java/lang/System", name := "arraycopy", desc := "(Ljava/lang/Object;ILjava/lang/Object;II)V" } : Jvm.MethodName)) ∈ k_tbl := List.mem_filter.mpr ⟨List.mem_append_right _ (List.mem_append_right _ (List.mem_append_right _ (List.mem_append_left _ (List.mem_of_getElem? (i := 26) rfl)))), rfl⟩
theorem kw_13 : (Jvm.Cond.initialized "java/lang/System") ∈ k_tbl := List.mem_filter.mpr ⟨List.mem_append_right _ (List.mem_append_left _ (List.mem_of_getElem? (i := 13) rfl)), rfl⟩
theorem kw_508 : (Jvm.Cond.methodLink "LinkText$ByteRow" (29 : Nat) ({ cls := "LinkText$ByteRow", name := "cutTo", desc := "(I)V" } : Jvm.MethodName)) ∈ k_tbl := List.mem_filter.mpr ⟨List.mem_append_right _ (List.mem_append_right _ (List.mem_append_right _ (List.mem_append_left _ (List.mem_of_getElem? (i := 28) rfl)))), rfl⟩
theorem kw_379 : (Jvm.Cond.code ({ cls := "LinkText$ByteRow", name := "cutTo", desc := "(I)V" } : Jvm.MethodName) prog_2_method_3_code (2 : Nat) (Option.none : Option Jvm.ClassFile.FieldType)) ∈ k_tbl := List.mem_filter.mpr ⟨List.mem_append_right _ (List.mem_append_right _ (List.mem_append_left _ (List.mem_of_getElem? (i := 139) rfl))), rfl⟩
theorem kw_2 : (Jvm.Cond.initialized "LinkText$ByteRow") ∈ k_tbl := List.mem_filter.mpr ⟨List.mem_append_right _ (List.mem_append_left _ (List.mem_of_getElem? (i := 2) rfl)), rfl⟩
theorem kw_377 : (Jvm.Cond.instanceMethod ({ cls := "LinkText$ByteRow", name := "cutTo", desc := "(I)V" } : Jvm.MethodName)) ∈ k_tbl := List.mem_filter.mpr ⟨List.mem_append_right _ (List.mem_append_right _ (List.mem_append_left _ (List.mem_of_getElem? (i := 137) rfl))), rfl⟩
theorem kw_378 : (Jvm.Cond.selects "LinkText$ByteRow" ({ cls := "LinkText$ByteRow", name := "cutTo", desc := "(I)V" } : Jvm.MethodName) ({ cls := "LinkText$ByteRow", name := "cutTo", desc := "(I)V" } : Jvm.MethodName)) ∈ k_tbl := List.mem_filter.mpr ⟨List.mem_append_right _ (List.mem_append_right _ (List.mem_append_left _ (List.mem_of_getElem? (i := 138) rfl))), rfl⟩
theorem kw_53 : (Jvm.Cond.fieldLink "LinkText$Lines" (28 : Nat) "LinkText$Lines" "count" "I") ∈ k_tbl := List.mem_filter.mpr ⟨List.mem_append_right _ (List.mem_append_left _ (List.mem_of_getElem? (i := 53) rfl)), rfl⟩
theorem kw_56 : (Jvm.Cond.fieldLink "LinkText$Lines" (32 : Nat) "LinkText$Lines" "numberCount" "I") ∈ k_tbl := List.mem_filter.mpr ⟨List.mem_append_right _ (List.mem_append_left _ (List.mem_of_getElem? (i := 56) rfl)), rfl⟩
theorem kw_397 : (Jvm.Cond.methodLink "LinkText$Lines" (35 : Nat) ({ cls := "LinkText$Lines", name := "has", desc := "(I)Z" } : Jvm.MethodName)) ∈ k_tbl := List.mem_filter.mpr ⟨List.mem_append_right _ (List.mem_append_right _ (List.mem_append_left _ (List.mem_of_getElem? (i := 157) rfl))), rfl⟩
theorem kw_392 : (Jvm.Cond.code ({ cls := "LinkText$Lines", name := "has", desc := "(I)Z" } : Jvm.MethodName) prog_3_method_5_code (2 : Nat) (Option.some Jvm.ClassFile.FieldType.boolean)) ∈ k_tbl := List.mem_filter.mpr ⟨List.mem_append_right _ (List.mem_append_right _ (List.mem_append_left _ (List.mem_of_getElem? (i := 152) rfl))), rfl⟩
theorem kw_3 : (Jvm.Cond.initialized "LinkText$Lines") ∈ k_tbl := List.mem_filter.mpr ⟨List.mem_append_right _ (List.mem_append_left _ (List.mem_of_getElem? (i := 3) rfl)), rfl⟩
theorem kw_390 : (Jvm.Cond.instanceMethod ({ cls := "LinkText$Lines", name := "has", desc := "(I)Z" } : Jvm.MethodName)) ∈ k_tbl := List.mem_filter.mpr ⟨List.mem_append_right _ (List.mem_append_right _ (List.mem_append_left _ (List.mem_of_getElem? (i := 150) rfl))), rfl⟩
theorem kw_391 : (Jvm.Cond.selects "LinkText$Lines" ({ cls := "LinkText$Lines", name := "has", desc := "(I)Z" } : Jvm.MethodName) ({ cls := "LinkText$Lines", name := "has", desc := "(I)Z" } : Jvm.MethodName)) ∈ k_tbl := List.mem_filter.mpr ⟨List.mem_append_right _ (List.mem_append_right _ (List.mem_append_left _ (List.mem_of_getElem? (i := 151) rfl))), rfl⟩
theorem kw_51 : (Jvm.Cond.fieldLink "LinkText$Lines" (21 : Nat) "LinkText$Lines" "sizes" "[I") ∈ k_tbl := List.mem_filter.mpr ⟨List.mem_append_right _ (List.mem_append_left _ (List.mem_of_getElem? (i := 51) rfl)), rfl⟩
theorem kw_48 : (Jvm.Cond.fieldLink "LinkText$Lines" (9 : Nat) "LinkText$Lines" "kinds" "[I") ∈ k_tbl := List.mem_filter.mpr ⟨List.mem_append_right _ (List.mem_append_left _ (List.mem_of_getElem? (i := 48) rfl)), rfl⟩
theorem kw_49 : (Jvm.Cond.fieldLink "LinkText$Lines" (15 : Nat) "LinkText$Lines" "places" "[I") ∈ k_tbl := List.mem_filter.mpr ⟨List.mem_append_right _ (List.mem_append_left _ (List.mem_of_getElem? (i := 49) rfl)), rfl⟩
theorem kw_414 : (Jvm.Cond.methodLink "LinkText$Lines" (39 : Nat) ({ cls := "LinkText$Lines", name := "sizeOf", desc := "(I)I" } : Jvm.MethodName)) ∈ k_tbl := List.mem_filter.mpr ⟨List.mem_append_right _ (List.mem_append_right _ (List.mem_append_left _ (List.mem_of_getElem? (i := 174) rfl))), rfl⟩
theorem kw_401 : (Jvm.Cond.code ({ cls := "LinkText$Lines", name := "sizeOf", desc := "(I)I" } : Jvm.MethodName) prog_3_method_7_code (2 : Nat) (Option.some Jvm.ClassFile.FieldType.int)) ∈ k_tbl := List.mem_filter.mpr ⟨List.mem_append_right _ (List.mem_append_right _ (List.mem_append_left _ (List.mem_of_getElem? (i := 161) rfl))), rfl⟩
theorem kw_399 : (Jvm.Cond.instanceMethod ({ cls := "LinkText$Lines", name := "sizeOf", desc := "(I)I" } : Jvm.MethodName)) ∈ k_tbl := List.mem_filter.mpr ⟨List.mem_append_right _ (List.mem_append_right _ (List.mem_append_left _ (List.mem_of_getElem? (i := 159) rfl))), rfl⟩
theorem kw_400 : (Jvm.Cond.selects "LinkText$Lines" ({ cls := "LinkText$Lines", name := "sizeOf", desc := "(I)I" } : Jvm.MethodName) ({ cls := "LinkText$Lines", name := "sizeOf", desc := "(I)I" } : Jvm.MethodName)) ∈ k_tbl := List.mem_filter.mpr ⟨List.mem_append_right _ (List.mem_append_right _ (List.mem_append_left _ (List.mem_of_getElem? (i := 160) rfl))), rfl⟩
theorem kw_50 : (Jvm.Cond.fieldLink "LinkText$Lines" (18 : Nat) "LinkText$Lines" "firsts" "[I") ∈ k_tbl := List.mem_filter.mpr ⟨List.mem_append_right _ (List.mem_append_left _ (List.mem_of_getElem? (i := 50) rfl)), rfl⟩
theorem kw_52 : (Jvm.Cond.fieldLink "LinkText$Lines" (24 : Nat) "LinkText$Lines" "numbers" "[J") ∈ k_tbl := List.mem_filter.mpr ⟨List.mem_append_right _ (List.mem_append_left _ (List.mem_of_getElem? (i := 52) rfl)), rfl⟩
theorem kw_86 : (Jvm.Cond.fieldLink "LinkText$Tokens" (37 : Nat) "LinkText$Tokens" "text" "[B") ∈ k_tbl := List.mem_filter.mpr ⟨List.mem_append_right _ (List.mem_append_left _ (List.mem_of_getElem? (i := 86) rfl)), rfl⟩
theorem kw_87 : (Jvm.Cond.fieldLink "LinkText$Tokens" (9 : Nat) "LinkText$Tokens" "end" "I") ∈ k_tbl := List.mem_filter.mpr ⟨List.mem_append_right _ (List.mem_append_left _ (List.mem_of_getElem? (i := 87) rfl)), rfl⟩
theorem kw_88 : (Jvm.Cond.fieldLink "LinkText$Tokens" (15 : Nat) "LinkText$Tokens" "sort" "I") ∈ k_tbl := List.mem_filter.mpr ⟨List.mem_append_right _ (List.mem_append_left _ (List.mem_of_getElem? (i := 88) rfl)), rfl⟩
theorem kw_89 : (Jvm.Cond.fieldLink "LinkText$Tokens" (18 : Nat) "LinkText$Tokens" "place" "I") ∈ k_tbl := List.mem_filter.mpr ⟨List.mem_append_right _ (List.mem_append_left _ (List.mem_of_getElem? (i := 89) rfl)), rfl⟩
theorem kw_91 : (Jvm.Cond.fieldLink "LinkText$Tokens" (21 : Nat) "LinkText$Tokens" "behind" "I") ∈ k_tbl := List.mem_filter.mpr ⟨List.mem_append_right _ (List.mem_append_left _ (List.mem_of_getElem? (i := 91) rfl)), rfl⟩
theorem kw_92 : (Jvm.Cond.fieldLink "LinkText$Tokens" (24 : Nat) "LinkText$Tokens" "value" "J") ∈ k_tbl := List.mem_filter.mpr ⟨List.mem_append_right _ (List.mem_append_left _ (List.mem_of_getElem? (i := 92) rfl)), rfl⟩
theorem kw_94 : (Jvm.Cond.fieldLink "LinkText$Tokens" (28 : Nat) "LinkText$Tokens" "fault" "I") ∈ k_tbl := List.mem_filter.mpr ⟨List.mem_append_right _ (List.mem_append_left _ (List.mem_of_getElem? (i := 94) rfl)), rfl⟩
theorem kw_111 : (Jvm.Cond.fieldLink "LinkText$Reader" (23 : Nat) "LinkText$Reader" "tokens" "LLinkText$Tokens;") ∈ k_tbl := List.mem_filter.mpr ⟨List.mem_append_right _ (List.mem_append_left _ (List.mem_of_getElem? (i := 111) rfl)), rfl⟩
theorem kw_178 : (Jvm.Cond.methodLink "LinkText$Reader" (31 : Nat) ({ cls := "LinkText$Tokens", name := "begin", desc := "(I)V" } : Jvm.MethodName)) ∈ k_tbl := List.mem_filter.mpr ⟨List.mem_append_right _ (List.mem_append_left _ (List.mem_of_getElem? (i := 178) rfl)), rfl⟩
theorem kw_181 : (Jvm.Cond.code ({ cls := "LinkText$Tokens", name := "begin", desc := "(I)V" } : Jvm.MethodName) prog_6_method_2_code (2 : Nat) (Option.none : Option Jvm.ClassFile.FieldType)) ∈ k_tbl := List.mem_filter.mpr ⟨List.mem_append_right _ (List.mem_append_left _ (List.mem_of_getElem? (i := 181) rfl)), rfl⟩
theorem kw_5 : (Jvm.Cond.initialized "LinkText$Tokens") ∈ k_tbl := List.mem_filter.mpr ⟨List.mem_append_right _ (List.mem_append_left _ (List.mem_of_getElem? (i := 5) rfl)), rfl⟩
theorem kw_179 : (Jvm.Cond.instanceMethod ({ cls := "LinkText$Tokens", name := "begin", desc := "(I)V" } : Jvm.MethodName)) ∈ k_tbl := List.mem_filter.mpr ⟨List.mem_append_right _ (List.mem_append_left _ (List.mem_of_getElem? (i := 179) rfl)), rfl⟩
theorem kw_180 : (Jvm.Cond.selects "LinkText$Tokens" ({ cls := "LinkText$Tokens", name := "begin", desc := "(I)V" } : Jvm.MethodName) ({ cls := "LinkText$Tokens", name := "begin", desc := "(I)V" } : Jvm.MethodName)) ∈ k_tbl := List.mem_filter.mpr ⟨List.mem_append_right _ (List.mem_append_left _ (List.mem_of_getElem? (i := 180) rfl)), rfl⟩
theorem kw_112 : (Jvm.Cond.fieldLink "LinkText$Reader" (27 : Nat) "LinkText$Reader" "lines" "LLinkText$Lines;") ∈ k_tbl := List.mem_filter.mpr ⟨List.mem_append_right _ (List.mem_append_left _ (List.mem_of_getElem? (i := 112) rfl)), rfl⟩
theorem kw_182 : (Jvm.Cond.methodLink "LinkText$Reader" (35 : Nat) ({ cls := "LinkText$Lines", name := "clear", desc := "()V" } : Jvm.MethodName)) ∈ k_tbl := List.mem_filter.mpr ⟨List.mem_append_right _ (List.mem_append_left _ (List.mem_of_getElem? (i := 182) rfl)), rfl⟩
theorem kw_185 : (Jvm.Cond.code ({ cls := "LinkText$Lines", name := "clear", desc := "()V" } : Jvm.MethodName) prog_3_method_2_code (1 : Nat) (Option.none : Option Jvm.ClassFile.FieldType)) ∈ k_tbl := List.mem_filter.mpr ⟨List.mem_append_right _ (List.mem_append_left _ (List.mem_of_getElem? (i := 185) rfl)), rfl⟩
theorem kw_183 : (Jvm.Cond.instanceMethod ({ cls := "LinkText$Lines", name := "clear", desc := "()V" } : Jvm.MethodName)) ∈ k_tbl := List.mem_filter.mpr ⟨List.mem_append_right _ (List.mem_append_left _ (List.mem_of_getElem? (i := 183) rfl)), rfl⟩
theorem kw_184 : (Jvm.Cond.selects "LinkText$Lines" ({ cls := "LinkText$Lines", name := "clear", desc := "()V" } : Jvm.MethodName) ({ cls := "LinkText$Lines", name := "clear", desc := "()V" } : Jvm.MethodName)) ∈ k_tbl := List.mem_filter.mpr ⟨List.mem_append_right _ (List.mem_append_left _ (List.mem_of_getElem? (i := 184) rfl)), rfl⟩
theorem kw_113 : (Jvm.Cond.fieldLink "LinkText$Reader" (9 : Nat) "LinkText$Reader" "fault" "I") ∈ k_tbl := List.mem_filter.mpr ⟨List.mem_append_right _ (List.mem_append_left _ (List.mem_of_getElem? (i := 113) rfl)), rfl⟩
theorem kw_115 : (Jvm.Cond.fieldLink "LinkText$Reader" (15 : Nat) "LinkText$Reader" "faultPlace" "I") ∈ k_tbl := List.mem_filter.mpr ⟨List.mem_append_right _ (List.mem_append_left _ (List.mem_of_getElem? (i := 115) rfl)), rfl⟩
theorem kw_190 : (Jvm.Cond.methodLink "LinkText$Reader" (40 : Nat) ({ cls := "LinkText$Tokens", name := "isLineEnd", desc := "()Z" } : Jvm.MethodName)) ∈ k_tbl := List.mem_filter.mpr ⟨List.mem_append_right _ (List.mem_append_left _ (List.mem_of_getElem? (i := 190) rfl)), rfl⟩
theorem kw_193 : (Jvm.Cond.code ({ cls := "LinkText$Tokens", name := "isLineEnd", desc := "()Z" } : Jvm.MethodName) prog_6_method_6_code (1 : Nat) (Option.some Jvm.ClassFile.FieldType.boolean)) ∈ k_tbl := List.mem_filter.mpr ⟨List.mem_append_right _ (List.mem_append_left _ (List.mem_of_getElem? (i := 193) rfl)), rfl⟩
theorem kw_191 : (Jvm.Cond.instanceMethod ({ cls := "LinkText$Tokens", name := "isLineEnd", desc := "()Z" } : Jvm.MethodName)) ∈ k_tbl := List.mem_filter.mpr ⟨List.mem_append_right _ (List.mem_append_left _ (List.mem_of_getElem? (i := 191) rfl)), rfl⟩
theorem kw_192 : (Jvm.Cond.selects "LinkText$Tokens" ({ cls := "LinkText$Tokens", name := "isLineEnd", desc := "()Z" } : Jvm.MethodName) ({ cls := "LinkText$Tokens", name := "isLineEnd", desc := "()Z" } : Jvm.MethodName)) ∈ k_tbl := List.mem_filter.mpr ⟨List.mem_append_right _ (List.mem_append_left _ (List.mem_of_getElem? (i := 192) rfl)), rfl⟩
theorem kw_194 : (Jvm.Cond.methodLink "LinkText$Reader" (44 : Nat) ({ cls := "LinkText$Tokens", name := "isTextEnd", desc := "()Z" } : Jvm.MethodName)) ∈ k_tbl := List.mem_filter.mpr ⟨List.mem_append_right _ (List.mem_append_left _ (List.mem_of_getElem? (i := 194) rfl)), rfl⟩
theorem kw_197 : (Jvm.Cond.code ({ cls := "LinkText$Tokens", name := "isTextEnd", desc := "()Z" } : Jvm.MethodName) prog_6_method_7_code (1 : Nat) (Option.some Jvm.ClassFile.FieldType.boolean)) ∈ k_tbl := List.mem_filter.mpr ⟨List.mem_append_right _ (List.mem_append_left _ (List.mem_of_getElem? (i := 197) rfl)), rfl⟩
theorem kw_195 : (Jvm.Cond.instanceMethod ({ cls := "LinkText$Tokens", name := "isTextEnd", desc := "()Z" } : Jvm.MethodName)) ∈ k_tbl := List.mem_filter.mpr ⟨List.mem_append_right _ (List.mem_append_left _ (List.mem_of_getElem? (i := 195) rfl)), rfl⟩
theorem kw_196 : (Jvm.Cond.selects "LinkText$Tokens" ({ cls := "LinkText$Tokens", name := "isTextEnd", desc := "()Z" } : Jvm.MethodName) ({ cls := "LinkText$Tokens", name := "isTextEnd", desc := "()Z" } : Jvm.MethodName)) ∈ k_tbl := List.mem_filter.mpr ⟨List.mem_append_right _ (List.mem_append_left _ (List.mem_of_getElem? (i := 196) rfl)), rfl⟩
theorem kw_356 : (Jvm.Cond.constantLong "LinkText" (156 : Nat) (-1000000000000000000 : Int64)) ∈ k_tbl := List.mem_filter.mpr ⟨List.mem_append_right _ (List.mem_append_right _ (List.mem_append_left _ (List.mem_of_getElem? (i := 116) rfl))), rfl⟩
theorem kw_139 : (Jvm.Cond.fieldLink "LinkText" (10 : Nat) "LinkText" "tape" "LLinkText$ByteRow;") ∈ k_tbl := List.mem_filter.mpr ⟨List.mem_append_right _ (List.mem_append_left _ (List.mem_of_getElem? (i := 139) rfl)), rfl⟩
theorem kw_166 : (Jvm.Cond.methodLink "LinkText" (54 : Nat) ({ cls := "LinkText$ByteRow", name := "add", desc := "(I)V" } : Jvm.MethodName)) ∈ k_tbl := List.mem_filter.mpr ⟨List.mem_append_right _ (List.mem_append_left _ (List.mem_of_getElem? (i := 166) rfl)), rfl⟩
theorem kw_169 : (Jvm.Cond.code ({ cls := "LinkText$ByteRow", name := "add", desc := "(I)V" } : Jvm.MethodName) prog_2_method_2_code (2 : Nat) (Option.none : Option Jvm.ClassFile.FieldType)) ∈ k_tbl := List.mem_filter.mpr ⟨List.mem_append_right _ (List.mem_append_left _ (List.mem_of_getElem? (i := 169) rfl)), rfl⟩
theorem kw_167 : (Jvm.Cond.instanceMethod ({ cls := "LinkText$ByteRow", name := "add", desc := "(I)V" } : Jvm.MethodName)) ∈ k_tbl := List.mem_filter.mpr ⟨List.mem_append_right _ (List.mem_append_left _ (List.mem_of_getElem? (i := 167) rfl)), rfl⟩
theorem kw_168 : (Jvm.Cond.selects "LinkText$ByteRow" ({ cls := "LinkText$ByteRow", name := "add", desc := "(I)V" } : Jvm.MethodName) ({ cls := "LinkText$ByteRow", name := "add", desc := "(I)V" } : Jvm.MethodName)) ∈ k_tbl := List.mem_filter.mpr ⟨List.mem_append_right _ (List.mem_append_left _ (List.mem_of_getElem? (i := 168) rfl)), rfl⟩
theorem kw_31 : (Jvm.Cond.fieldLinkNest "LinkText" (46 : Nat) "LinkText$ByteRow" "count" "I" "LinkText") ∈ lw_tbl := List.mem_append_right _ (List.mem_append_left _ (List.mem_of_getElem? (i := 31) rfl))
theorem kw_162 : (Jvm.Cond.methodLink "LinkText" (50 : Nat) ({ cls := "LinkText", name := "feedFour", desc := "(I)V" } : Jvm.MethodName)) ∈ k_tbl := List.mem_filter.mpr ⟨List.mem_append_right _ (List.mem_append_left _ (List.mem_of_getElem? (i := 162) rfl)), rfl⟩
theorem kw_165 : (Jvm.Cond.code ({ cls := "LinkText", name := "feedFour", desc := "(I)V" } : Jvm.MethodName) prog_1_method_3_code (3 : Nat) (Option.none : Option Jvm.ClassFile.FieldType)) ∈ k_tbl := List.mem_filter.mpr ⟨List.mem_append_right _ (List.mem_append_left _ (List.mem_of_getElem? (i := 165) rfl)), rfl⟩
theorem kw_1 : (Jvm.Cond.initialized "LinkText") ∈ k_tbl := List.mem_filter.mpr ⟨List.mem_append_right _ (List.mem_append_left _ (List.mem_of_getElem? (i := 1) rfl)), rfl⟩
theorem kw_164 : (Jvm.Cond.instanceMethod ({ cls := "LinkText", name := "feedFour", desc := "(I)V" } : Jvm.MethodName)) ∈ k_tbl := List.mem_filter.mpr ⟨List.mem_append_right _ (List.mem_append_left _ (List.mem_of_getElem? (i := 164) rfl)), rfl⟩
theorem kp_0 : Cond.selects "LinkText" (⟨"LinkText", "feedFour", "(I)V"⟩ : MethodName) (⟨"LinkText", "feedFour", "(I)V"⟩ : MethodName) ∈ k_tbl := List.mem_filter.mpr ⟨List.mem_append_left _ (List.mem_of_getElem? (i := 0) rfl), rfl⟩
theorem kw_144 : (Jvm.Cond.fieldLink "LinkText" (42 : Nat) "LinkText" "everRead" "Z") ∈ k_tbl := List.mem_filter.mpr ⟨List.mem_append_right _ (List.mem_append_left _ (List.mem_of_getElem? (i := 144) rfl)), rfl⟩
theorem kw_142 : (Jvm.Cond.fieldLink "LinkText" (31 : Nat) "LinkText" "reader" "LLinkText$Reader;") ∈ k_tbl := List.mem_filter.mpr ⟨List.mem_append_right _ (List.mem_append_left _ (List.mem_of_getElem? (i := 142) rfl)), rfl⟩
theorem kw_174 : (Jvm.Cond.methodLink "LinkText" (57 : Nat) ({ cls := "LinkText$Reader", name := "begin", desc := "(I)V" } : Jvm.MethodName)) ∈ k_tbl := List.mem_filter.mpr ⟨List.mem_append_right _ (List.mem_append_left _ (List.mem_of_getElem? (i := 174) rfl)), rfl⟩
theorem kw_177 : (Jvm.Cond.code ({ cls := "LinkText$Reader", name := "begin", desc := "(I)V" } : Jvm.MethodName) prog_5_method_2_code (2 : Nat) (Option.none : Option Jvm.ClassFile.FieldType)) ∈ k_tbl := List.mem_filter.mpr ⟨List.mem_append_right _ (List.mem_append_left _ (List.mem_of_getElem? (i := 177) rfl)), rfl⟩
theorem kw_4 : (Jvm.Cond.initialized "LinkText$Reader") ∈ k_tbl := List.mem_filter.mpr ⟨List.mem_append_right _ (List.mem_append_left _ (List.mem_of_getElem? (i := 4) rfl)), rfl⟩
theorem kw_175 : (Jvm.Cond.instanceMethod ({ cls := "LinkText$Reader", name := "begin", desc := "(I)V" } : Jvm.MethodName)) ∈ k_tbl := List.mem_filter.mpr ⟨List.mem_append_right _ (List.mem_append_left _ (List.mem_of_getElem? (i := 175) rfl)), rfl⟩
theorem kw_176 : (Jvm.Cond.selects "LinkText$Reader" ({ cls := "LinkText$Reader", name := "begin", desc := "(I)V" } : Jvm.MethodName) ({ cls := "LinkText$Reader", name := "begin", desc := "(I)V" } : Jvm.MethodName)) ∈ k_tbl := List.mem_filter.mpr ⟨List.mem_append_right _ (List.mem_append_left _ (List.mem_of_getElem? (i := 176) rfl)), rfl⟩
theorem kw_186 : (Jvm.Cond.methodLink "LinkText" (60 : Nat) ({ cls := "LinkText$Reader", name := "findLine", desc := "()Z" } : Jvm.MethodName)) ∈ k_tbl := List.mem_filter.mpr ⟨List.mem_append_right _ (List.mem_append_left _ (List.mem_of_getElem? (i := 186) rfl)), rfl⟩
theorem kw_189 : (Jvm.Cond.code ({ cls := "LinkText$Reader", name := "findLine", desc := "()Z" } : Jvm.MethodName) prog_5_method_3_code (2 : Nat) (Option.some Jvm.ClassFile.FieldType.boolean)) ∈ k_tbl := List.mem_filter.mpr ⟨List.mem_append_right _ (List.mem_append_left _ (List.mem_of_getElem? (i := 189) rfl)), rfl⟩
theorem kw_187 : (Jvm.Cond.instanceMethod ({ cls := "LinkText$Reader", name := "findLine", desc := "()Z" } : Jvm.MethodName)) ∈ k_tbl := List.mem_filter.mpr ⟨List.mem_append_right _ (List.mem_append_left _ (List.mem_of_getElem? (i := 187) rfl)), rfl⟩
theorem kw_188 : (Jvm.Cond.selects "LinkText$Reader" ({ cls := "LinkText$Reader", name := "findLine", desc := "()Z" } : Jvm.MethodName) ({ cls := "LinkText$Reader", name := "findLine", desc := "()Z" } : Jvm.MethodName)) ∈ k_tbl := List.mem_filter.mpr ⟨List.mem_append_right _ (List.mem_append_left _ (List.mem_of_getElem? (i := 188) rfl)), rfl⟩
theorem kw_376 : (Jvm.Cond.methodLink "LinkText" (67 : Nat) ({ cls := "LinkText$ByteRow", name := "cutTo", desc := "(I)V" } : Jvm.MethodName)) ∈ k_tbl := List.mem_filter.mpr ⟨List.mem_append_right _ (List.mem_append_right _ (List.mem_append_left _ (List.mem_of_getElem? (i := 136) rfl))), rfl⟩
theorem kw_114 : (Jvm.Cond.fieldLinkNest "LinkText" (70 : Nat) "LinkText$Reader" "fault" "I" "LinkText") ∈ lw_tbl := List.mem_append_right _ (List.mem_append_left _ (List.mem_of_getElem? (i := 114) rfl))
theorem kw_141 : (Jvm.Cond.fieldLink "LinkText" (22 : Nat) "LinkText" "lines" "LLinkText$Lines;") ∈ k_tbl := List.mem_filter.mpr ⟨List.mem_append_right _ (List.mem_append_left _ (List.mem_of_getElem? (i := 141) rfl)), rfl⟩
theorem kw_54 : (Jvm.Cond.fieldLinkNest "LinkText" (76 : Nat) "LinkText$Lines" "count" "I" "LinkText") ∈ lw_tbl := List.mem_append_right _ (List.mem_append_left _ (List.mem_of_getElem? (i := 54) rfl))
theorem kw_380 : (Jvm.Cond.methodLink "LinkText" (73 : Nat) ({ cls := "LinkText$Lines", name := "clear", desc := "()V" } : Jvm.MethodName)) ∈ k_tbl := List.mem_filter.mpr ⟨List.mem_append_right _ (List.mem_append_right _ (List.mem_append_left _ (List.mem_of_getElem? (i := 140) rfl))), rfl⟩
theorem kw_116 : (Jvm.Cond.fieldLinkNest "LinkText" (77 : Nat) "LinkText$Reader" "faultPlace" "I" "LinkText") ∈ lw_tbl := List.mem_append_right _ (List.mem_append_left _ (List.mem_of_getElem? (i := 116) rfl))
theorem kw_389 : (Jvm.Cond.methodLink "LinkText" (80 : Nat) ({ cls := "LinkText$Lines", name := "has", desc := "(I)Z" } : Jvm.MethodName)) ∈ k_tbl := List.mem_filter.mpr ⟨List.mem_append_right _ (List.mem_append_right _ (List.mem_append_left _ (List.mem_of_getElem? (i := 149) rfl))), rfl⟩
theorem kw_393 : (Jvm.Cond.methodLink "LinkText" (84 : Nat) ({ cls := "LinkText$Lines", name := "kindOf", desc := "(I)I" } : Jvm.MethodName)) ∈ k_tbl := List.mem_filter.mpr ⟨List.mem_append_right _ (List.mem_append_right _ (List.mem_append_left _ (List.mem_of_getElem? (i := 153) rfl))), rfl⟩
theorem kw_396 : (Jvm.Cond.code ({ cls := "LinkText$Lines", name := "kindOf", desc := "(I)I" } : Jvm.MethodName) prog_3_method_6_code (2 : Nat) (Option.some Jvm.ClassFile.FieldType.int)) ∈ k_tbl := List.mem_filter.mpr ⟨List.mem_append_right _ (List.mem_append_right _ (List.mem_append_left _ (List.mem_of_getElem? (i := 156) rfl))), rfl⟩
theorem kw_394 : (Jvm.Cond.instanceMethod ({ cls := "LinkText$Lines", name := "kindOf", desc := "(I)I" } : Jvm.MethodName)) ∈ k_tbl := List.mem_filter.mpr ⟨List.mem_append_right _ (List.mem_append_right _ (List.mem_append_left _ (List.mem_of_getElem? (i := 154) rfl))), rfl⟩
theorem kw_395 : (Jvm.Cond.selects "LinkText$Lines" ({ cls := "LinkText$Lines", name := "kindOf", desc := "(I)I" } : Jvm.MethodName) ({ cls := "LinkText$Lines", name := "kindOf", desc := "(I)I" } : Jvm.MethodName)) ∈ k_tbl := List.mem_filter.mpr ⟨List.mem_append_right _ (List.mem_append_right _ (List.mem_append_left _ (List.mem_of_getElem? (i := 155) rfl))), rfl⟩
theorem kw_398 : (Jvm.Cond.methodLink "LinkText" (88 : Nat) ({ cls := "LinkText$Lines", name := "sizeOf", desc := "(I)I" } : Jvm.MethodName)) ∈ k_tbl := List.mem_filter.mpr ⟨List.mem_append_right _ (List.mem_append_right _ (List.mem_append_left _ (List.mem_of_getElem? (i := 158) rfl))), rfl⟩
theorem kw_402 : (Jvm.Cond.methodLink "LinkText" (91 : Nat) ({ cls := "LinkText$Lines", name := "placeOf", desc := "(I)I" } : Jvm.MethodName)) ∈ k_tbl := List.mem_filter.mpr ⟨List.mem_append_right _ (List.mem_append_right _ (List.mem_append_left _ (List.mem_of_getElem? (i := 162) rfl))), rfl⟩
theorem kw_405 : (Jvm.Cond.code ({ cls := "LinkText$Lines", name := "placeOf", desc := "(I)I" } : Jvm.MethodName) prog_3_method_8_code (2 : Nat) (Option.some Jvm.ClassFile.FieldType.int)) ∈ k_tbl := List.mem_filter.mpr ⟨List.mem_append_right _ (List.mem_append_right _ (List.mem_append_left _ (List.mem_of_getElem? (i := 165) rfl))), rfl⟩
theorem kw_403 : (Jvm.Cond.instanceMethod ({ cls := "LinkText$Lines", name := "placeOf", desc := "(I)I" } : Jvm.MethodName)) ∈ k_tbl := List.mem_filter.mpr ⟨List.mem_append_right _ (List.mem_append_right _ (List.mem_append_left _ (List.mem_of_getElem? (i := 163) rfl))), rfl⟩
theorem kw_404 : (Jvm.Cond.selects "LinkText$Lines" ({ cls := "LinkText$Lines", name := "placeOf", desc := "(I)I" } : Jvm.MethodName) ({ cls := "LinkText$Lines", name := "placeOf", desc := "(I)I" } : Jvm.MethodName)) ∈ k_tbl := List.mem_filter.mpr ⟨List.mem_append_right _ (List.mem_append_right _ (List.mem_append_left _ (List.mem_of_getElem? (i := 164) rfl))), rfl⟩
theorem kw_410 : (Jvm.Cond.methodLink "LinkText" (94 : Nat) ({ cls := "LinkText$Lines", name := "storedAt", desc := "(II)J" } : Jvm.MethodName)) ∈ k_tbl := List.mem_filter.mpr ⟨List.mem_append_right _ (List.mem_append_right _ (List.mem_append_left _ (List.mem_of_getElem? (i := 170) rfl))), rfl⟩
theorem kw_413 : (Jvm.Cond.code ({ cls := "LinkText$Lines", name := "storedAt", desc := "(II)J" } : Jvm.MethodName) prog_3_method_9_code (4 : Nat) (Option.some Jvm.ClassFile.FieldType.long)) ∈ k_tbl := List.mem_filter.mpr ⟨List.mem_append_right _ (List.mem_append_right _ (List.mem_append_left _ (List.mem_of_getElem? (i := 173) rfl))), rfl⟩
theorem kw_411 : (Jvm.Cond.instanceMethod ({ cls := "LinkText$Lines", name := "storedAt", desc := "(II)J" } : Jvm.MethodName)) ∈ k_tbl := List.mem_filter.mpr ⟨List.mem_append_right _ (List.mem_append_right _ (List.mem_append_left _ (List.mem_of_getElem? (i := 171) rfl))), rfl⟩
theorem kw_412 : (Jvm.Cond.selects "LinkText$Lines" ({ cls := "LinkText$Lines", name := "storedAt", desc := "(II)J" } : Jvm.MethodName) ({ cls := "LinkText$Lines", name := "storedAt", desc := "(II)J" } : Jvm.MethodName)) ∈ k_tbl := List.mem_filter.mpr ⟨List.mem_append_right _ (List.mem_append_right _ (List.mem_append_left _ (List.mem_of_getElem? (i := 172) rfl))), rfl⟩
theorem kw_415 : (Jvm.Cond.methodLink "LinkText" (98 : Nat) ({ cls := "LinkText", name := "valueOf", desc := "(J)J" } : Jvm.MethodName)) ∈ k_tbl := List.mem_filter.mpr ⟨List.mem_append_right _ (List.mem_append_right _ (List.mem_append_left _ (List.mem_of_getElem? (i := 175) rfl))), rfl⟩
theorem kw_417 : (Jvm.Cond.code ({ cls := "LinkText", name := "valueOf", desc := "(J)J" } : Jvm.MethodName) prog_1_method_14_code (2 : Nat) (Option.some Jvm.ClassFile.FieldType.long)) ∈ k_tbl := List.mem_filter.mpr ⟨List.mem_append_right _ (List.mem_append_right _ (List.mem_append_left _ (List.mem_of_getElem? (i := 177) rfl))), rfl⟩
theorem kw_416 : (Jvm.Cond.static ({ cls := "LinkText", name := "valueOf", desc := "(J)J" } : Jvm.MethodName)) ∈ k_tbl := List.mem_filter.mpr ⟨List.mem_append_right _ (List.mem_append_right _ (List.mem_append_left _ (List.mem_of_getElem? (i := 176) rfl))), rfl⟩
theorem kw_140 : (Jvm.Cond.fieldLink "LinkText" (16 : Nat) "LinkText" "paper" "LLinkText$ByteRow;") ∈ k_tbl := List.mem_filter.mpr ⟨List.mem_append_right _ (List.mem_append_left _ (List.mem_of_getElem? (i := 140) rfl)), rfl⟩
theorem kw_143 : (Jvm.Cond.fieldLink "LinkText" (38 : Nat) "LinkText" "printer" "LLinkText$Printer;") ∈ k_tbl := List.mem_filter.mpr ⟨List.mem_append_right _ (List.mem_append_left _ (List.mem_of_getElem? (i := 143) rfl)), rfl⟩
theorem kw_493 : (Jvm.Cond.methodLink "LinkText" (108 : Nat) ({ cls := "LinkText$ByteRow", name := "byteAt", desc := "(I)I" } : Jvm.MethodName)) ∈ k_tbl := List.mem_filter.mpr ⟨List.mem_append_right _ (List.mem_append_right _ (List.mem_append_right _ (List.mem_append_left _ (List.mem_of_getElem? (i := 13) rfl)))), rfl⟩
theorem kw_496 : (Jvm.Cond.code ({ cls := "LinkText$ByteRow", name := "byteAt", desc := "(I)I" } : Jvm.MethodName) prog_2_method_4_code (2 : Nat) (Option.some Jvm.ClassFile.FieldType.int)) ∈ k_tbl := List.mem_filter.mpr ⟨List.mem_append_right _ (List.mem_append_right _ (List.mem_append_right _ (List.mem_append_left _ (List.mem_of_getElem? (i := 16) rfl)))), rfl⟩
theorem kw_494 : (Jvm.Cond.instanceMethod ({ cls := "LinkText$ByteRow", name := "byteAt", desc := "(I)I" } : Jvm.MethodName)) ∈ k_tbl := List.mem_filter.mpr ⟨List.mem_append_right _ (List.mem_append_right _ (List.mem_append_right _ (List.mem_append_left _ (List.mem_of_getElem? (i := 14) rfl)))), rfl⟩
theorem kw_495 : (Jvm.Cond.selects "LinkText$ByteRow" ({ cls := "LinkText$ByteRow", name := "byteAt", desc := "(I)I" } : Jvm.MethodName) ({ cls := "LinkText$ByteRow", name := "byteAt", desc := "(I)I" } : Jvm.MethodName)) ∈ k_tbl := List.mem_filter.mpr ⟨List.mem_append_right _ (List.mem_append_right _ (List.mem_append_right _ (List.mem_append_left _ (List.mem_of_getElem? (i := 15) rfl)))), rfl⟩
theorem kw_501 : (Jvm.Cond.methodLink "LinkText" (111 : Nat) ({ cls := "LinkText$ByteRow", name := "copy", desc := "(LLinkText$ByteRow;)V" } : Jvm.MethodName)) ∈ k_tbl := List.mem_filter.mpr ⟨List.mem_append_right _ (List.mem_append_right _ (List.mem_append_right _ (List.mem_append_left _ (List.mem_of_getElem? (i := 21) rfl)))), rfl⟩
theorem kw_504 : (Jvm.Cond.code ({ cls := "LinkText$ByteRow", name := "copy", desc := "(LLinkText$ByteRow;)V" } : Jvm.MethodName) prog_2_method_5_code (2 : Nat) (Option.none : Option Jvm.ClassFile.FieldType)) ∈ k_tbl := List.mem_filter.mpr ⟨List.mem_append_right _ (List.mem_append_right _ (List.mem_append_right _ (List.mem_append_left _ (List.mem_of_getElem? (i := 24) rfl)))), rfl⟩
theorem kw_502 : (Jvm.Cond.instanceMethod ({ cls := "LinkText$ByteRow", name := "copy", desc := "(LLinkText$ByteRow;)V" } : Jvm.MethodName)) ∈ k_tbl := List.mem_filter.mpr ⟨List.mem_append_right _ (List.mem_append_right _ (List.mem_append_right _ (List.mem_append_left _ (List.mem_of_getElem? (i := 22) rfl)))), rfl⟩
theorem kw_503 : (Jvm.Cond.selects "LinkText$ByteRow" ({ cls := "LinkText$ByteRow", name := "copy", desc := "(LLinkText$ByteRow;)V" } : Jvm.MethodName) ({ cls := "LinkText$ByteRow", name := "copy", desc := "(LLinkText$ByteRow;)V" } : Jvm.MethodName)) ∈ k_tbl := List.mem_filter.mpr ⟨List.mem_append_right _ (List.mem_append_right _ (List.mem_append_right _ (List.mem_append_left _ (List.mem_of_getElem? (i := 23) rfl)))), rfl⟩
theorem kw_515 : (Jvm.Cond.fieldLink "LinkTextModel" (7 : Nat) "LinkTextModel" "tape" "[I") ∈ k_tbl := List.mem_filter.mpr ⟨List.mem_append_right _ (List.mem_append_right _ (List.mem_append_right _ (List.mem_append_left _ (List.mem_of_getElem? (i := 35) rfl)))), rfl⟩
theorem kw_516 : (Jvm.Cond.fieldLink "LinkTextModel" (48 : Nat) "LinkTextModel" "taped" "I") ∈ k_tbl := List.mem_filter.mpr ⟨List.mem_append_right _ (List.mem_append_right _ (List.mem_append_right _ (List.mem_append_left _ (List.mem_of_getElem? (i := 36) rfl)))), rfl⟩
theorem kw_597 : (Jvm.Cond.methodLink "LinkTextModel" (51 : Nat) ({ cls := "LinkTextModel", name := "put", desc := "(I)V" } : Jvm.MethodName)) ∈ k_tbl := List.mem_filter.mpr ⟨List.mem_append_right _ (List.mem_append_right _ (List.mem_append_right _ (List.mem_append_left _ (List.mem_of_getElem? (i := 117) rfl)))), rfl⟩
theorem kw_600 : (Jvm.Cond.code ({ cls := "LinkTextModel", name := "put", desc := "(I)V" } : Jvm.MethodName) prog_8_method_4_code (3 : Nat) (Option.none : Option Jvm.ClassFile.FieldType)) ∈ k_tbl := List.mem_filter.mpr ⟨List.mem_append_right _ (List.mem_append_right _ (List.mem_append_right _ (List.mem_append_left _ (List.mem_of_getElem? (i := 120) rfl)))), rfl⟩
theorem kw_7 : (Jvm.Cond.initialized "LinkTextModel") ∈ k_tbl := List.mem_filter.mpr ⟨List.mem_append_right _ (List.mem_append_left _ (List.mem_of_getElem? (i := 7) rfl)), rfl⟩
theorem kw_599 : (Jvm.Cond.instanceMethod ({ cls := "LinkTextModel", name := "put", desc := "(I)V" } : Jvm.MethodName)) ∈ k_tbl := List.mem_filter.mpr ⟨List.mem_append_right _ (List.mem_append_right _ (List.mem_append_right _ (List.mem_append_left _ (List.mem_of_getElem? (i := 119) rfl)))), rfl⟩
theorem kp_24 : Cond.selects "LinkTextModel" (⟨"LinkTextModel", "put", "(I)V"⟩ : MethodName) (⟨"LinkTextModel", "put", "(I)V"⟩ : MethodName) ∈ k_tbl := List.mem_filter.mpr ⟨List.mem_append_left _ (List.mem_of_getElem? (i := 24) rfl), rfl⟩
theorem kw_519 : (Jvm.Cond.fieldLink "LinkTextModel" (90 : Nat) "LinkTextModel" "lines" "I") ∈ k_tbl := List.mem_filter.mpr ⟨List.mem_append_right _ (List.mem_append_right _ (List.mem_append_right _ (List.mem_append_left _ (List.mem_of_getElem? (i := 39) rfl)))), rfl⟩
theorem kw_517 : (Jvm.Cond.fieldLink "LinkTextModel" (13 : Nat) "LinkTextModel" "fault" "I") ∈ k_tbl := List.mem_filter.mpr ⟨List.mem_append_right _ (List.mem_append_right _ (List.mem_append_right _ (List.mem_append_left _ (List.mem_of_getElem? (i := 37) rfl)))), rfl⟩
theorem kw_518 : (Jvm.Cond.fieldLink "LinkTextModel" (17 : Nat) "LinkTextModel" "place" "I") ∈ k_tbl := List.mem_filter.mpr ⟨List.mem_append_right _ (List.mem_append_right _ (List.mem_append_right _ (List.mem_append_left _ (List.mem_of_getElem? (i := 38) rfl)))), rfl⟩
theorem kw_526 : (Jvm.Cond.fieldLink "LinkTextModel" (93 : Nat) "LinkTextModel" "state" "I") ∈ k_tbl := List.mem_filter.mpr ⟨List.mem_append_right _ (List.mem_append_right _ (List.mem_append_right _ (List.mem_append_left _ (List.mem_of_getElem? (i := 46) rfl)))), rfl⟩
theorem kw_613 : (Jvm.Cond.methodLink "LinkTextModel" (120 : Nat) ({ cls := "LinkTextModel", name := "mayEnd", desc := "()Z" } : Jvm.MethodName)) ∈ k_tbl := List.mem_filter.mpr ⟨List.mem_append_right _ (List.mem_append_right _ (List.mem_append_right _ (List.mem_append_left _ (List.mem_of_getElem? (i := 133) rfl)))), rfl⟩
theorem kw_616 : (Jvm.Cond.code ({ cls := "LinkTextModel", name := "mayEnd", desc := "()Z" } : Jvm.MethodName) prog_8_method_17_code (1 : Nat) (Option.some Jvm.ClassFile.FieldType.boolean)) ∈ k_tbl := List.mem_filter.mpr ⟨List.mem_append_right _ (List.mem_append_right _ (List.mem_append_right _ (List.mem_append_left _ (List.mem_of_getElem? (i := 136) rfl)))), rfl⟩
theorem kw_615 : (Jvm.Cond.instanceMethod ({ cls := "LinkTextModel", name := "mayEnd", desc := "()Z" } : Jvm.MethodName)) ∈ k_tbl := List.mem_filter.mpr ⟨List.mem_append_right _ (List.mem_append_right _ (List.mem_append_right _ (List.mem_append_left _ (List.mem_of_getElem? (i := 135) rfl)))), rfl⟩
theorem kp_27 : Cond.selects "LinkTextModel" (⟨"LinkTextModel", "mayEnd", "()Z"⟩ : MethodName) (⟨"LinkTextModel", "mayEnd", "()Z"⟩ : MethodName) ∈ k_tbl := List.mem_filter.mpr ⟨List.mem_append_left _ (List.mem_of_getElem? (i := 27) rfl), rfl⟩
theorem kw_520 : (Jvm.Cond.fieldLink "LinkTextModel" (20 : Nat) "LinkTextModel" "kind" "[I") ∈ k_tbl := List.mem_filter.mpr ⟨List.mem_append_right _ (List.mem_append_right _ (List.mem_append_right _ (List.mem_append_left _ (List.mem_of_getElem? (i := 40) rfl)))), rfl⟩
theorem kw_605 : (Jvm.Cond.methodLink "LinkTextModel" (100 : Nat) ({ cls := "LinkTextModel", name := "stop", desc := "(II)V" } : Jvm.MethodName)) ∈ k_tbl := List.mem_filter.mpr ⟨List.mem_append_right _ (List.mem_append_right _ (List.mem_append_right _ (List.mem_append_left _ (List.mem_of_getElem? (i := 125) rfl)))), rfl⟩
theorem kw_608 : (Jvm.Cond.code ({ cls := "LinkTextModel", name := "stop", desc := "(II)V" } : Jvm.MethodName) prog_8_method_13_code (3 : Nat) (Option.none : Option Jvm.ClassFile.FieldType)) ∈ k_tbl := List.mem_filter.mpr ⟨List.mem_append_right _ (List.mem_append_right _ (List.mem_append_right _ (List.mem_append_left _ (List.mem_of_getElem? (i := 128) rfl)))), rfl⟩
theorem kw_607 : (Jvm.Cond.instanceMethod ({ cls := "LinkTextModel", name := "stop", desc := "(II)V" } : Jvm.MethodName)) ∈ k_tbl := List.mem_filter.mpr ⟨List.mem_append_right _ (List.mem_append_right _ (List.mem_append_right _ (List.mem_append_left _ (List.mem_of_getElem? (i := 127) rfl)))), rfl⟩
theorem kp_25 : Cond.selects "LinkTextModel" (⟨"LinkTextModel", "stop", "(II)V"⟩ : MethodName) (⟨"LinkTextModel", "stop", "(II)V"⟩ : MethodName) ∈ k_tbl := List.mem_filter.mpr ⟨List.mem_append_left _ (List.mem_of_getElem? (i := 25) rfl), rfl⟩
theorem kw_525 : (Jvm.Cond.fieldLink "LinkTextModel" (87 : Nat) "LinkTextModel" "used" "I") ∈ k_tbl := List.mem_filter.mpr ⟨List.mem_append_right _ (List.mem_append_right _ (List.mem_append_right _ (List.mem_append_left _ (List.mem_of_getElem? (i := 45) rfl)))), rfl⟩
theorem kw_527 : (Jvm.Cond.fieldLink "LinkTextModel" (170 : Nat) "LinkTextModel" "at" "I") ∈ k_tbl := List.mem_filter.mpr ⟨List.mem_append_right _ (List.mem_append_right _ (List.mem_append_right _ (List.mem_append_left _ (List.mem_of_getElem? (i := 47) rfl)))), rfl⟩
theorem kw_532 : (Jvm.Cond.fieldLink "LinkTextModel" (55 : Nat) "LinkTextModel" "from" "I") ∈ k_tbl := List.mem_filter.mpr ⟨List.mem_append_right _ (List.mem_append_right _ (List.mem_append_right _ (List.mem_append_left _ (List.mem_of_getElem? (i := 52) rfl)))), rfl⟩
theorem kw_609 : (Jvm.Cond.methodLink "LinkTextModel" (173 : Nat) ({ cls := "LinkTextModel", name := "finish", desc := "(I)V" } : Jvm.MethodName)) ∈ k_tbl := List.mem_filter.mpr ⟨List.mem_append_right _ (List.mem_append_right _ (List.mem_append_right _ (List.mem_append_left _ (List.mem_of_getElem? (i := 129) rfl)))), rfl⟩
theorem kw_612 : (Jvm.Cond.code ({ cls := "LinkTextModel", name := "finish", desc := "(I)V" } : Jvm.MethodName) prog_8_method_18_code (2 : Nat) (Option.none : Option Jvm.ClassFile.FieldType)) ∈ k_tbl := List.mem_filter.mpr ⟨List.mem_append_right _ (List.mem_append_right _ (List.mem_append_right _ (List.mem_append_left _ (List.mem_of_getElem? (i := 132) rfl)))), rfl⟩
theorem kw_611 : (Jvm.Cond.instanceMethod ({ cls := "LinkTextModel", name := "finish", desc := "(I)V" } : Jvm.MethodName)) ∈ k_tbl := List.mem_filter.mpr ⟨List.mem_append_right _ (List.mem_append_right _ (List.mem_append_right _ (List.mem_append_left _ (List.mem_of_getElem? (i := 131) rfl)))), rfl⟩
theorem kp_26 : Cond.selects "LinkTextModel" (⟨"LinkTextModel", "finish", "(I)V"⟩ : MethodName) (⟨"LinkTextModel", "finish", "(I)V"⟩ : MethodName) ∈ k_tbl := List.mem_filter.mpr ⟨List.mem_append_left _ (List.mem_of_getElem? (i := 26) rfl), rfl⟩
theorem kw_722 : (Jvm.Cond.methodLink "LinkTextModel" (195 : Nat) ({ cls := "LinkTextModel", name := "isLine", desc := "(I)Z" } : Jvm.MethodName)) ∈ k_tbl := List.mem_filter.mpr ⟨List.mem_append_right _ (List.mem_append_right _ (List.mem_append_right _ (List.mem_append_right _ (List.mem_of_getElem? (i := 2) rfl)))), rfl⟩
theorem kw_725 : (Jvm.Cond.code ({ cls := "LinkTextModel", name := "isLine", desc := "(I)Z" } : Jvm.MethodName) prog_8_method_32_code (2 : Nat) (Option.some Jvm.ClassFile.FieldType.boolean)) ∈ k_tbl := List.mem_filter.mpr ⟨List.mem_append_right _ (List.mem_append_right _ (List.mem_append_right _ (List.mem_append_right _ (List.mem_of_getElem? (i := 5) rfl)))), rfl⟩
theorem kw_724 : (Jvm.Cond.instanceMethod ({ cls := "LinkTextModel", name := "isLine", desc := "(I)Z" } : Jvm.MethodName)) ∈ k_tbl := List.mem_filter.mpr ⟨List.mem_append_right _ (List.mem_append_right _ (List.mem_append_right _ (List.mem_append_right _ (List.mem_of_getElem? (i := 4) rfl)))), rfl⟩
theorem kp_46 : Cond.selects "LinkTextModel" (⟨"LinkTextModel", "isLine", "(I)Z"⟩ : MethodName) (⟨"LinkTextModel", "isLine", "(I)Z"⟩ : MethodName) ∈ k_tbl := List.mem_filter.mpr ⟨List.mem_append_left _ (List.mem_of_getElem? (i := 46) rfl), rfl⟩
theorem kw_523 : (Jvm.Cond.fieldLink "LinkTextModel" (29 : Nat) "LinkTextModel" "begins" "[I") ∈ k_tbl := List.mem_filter.mpr ⟨List.mem_append_right _ (List.mem_append_right _ (List.mem_append_right _ (List.mem_append_left _ (List.mem_of_getElem? (i := 43) rfl)))), rfl⟩
theorem kw_522 : (Jvm.Cond.fieldLink "LinkTextModel" (26 : Nat) "LinkTextModel" "count" "[I") ∈ k_tbl := List.mem_filter.mpr ⟨List.mem_append_right _ (List.mem_append_right _ (List.mem_append_right _ (List.mem_append_left _ (List.mem_of_getElem? (i := 42) rfl)))), rfl⟩
theorem kw_524 : (Jvm.Cond.fieldLink "LinkTextModel" (32 : Nat) "LinkTextModel" "numbers" "[J") ∈ k_tbl := List.mem_filter.mpr ⟨List.mem_append_right _ (List.mem_append_right _ (List.mem_append_right _ (List.mem_append_left _ (List.mem_of_getElem? (i := 44) rfl)))), rfl⟩
theorem kw_521 : (Jvm.Cond.fieldLink "LinkTextModel" (23 : Nat) "LinkTextModel" "first" "[I") ∈ k_tbl := List.mem_filter.mpr ⟨List.mem_append_right _ (List.mem_append_right _ (List.mem_append_right _ (List.mem_append_left _ (List.mem_of_getElem? (i := 41) rfl)))), rfl⟩
theorem kw_537 : (Jvm.Cond.fieldLink "LinkTextModel" (205 : Nat) "LinkTextModel" "written" "I") ∈ k_tbl := List.mem_filter.mpr ⟨List.mem_append_right _ (List.mem_append_right _ (List.mem_append_right _ (List.mem_append_left _ (List.mem_of_getElem? (i := 57) rfl)))), rfl⟩
theorem kw_538 : (Jvm.Cond.fieldLink "LinkTextModel" (198 : Nat) "LinkTextModel" "over" "Z") ∈ k_tbl := List.mem_filter.mpr ⟨List.mem_append_right _ (List.mem_append_right _ (List.mem_append_right _ (List.mem_append_left _ (List.mem_of_getElem? (i := 58) rfl)))), rfl⟩
theorem kw_535 : (Jvm.Cond.fieldLink "LinkTextModel" (202 : Nat) "LinkTextModel" "printed" "I") ∈ k_tbl := List.mem_filter.mpr ⟨List.mem_append_right _ (List.mem_append_right _ (List.mem_append_right _ (List.mem_append_left _ (List.mem_of_getElem? (i := 55) rfl)))), rfl⟩
theorem kw_534 : (Jvm.Cond.fieldLink "LinkTextModel" (36 : Nat) "LinkTextModel" "out" "[I") ∈ k_tbl := List.mem_filter.mpr ⟨List.mem_append_right _ (List.mem_append_right _ (List.mem_append_right _ (List.mem_append_left _ (List.mem_of_getElem? (i := 54) rfl)))), rfl⟩
theorem kw_27 : (Jvm.Cond.methodLink "LinkText$ByteRow" (3 : Nat) ({ cls := "java/lang/Object", name := "<init>", desc := "()V" } : Jvm.MethodName)) ∈ k_tbl := List.mem_filter.mpr ⟨List.mem_append_right _ (List.mem_append_left _ (List.mem_of_getElem? (i := 27) rfl)), rfl⟩
theorem kw_20 : (Jvm.Cond.instanceMethod ({ cls := "java/lang/Object", name := "<init>", desc := "()V" } : Jvm.MethodName)) ∈ k_tbl := List.mem_filter.mpr ⟨List.mem_append_right _ (List.mem_append_left _ (List.mem_of_getElem? (i := 20) rfl)), rfl⟩
theorem kw_21 : (Jvm.Cond.code ({ cls := "java/lang/Object", name := "<init>", desc := "()V" } : Jvm.MethodName) object_method_1_code (1 : Nat) (Option.none : Option Jvm.ClassFile.FieldType)) ∈ k_tbl := List.mem_filter.mpr ⟨List.mem_append_right _ (List.mem_append_left _ (List.mem_of_getElem? (i := 21) rfl)), rfl⟩
theorem kw_41 : (Jvm.Cond.arrayClass Jvm.ClassFile.FieldType.byte) ∈ k_tbl := List.mem_filter.mpr ⟨List.mem_append_right _ (List.mem_append_left _ (List.mem_of_getElem? (i := 41) rfl)), rfl⟩
theorem kw_47 : (Jvm.Cond.methodLink "LinkText$Lines" (3 : Nat) ({ cls := "java/lang/Object", name := "<init>", desc := "()V" } : Jvm.MethodName)) ∈ k_tbl := List.mem_filter.mpr ⟨List.mem_append_right _ (List.mem_append_left _ (List.mem_of_getElem? (i := 47) rfl)), rfl⟩
theorem kw_72 : (Jvm.Cond.arrayClass Jvm.ClassFile.FieldType.int) ∈ k_tbl := List.mem_filter.mpr ⟨List.mem_append_right _ (List.mem_append_left _ (List.mem_of_getElem? (i := 72) rfl)), rfl⟩
theorem kw_73 : (Jvm.Cond.arrayClass Jvm.ClassFile.FieldType.long) ∈ k_tbl := List.mem_filter.mpr ⟨List.mem_append_right _ (List.mem_append_left _ (List.mem_of_getElem? (i := 73) rfl)), rfl⟩
theorem kw_85 : (Jvm.Cond.methodLink "LinkText$Tokens" (3 : Nat) ({ cls := "java/lang/Object", name := "<init>", desc := "()V" } : Jvm.MethodName)) ∈ k_tbl := List.mem_filter.mpr ⟨List.mem_append_right _ (List.mem_append_left _ (List.mem_of_getElem? (i := 85) rfl)), rfl⟩
theorem kw_29 : (Jvm.Cond.fieldLinkNest "LinkText$Tokens" (31 : Nat) "LinkText$ByteRow" "bytes" "[B" "LinkText") ∈ lw_tbl := List.mem_append_right _ (List.mem_append_left _ (List.mem_of_getElem? (i := 29) rfl))
theorem kw_79 : (Jvm.Cond.methodLink "LinkText$Reader" (3 : Nat) ({ cls := "java/lang/Object", name := "<init>", desc := "()V" } : Jvm.MethodName)) ∈ k_tbl := List.mem_filter.mpr ⟨List.mem_append_right _ (List.mem_append_left _ (List.mem_of_getElem? (i := 79) rfl)), rfl⟩
theorem kw_80 : (Jvm.Cond.classLink "LinkText$Reader" (18 : Nat) "LinkText$Tokens") ∈ k_tbl := List.mem_filter.mpr ⟨List.mem_append_right _ (List.mem_append_left _ (List.mem_of_getElem? (i := 80) rfl)), rfl⟩
theorem kw_81 : (Jvm.Cond.instantiable "LinkText$Tokens" (7 : Nat)) ∈ k_tbl := List.mem_filter.mpr ⟨List.mem_append_right _ (List.mem_append_left _ (List.mem_of_getElem? (i := 81) rfl)), rfl⟩
theorem kw_82 : (Jvm.Cond.methodLink "LinkText$Reader" (20 : Nat) ({ cls := "LinkText$Tokens", name := "<init>", desc := "(LLinkText$ByteRow;)V" } : Jvm.MethodName)) ∈ k_tbl := List.mem_filter.mpr ⟨List.mem_append_right _ (List.mem_append_left _ (List.mem_of_getElem? (i := 82) rfl)), rfl⟩
theorem kw_84 : (Jvm.Cond.code ({ cls := "LinkText$Tokens", name := "<init>", desc := "(LLinkText$ByteRow;)V" } : Jvm.MethodName) prog_6_method_1_code (2 : Nat) (Option.none : Option Jvm.ClassFile.FieldType)) ∈ k_tbl := List.mem_filter.mpr ⟨List.mem_append_right _ (List.mem_append_left _ (List.mem_of_getElem? (i := 84) rfl)), rfl⟩
theorem kw_83 : (Jvm.Cond.instanceMethod ({ cls := "LinkText$Tokens", name := "<init>", desc := "(LLinkText$ByteRow;)V" } : Jvm.MethodName)) ∈ k_tbl := List.mem_filter.mpr ⟨List.mem_append_right _ (List.mem_append_left _ (List.mem_of_getElem? (i := 83) rfl)), rfl⟩
theorem kw_131 : (Jvm.Cond.methodLink "LinkText$Printer" (3 : Nat) ({ cls := "java/lang/Object", name := "<init>", desc := "()V" } : Jvm.MethodName)) ∈ k_tbl := List.mem_filter.mpr ⟨List.mem_append_right _ (List.mem_append_left _ (List.mem_of_getElem? (i := 131) rfl)), rfl⟩
theorem kw_132 : (Jvm.Cond.fieldLink "LinkText$Printer" (9 : Nat) "LinkText$Printer" "paper" "LLinkText$ByteRow;") ∈ k_tbl := List.mem_filter.mpr ⟨List.mem_append_right _ (List.mem_append_left _ (List.mem_of_getElem? (i := 132) rfl)), rfl⟩
theorem kw_133 : (Jvm.Cond.fieldLink "LinkText$Printer" (15 : Nat) "LinkText$Printer" "lines" "LLinkText$Lines;") ∈ k_tbl := List.mem_filter.mpr ⟨List.mem_append_right _ (List.mem_append_left _ (List.mem_of_getElem? (i := 133) rfl)), rfl⟩
theorem kw_19 : (Jvm.Cond.methodLink "LinkText" (1 : Nat) ({ cls := "java/lang/Object", name := "<init>", desc := "()V" } : Jvm.MethodName)) ∈ k_tbl := List.mem_filter.mpr ⟨List.mem_append_right _ (List.mem_append_left _ (List.mem_of_getElem? (i := 19) rfl)), rfl⟩
theorem kw_22 : (Jvm.Cond.classLink "LinkText" (7 : Nat) "LinkText$ByteRow") ∈ k_tbl := List.mem_filter.mpr ⟨List.mem_append_right _ (List.mem_append_left _ (List.mem_of_getElem? (i := 22) rfl)), rfl⟩
theorem kw_23 : (Jvm.Cond.instantiable "LinkText$ByteRow" (3 : Nat)) ∈ k_tbl := List.mem_filter.mpr ⟨List.mem_append_right _ (List.mem_append_left _ (List.mem_of_getElem? (i := 23) rfl)), rfl⟩
theorem kw_24 : (Jvm.Cond.methodLinkNest "LinkText" (9 : Nat) ({ cls := "LinkText$ByteRow", name := "<init>", desc := "()V" } : Jvm.MethodName) "LinkText") ∈ lw_tbl := List.mem_append_right _ (List.mem_append_left _ (List.mem_of_getElem? (i := 24) rfl))
theorem kw_26 : (Jvm.Cond.code ({ cls := "LinkText$ByteRow", name := "<init>", desc := "()V" } : Jvm.MethodName) prog_2_method_1_code (1 : Nat) (Option.none : Option Jvm.ClassFile.FieldType)) ∈ k_tbl := List.mem_filter.mpr ⟨List.mem_append_right _ (List.mem_append_left _ (List.mem_of_getElem? (i := 26) rfl)), rfl⟩
theorem kw_25 : (Jvm.Cond.instanceMethod ({ cls := "LinkText$ByteRow", name := "<init>", desc := "()V" } : Jvm.MethodName)) ∈ k_tbl := List.mem_filter.mpr ⟨List.mem_append_right _ (List.mem_append_left _ (List.mem_of_getElem? (i := 25) rfl)), rfl⟩
theorem kw_42 : (Jvm.Cond.classLink "LinkText" (19 : Nat) "LinkText$Lines") ∈ k_tbl := List.mem_filter.mpr ⟨List.mem_append_right _ (List.mem_append_left _ (List.mem_of_getElem? (i := 42) rfl)), rfl⟩
theorem kw_43 : (Jvm.Cond.instantiable "LinkText$Lines" (7 : Nat)) ∈ k_tbl := List.mem_filter.mpr ⟨List.mem_append_right _ (List.mem_append_left _ (List.mem_of_getElem? (i := 43) rfl)), rfl⟩
theorem kw_44 : (Jvm.Cond.methodLinkNest "LinkText" (21 : Nat) ({ cls := "LinkText$Lines", name := "<init>", desc := "()V" } : Jvm.MethodName) "LinkText") ∈ lw_tbl := List.mem_append_right _ (List.mem_append_left _ (List.mem_of_getElem? (i := 44) rfl))
theorem kw_46 : (Jvm.Cond.code ({ cls := "LinkText$Lines", name := "<init>", desc := "()V" } : Jvm.MethodName) prog_3_method_1_code (1 : Nat) (Option.none : Option Jvm.ClassFile.FieldType)) ∈ k_tbl := List.mem_filter.mpr ⟨List.mem_append_right _ (List.mem_append_left _ (List.mem_of_getElem? (i := 46) rfl)), rfl⟩
theorem kw_45 : (Jvm.Cond.instanceMethod ({ cls := "LinkText$Lines", name := "<init>", desc := "()V" } : Jvm.MethodName)) ∈ k_tbl := List.mem_filter.mpr ⟨List.mem_append_right _ (List.mem_append_left _ (List.mem_of_getElem? (i := 45) rfl)), rfl⟩
theorem kw_74 : (Jvm.Cond.classLink "LinkText" (26 : Nat) "LinkText$Reader") ∈ k_tbl := List.mem_filter.mpr ⟨List.mem_append_right _ (List.mem_append_left _ (List.mem_of_getElem? (i := 74) rfl)), rfl⟩
theorem kw_75 : (Jvm.Cond.instantiable "LinkText$Reader" (4 : Nat)) ∈ k_tbl := List.mem_filter.mpr ⟨List.mem_append_right _ (List.mem_append_left _ (List.mem_of_getElem? (i := 75) rfl)), rfl⟩
theorem kw_76 : (Jvm.Cond.methodLink "LinkText" (28 : Nat) ({ cls := "LinkText$Reader", name := "<init>", desc := "(LLinkText$ByteRow;LLinkText$Lines;)V" } : Jvm.MethodName)) ∈ k_tbl := List.mem_filter.mpr ⟨List.mem_append_right _ (List.mem_append_left _ (List.mem_of_getElem? (i := 76) rfl)), rfl⟩
theorem kw_78 : (Jvm.Cond.code ({ cls := "LinkText$Reader", name := "<init>", desc := "(LLinkText$ByteRow;LLinkText$Lines;)V" } : Jvm.MethodName) prog_5_method_1_code (3 : Nat) (Option.none : Option Jvm.ClassFile.FieldType)) ∈ k_tbl := List.mem_filter.mpr ⟨List.mem_append_right _ (List.mem_append_left _ (List.mem_of_getElem? (i := 78) rfl)), rfl⟩
theorem kw_77 : (Jvm.Cond.instanceMethod ({ cls := "LinkText$Reader", name := "<init>", desc := "(LLinkText$ByteRow;LLinkText$Lines;)V" } : Jvm.MethodName)) ∈ k_tbl := List.mem_filter.mpr ⟨List.mem_append_right _ (List.mem_append_left _ (List.mem_of_getElem? (i := 77) rfl)), rfl⟩
theorem kw_126 : (Jvm.Cond.classLink "LinkText" (35 : Nat) "LinkText$Printer") ∈ k_tbl := List.mem_filter.mpr ⟨List.mem_append_right _ (List.mem_append_left _ (List.mem_of_getElem? (i := 126) rfl)), rfl⟩
theorem kw_127 : (Jvm.Cond.instantiable "LinkText$Printer" (2 : Nat)) ∈ k_tbl := List.mem_filter.mpr ⟨List.mem_append_right _ (List.mem_append_left _ (List.mem_of_getElem? (i := 127) rfl)), rfl⟩
theorem kw_6 : (Jvm.Cond.initialized "LinkText$Printer") ∈ k_tbl := List.mem_filter.mpr ⟨List.mem_append_right _ (List.mem_append_left _ (List.mem_of_getElem? (i := 6) rfl)), rfl⟩
theorem kw_128 : (Jvm.Cond.methodLink "LinkText" (37 : Nat) ({ cls := "LinkText$Printer", name := "<init>", desc := "(LLinkText$ByteRow;LLinkText$Lines;)V" } : Jvm.MethodName)) ∈ k_tbl := List.mem_filter.mpr ⟨List.mem_append_right _ (List.mem_append_left _ (List.mem_of_getElem? (i := 128) rfl)), rfl⟩
theorem kw_130 : (Jvm.Cond.code ({ cls := "LinkText$Printer", name := "<init>", desc := "(LLinkText$ByteRow;LLinkText$Lines;)V" } : Jvm.MethodName) prog_4_method_1_code (3 : Nat) (Option.none : Option Jvm.ClassFile.FieldType)) ∈ k_tbl := List.mem_filter.mpr ⟨List.mem_append_right _ (List.mem_append_left _ (List.mem_of_getElem? (i := 130) rfl)), rfl⟩
theorem kw_129 : (Jvm.Cond.instanceMethod ({ cls := "LinkText$Printer", name := "<init>", desc := "(LLinkText$ByteRow;LLinkText$Lines;)V" } : Jvm.MethodName)) ∈ k_tbl := List.mem_filter.mpr ⟨List.mem_append_right _ (List.mem_append_left _ (List.mem_of_getElem? (i := 129) rfl)), rfl⟩
theorem kw_514 : (Jvm.Cond.methodLink "LinkTextModel" (1 : Nat) ({ cls := "java/lang/Object", name := "<init>", desc := "()V" } : Jvm.MethodName)) ∈ k_tbl := List.mem_filter.mpr ⟨List.mem_append_right _ (List.mem_append_right _ (List.mem_append_right _ (List.mem_append_left _ (List.mem_of_getElem? (i := 34) rfl)))), rfl⟩
theorem kw_536 : (Jvm.Cond.fieldLink "LinkTextModel" (39 : Nat) "LinkTextModel" "fresh" "[I") ∈ k_tbl := List.mem_filter.mpr ⟨List.mem_append_right _ (List.mem_append_right _ (List.mem_append_right _ (List.mem_append_left _ (List.mem_of_getElem? (i := 56) rfl)))), rfl⟩
theorem kw_539 : (Jvm.Cond.fieldLink "LinkTextModel" (42 : Nat) "LinkTextModel" "digits" "[I") ∈ k_tbl := List.mem_filter.mpr ⟨List.mem_append_right _ (List.mem_append_right _ (List.mem_append_right _ (List.mem_append_left _ (List.mem_of_getElem? (i := 59) rfl)))), rfl⟩
theorem kw_158 : (Jvm.Cond.methodLink "LinkTextLaw" (13 : Nat) ({ cls := "LinkText", name := "feed", desc := "(IIIII)I" } : Jvm.MethodName)) ∈ k_tbl := List.mem_filter.mpr ⟨List.mem_append_right _ (List.mem_append_left _ (List.mem_of_getElem? (i := 158) rfl)), rfl⟩
theorem kw_161 : (Jvm.Cond.code ({ cls := "LinkText", name := "feed", desc := "(IIIII)I" } : Jvm.MethodName) prog_1_method_2_code (6 : Nat) (Option.some Jvm.ClassFile.FieldType.int)) ∈ k_tbl := List.mem_filter.mpr ⟨List.mem_append_right _ (List.mem_append_left _ (List.mem_of_getElem? (i := 161) rfl)), rfl⟩
theorem kw_159 : (Jvm.Cond.instanceMethod ({ cls := "LinkText", name := "feed", desc := "(IIIII)I" } : Jvm.MethodName)) ∈ k_tbl := List.mem_filter.mpr ⟨List.mem_append_right _ (List.mem_append_left _ (List.mem_of_getElem? (i := 159) rfl)), rfl⟩
theorem kw_160 : (Jvm.Cond.selects "LinkText" ({ cls := "LinkText", name := "feed", desc := "(IIIII)I" } : Jvm.MethodName) ({ cls := "LinkText", name := "feed", desc := "(IIIII)I" } : Jvm.MethodName)) ∈ k_tbl := List.mem_filter.mpr ⟨List.mem_append_right _ (List.mem_append_left _ (List.mem_of_getElem? (i := 160) rfl)), rfl⟩
theorem kw_593 : (Jvm.Cond.methodLink "LinkTextLaw" (17 : Nat) ({ cls := "LinkTextModel", name := "feed", desc := "(IIIII)I" } : Jvm.MethodName)) ∈ k_tbl := List.mem_filter.mpr ⟨List.mem_append_right _ (List.mem_append_right _ (List.mem_append_right _ (List.mem_append_left _ (List.mem_of_getElem? (i := 113) rfl)))), rfl⟩
theorem kw_596 : (Jvm.Cond.code ({ cls := "LinkTextModel", name := "feed", desc := "(IIIII)I" } : Jvm.MethodName) prog_8_method_3_code (6 : Nat) (Option.some Jvm.ClassFile.FieldType.int)) ∈ k_tbl := List.mem_filter.mpr ⟨List.mem_append_right _ (List.mem_append_right _ (List.mem_append_right _ (List.mem_append_left _ (List.mem_of_getElem? (i := 116) rfl)))), rfl⟩
theorem kw_594 : (Jvm.Cond.instanceMethod ({ cls := "LinkTextModel", name := "feed", desc := "(IIIII)I" } : Jvm.MethodName)) ∈ k_tbl := List.mem_filter.mpr ⟨List.mem_append_right _ (List.mem_append_right _ (List.mem_append_right _ (List.mem_append_left _ (List.mem_of_getElem? (i := 114) rfl)))), rfl⟩
theorem kw_595 : (Jvm.Cond.selects "LinkTextModel" ({ cls := "LinkTextModel", name := "feed", desc := "(IIIII)I" } : Jvm.MethodName) ({ cls := "LinkTextModel", name := "feed", desc := "(IIIII)I" } : Jvm.MethodName)) ∈ k_tbl := List.mem_filter.mpr ⟨List.mem_append_right _ (List.mem_append_right _ (List.mem_append_right _ (List.mem_append_left _ (List.mem_of_getElem? (i := 115) rfl)))), rfl⟩
theorem kw_170 : (Jvm.Cond.methodLink "LinkTextLaw" (18 : Nat) ({ cls := "LinkText", name := "read", desc := "(I)I" } : Jvm.MethodName)) ∈ k_tbl := List.mem_filter.mpr ⟨List.mem_append_right _ (List.mem_append_left _ (List.mem_of_getElem? (i := 170) rfl)), rfl⟩
theorem kw_173 : (Jvm.Cond.code ({ cls := "LinkText", name := "read", desc := "(I)I" } : Jvm.MethodName) prog_1_method_4_code (3 : Nat) (Option.some Jvm.ClassFile.FieldType.int)) ∈ k_tbl := List.mem_filter.mpr ⟨List.mem_append_right _ (List.mem_append_left _ (List.mem_of_getElem? (i := 173) rfl)), rfl⟩
theorem kw_171 : (Jvm.Cond.instanceMethod ({ cls := "LinkText", name := "read", desc := "(I)I" } : Jvm.MethodName)) ∈ k_tbl := List.mem_filter.mpr ⟨List.mem_append_right _ (List.mem_append_left _ (List.mem_of_getElem? (i := 171) rfl)), rfl⟩
theorem kw_172 : (Jvm.Cond.selects "LinkText" ({ cls := "LinkText", name := "read", desc := "(I)I" } : Jvm.MethodName) ({ cls := "LinkText", name := "read", desc := "(I)I" } : Jvm.MethodName)) ∈ k_tbl := List.mem_filter.mpr ⟨List.mem_append_right _ (List.mem_append_left _ (List.mem_of_getElem? (i := 172) rfl)), rfl⟩
theorem kw_601 : (Jvm.Cond.methodLink "LinkTextLaw" (22 : Nat) ({ cls := "LinkTextModel", name := "read", desc := "(I)I" } : Jvm.MethodName)) ∈ k_tbl := List.mem_filter.mpr ⟨List.mem_append_right _ (List.mem_append_right _ (List.mem_append_right _ (List.mem_append_left _ (List.mem_of_getElem? (i := 121) rfl)))), rfl⟩
theorem kw_604 : (Jvm.Cond.code ({ cls := "LinkTextModel", name := "read", desc := "(I)I" } : Jvm.MethodName) prog_8_method_29_code (4 : Nat) (Option.some Jvm.ClassFile.FieldType.int)) ∈ k_tbl := List.mem_filter.mpr ⟨List.mem_append_right _ (List.mem_append_right _ (List.mem_append_right _ (List.mem_append_left _ (List.mem_of_getElem? (i := 124) rfl)))), rfl⟩
theorem kw_602 : (Jvm.Cond.instanceMethod ({ cls := "LinkTextModel", name := "read", desc := "(I)I" } : Jvm.MethodName)) ∈ k_tbl := List.mem_filter.mpr ⟨List.mem_append_right _ (List.mem_append_right _ (List.mem_append_right _ (List.mem_append_left _ (List.mem_of_getElem? (i := 122) rfl)))), rfl⟩
theorem kw_603 : (Jvm.Cond.selects "LinkTextModel" ({ cls := "LinkTextModel", name := "read", desc := "(I)I" } : Jvm.MethodName) ({ cls := "LinkTextModel", name := "read", desc := "(I)I" } : Jvm.MethodName)) ∈ k_tbl := List.mem_filter.mpr ⟨List.mem_append_right _ (List.mem_append_right _ (List.mem_append_right _ (List.mem_append_left _ (List.mem_of_getElem? (i := 123) rfl)))), rfl⟩
theorem kw_381 : (Jvm.Cond.methodLink "LinkTextLaw" (23 : Nat) ({ cls := "LinkText", name := "fault", desc := "(I)I" } : Jvm.MethodName)) ∈ k_tbl := List.mem_filter.mpr ⟨List.mem_append_right _ (List.mem_append_right _ (List.mem_append_left _ (List.mem_of_getElem? (i := 141) rfl))), rfl⟩
theorem kw_384 : (Jvm.Cond.code ({ cls := "LinkText", name := "fault", desc := "(I)I" } : Jvm.MethodName) prog_1_method_5_code (2 : Nat) (Option.some Jvm.ClassFile.FieldType.int)) ∈ k_tbl := List.mem_filter.mpr ⟨List.mem_append_right _ (List.mem_append_right _ (List.mem_append_left _ (List.mem_of_getElem? (i := 144) rfl))), rfl⟩
theorem kw_382 : (Jvm.Cond.instanceMethod ({ cls := "LinkText", name := "fault", desc := "(I)I" } : Jvm.MethodName)) ∈ k_tbl := List.mem_filter.mpr ⟨List.mem_append_right _ (List.mem_append_right _ (List.mem_append_left _ (List.mem_of_getElem? (i := 142) rfl))), rfl⟩
theorem kw_383 : (Jvm.Cond.selects "LinkText" ({ cls := "LinkText", name := "fault", desc := "(I)I" } : Jvm.MethodName) ({ cls := "LinkText", name := "fault", desc := "(I)I" } : Jvm.MethodName)) ∈ k_tbl := List.mem_filter.mpr ⟨List.mem_append_right _ (List.mem_append_right _ (List.mem_append_left _ (List.mem_of_getElem? (i := 143) rfl))), rfl⟩
theorem kw_714 : (Jvm.Cond.methodLink "LinkTextLaw" (26 : Nat) ({ cls := "LinkTextModel", name := "fault", desc := "(I)I" } : Jvm.MethodName)) ∈ k_tbl := List.mem_filter.mpr ⟨List.mem_append_right _ (List.mem_append_right _ (List.mem_append_right _ (List.mem_append_left _ (List.mem_of_getElem? (i := 234) rfl)))), rfl⟩
theorem kw_717 : (Jvm.Cond.code ({ cls := "LinkTextModel", name := "fault", desc := "(I)I" } : Jvm.MethodName) prog_8_method_31_code (2 : Nat) (Option.some Jvm.ClassFile.FieldType.int)) ∈ k_tbl := List.mem_filter.mpr ⟨List.mem_append_right _ (List.mem_append_right _ (List.mem_append_right _ (List.mem_append_left _ (List.mem_of_getElem? (i := 237) rfl)))), rfl⟩
theorem kw_715 : (Jvm.Cond.instanceMethod ({ cls := "LinkTextModel", name := "fault", desc := "(I)I" } : Jvm.MethodName)) ∈ k_tbl := List.mem_filter.mpr ⟨List.mem_append_right _ (List.mem_append_right _ (List.mem_append_right _ (List.mem_append_left _ (List.mem_of_getElem? (i := 235) rfl)))), rfl⟩
theorem kw_716 : (Jvm.Cond.selects "LinkTextModel" ({ cls := "LinkTextModel", name := "fault", desc := "(I)I" } : Jvm.MethodName) ({ cls := "LinkTextModel", name := "fault", desc := "(I)I" } : Jvm.MethodName)) ∈ k_tbl := List.mem_filter.mpr ⟨List.mem_append_right _ (List.mem_append_right _ (List.mem_append_right _ (List.mem_append_left _ (List.mem_of_getElem? (i := 236) rfl)))), rfl⟩
theorem kw_385 : (Jvm.Cond.methodLink "LinkTextLaw" (27 : Nat) ({ cls := "LinkText", name := "line", desc := "(II)I" } : Jvm.MethodName)) ∈ k_tbl := List.mem_filter.mpr ⟨List.mem_append_right _ (List.mem_append_right _ (List.mem_append_left _ (List.mem_of_getElem? (i := 145) rfl))), rfl⟩
theorem kw_388 : (Jvm.Cond.code ({ cls := "LinkText", name := "line", desc := "(II)I" } : Jvm.MethodName) prog_1_method_6_code (3 : Nat) (Option.some Jvm.ClassFile.FieldType.int)) ∈ k_tbl := List.mem_filter.mpr ⟨List.mem_append_right _ (List.mem_append_right _ (List.mem_append_left _ (List.mem_of_getElem? (i := 148) rfl))), rfl⟩
theorem kw_386 : (Jvm.Cond.instanceMethod ({ cls := "LinkText", name := "line", desc := "(II)I" } : Jvm.MethodName)) ∈ k_tbl := List.mem_filter.mpr ⟨List.mem_append_right _ (List.mem_append_right _ (List.mem_append_left _ (List.mem_of_getElem? (i := 146) rfl))), rfl⟩
theorem kw_387 : (Jvm.Cond.selects "LinkText" ({ cls := "LinkText", name := "line", desc := "(II)I" } : Jvm.MethodName) ({ cls := "LinkText", name := "line", desc := "(II)I" } : Jvm.MethodName)) ∈ k_tbl := List.mem_filter.mpr ⟨List.mem_append_right _ (List.mem_append_right _ (List.mem_append_left _ (List.mem_of_getElem? (i := 147) rfl))), rfl⟩
theorem kw_718 : (Jvm.Cond.methodLink "LinkTextLaw" (31 : Nat) ({ cls := "LinkTextModel", name := "line", desc := "(II)I" } : Jvm.MethodName)) ∈ k_tbl := List.mem_filter.mpr ⟨List.mem_append_right _ (List.mem_append_right _ (List.mem_append_right _ (List.mem_append_left _ (List.mem_of_getElem? (i := 238) rfl)))), rfl⟩
theorem kw_721 : (Jvm.Cond.code ({ cls := "LinkTextModel", name := "line", desc := "(II)I" } : Jvm.MethodName) prog_8_method_33_code (3 : Nat) (Option.some Jvm.ClassFile.FieldType.int)) ∈ k_tbl := List.mem_filter.mpr ⟨List.mem_append_right _ (List.mem_append_right _ (List.mem_append_right _ (List.mem_append_right _ (List.mem_of_getElem? (i := 1) rfl)))), rfl⟩
theorem kw_719 : (Jvm.Cond.instanceMethod ({ cls := "LinkTextModel", name := "line", desc := "(II)I" } : Jvm.MethodName)) ∈ k_tbl := List.mem_filter.mpr ⟨List.mem_append_right _ (List.mem_append_right _ (List.mem_append_right _ (List.mem_append_left _ (List.mem_of_getElem? (i := 239) rfl)))), rfl⟩
theorem kw_720 : (Jvm.Cond.selects "LinkTextModel" ({ cls := "LinkTextModel", name := "line", desc := "(II)I" } : Jvm.MethodName) ({ cls := "LinkTextModel", name := "line", desc := "(II)I" } : Jvm.MethodName)) ∈ k_tbl := List.mem_filter.mpr ⟨List.mem_append_right _ (List.mem_append_right _ (List.mem_append_right _ (List.mem_append_right _ (List.mem_of_getElem? (i := 0) rfl)))), rfl⟩
theorem kw_406 : (Jvm.Cond.methodLink "LinkTextLaw" (32 : Nat) ({ cls := "LinkText", name := "number", desc := "(II)J" } : Jvm.MethodName)) ∈ k_tbl := List.mem_filter.mpr ⟨List.mem_append_right _ (List.mem_append_right _ (List.mem_append_left _ (List.mem_of_getElem? (i := 166) rfl))), rfl⟩
theorem kw_409 : (Jvm.Cond.code ({ cls := "LinkText", name := "number", desc := "(II)J" } : Jvm.MethodName) prog_1_method_7_code (3 : Nat) (Option.some Jvm.ClassFile.FieldType.long)) ∈ k_tbl := List.mem_filter.mpr ⟨List.mem_append_right _ (List.mem_append_right _ (List.mem_append_left _ (List.mem_of_getElem? (i := 169) rfl))), rfl⟩
theorem kw_407 : (Jvm.Cond.instanceMethod ({ cls := "LinkText", name := "number", desc := "(II)J" } : Jvm.MethodName)) ∈ k_tbl := List.mem_filter.mpr ⟨List.mem_append_right _ (List.mem_append_right _ (List.mem_append_left _ (List.mem_of_getElem? (i := 167) rfl))), rfl⟩
theorem kw_408 : (Jvm.Cond.selects "LinkText" ({ cls := "LinkText", name := "number", desc := "(II)J" } : Jvm.MethodName) ({ cls := "LinkText", name := "number", desc := "(II)J" } : Jvm.MethodName)) ∈ k_tbl := List.mem_filter.mpr ⟨List.mem_append_right _ (List.mem_append_right _ (List.mem_append_left _ (List.mem_of_getElem? (i := 168) rfl))), rfl⟩
theorem kw_726 : (Jvm.Cond.methodLink "LinkTextLaw" (36 : Nat) ({ cls := "LinkTextModel", name := "number", desc := "(II)J" } : Jvm.MethodName)) ∈ k_tbl := List.mem_filter.mpr ⟨List.mem_append_right _ (List.mem_append_right _ (List.mem_append_right _ (List.mem_append_right _ (List.mem_of_getElem? (i := 6) rfl)))), rfl⟩
theorem kw_729 : (Jvm.Cond.code ({ cls := "LinkTextModel", name := "number", desc := "(II)J" } : Jvm.MethodName) prog_8_method_34_code (3 : Nat) (Option.some Jvm.ClassFile.FieldType.long)) ∈ k_tbl := List.mem_filter.mpr ⟨List.mem_append_right _ (List.mem_append_right _ (List.mem_append_right _ (List.mem_append_right _ (List.mem_of_getElem? (i := 9) rfl)))), rfl⟩
theorem kw_727 : (Jvm.Cond.instanceMethod ({ cls := "LinkTextModel", name := "number", desc := "(II)J" } : Jvm.MethodName)) ∈ k_tbl := List.mem_filter.mpr ⟨List.mem_append_right _ (List.mem_append_right _ (List.mem_append_right _ (List.mem_append_right _ (List.mem_of_getElem? (i := 7) rfl)))), rfl⟩
theorem kw_728 : (Jvm.Cond.selects "LinkTextModel" ({ cls := "LinkTextModel", name := "number", desc := "(II)J" } : Jvm.MethodName) ({ cls := "LinkTextModel", name := "number", desc := "(II)J" } : Jvm.MethodName)) ∈ k_tbl := List.mem_filter.mpr ⟨List.mem_append_right _ (List.mem_append_right _ (List.mem_append_right _ (List.mem_append_right _ (List.mem_of_getElem? (i := 8) rfl)))), rfl⟩
theorem kw_418 : (Jvm.Cond.methodLink "LinkTextLaw" (37 : Nat) ({ cls := "LinkText", name := "print", desc := "(I)I" } : Jvm.MethodName)) ∈ k_tbl := List.mem_filter.mpr ⟨List.mem_append_right _ (List.mem_append_right _ (List.mem_append_left _ (List.mem_of_getElem? (i := 178) rfl))), rfl⟩
theorem kw_421 : (Jvm.Cond.code ({ cls := "LinkText", name := "print", desc := "(I)I" } : Jvm.MethodName) prog_1_method_8_code (3 : Nat) (Option.some Jvm.ClassFile.FieldType.int)) ∈ k_tbl := List.mem_filter.mpr ⟨List.mem_append_right _ (List.mem_append_right _ (List.mem_append_left _ (List.mem_of_getElem? (i := 181) rfl))), rfl⟩
theorem kw_419 : (Jvm.Cond.instanceMethod ({ cls := "LinkText", name := "print", desc := "(I)I" } : Jvm.MethodName)) ∈ k_tbl := List.mem_filter.mpr ⟨List.mem_append_right _ (List.mem_append_right _ (List.mem_append_left _ (List.mem_of_getElem? (i := 179) rfl))), rfl⟩
theorem kw_420 : (Jvm.Cond.selects "LinkText" ({ cls := "LinkText", name := "print", desc := "(I)I" } : Jvm.MethodName) ({ cls := "LinkText", name := "print", desc := "(I)I" } : Jvm.MethodName)) ∈ k_tbl := List.mem_filter.mpr ⟨List.mem_append_right _ (List.mem_append_right _ (List.mem_append_left _ (List.mem_of_getElem? (i := 180) rfl))), rfl⟩
theorem kw_730 : (Jvm.Cond.methodLink "LinkTextLaw" (40 : Nat) ({ cls := "LinkTextModel", name := "print", desc := "(I)I" } : Jvm.MethodName)) ∈ k_tbl := List.mem_filter.mpr ⟨List.mem_append_right _ (List.mem_append_right _ (List.mem_append_right _ (List.mem_append_right _ (List.mem_of_getElem? (i := 10) rfl)))), rfl⟩
theorem kw_733 : (Jvm.Cond.code ({ cls := "LinkTextModel", name := "print", desc := "(I)I" } : Jvm.MethodName) prog_8_method_43_code (3 : Nat) (Option.some Jvm.ClassFile.FieldType.int)) ∈ k_tbl := List.mem_filter.mpr ⟨List.mem_append_right _ (List.mem_append_right _ (List.mem_append_right _ (List.mem_append_right _ (List.mem_of_getElem? (i := 13) rfl)))), rfl⟩
theorem kw_731 : (Jvm.Cond.instanceMethod ({ cls := "LinkTextModel", name := "print", desc := "(I)I" } : Jvm.MethodName)) ∈ k_tbl := List.mem_filter.mpr ⟨List.mem_append_right _ (List.mem_append_right _ (List.mem_append_right _ (List.mem_append_right _ (List.mem_of_getElem? (i := 11) rfl)))), rfl⟩
theorem kw_732 : (Jvm.Cond.selects "LinkTextModel" ({ cls := "LinkTextModel", name := "print", desc := "(I)I" } : Jvm.MethodName) ({ cls := "LinkTextModel", name := "print", desc := "(I)I" } : Jvm.MethodName)) ∈ k_tbl := List.mem_filter.mpr ⟨List.mem_append_right _ (List.mem_append_right _ (List.mem_append_right _ (List.mem_append_right _ (List.mem_of_getElem? (i := 12) rfl)))), rfl⟩
theorem kw_489 : (Jvm.Cond.methodLink "LinkTextLaw" (41 : Nat) ({ cls := "LinkText", name := "printed", desc := "(I)I" } : Jvm.MethodName)) ∈ k_tbl := List.mem_filter.mpr ⟨List.mem_append_right _ (List.mem_append_right _ (List.mem_append_right _ (List.mem_append_left _ (List.mem_of_getElem? (i := 9) rfl)))), rfl⟩
theorem kw_492 : (Jvm.Cond.code ({ cls := "LinkText", name := "printed", desc := "(I)I" } : Jvm.MethodName) prog_1_method_9_code (2 : Nat) (Option.some Jvm.ClassFile.FieldType.int)) ∈ k_tbl := List.mem_filter.mpr ⟨List.mem_append_right _ (List.mem_append_right _ (List.mem_append_right _ (List.mem_append_left _ (List.mem_of_getElem? (i := 12) rfl)))), rfl⟩
theorem kw_490 : (Jvm.Cond.instanceMethod ({ cls := "LinkText", name := "printed", desc := "(I)I" } : Jvm.MethodName)) ∈ k_tbl := List.mem_filter.mpr ⟨List.mem_append_right _ (List.mem_append_right _ (List.mem_append_right _ (List.mem_append_left _ (List.mem_of_getElem? (i := 10) rfl)))), rfl⟩
theorem kw_491 : (Jvm.Cond.selects "LinkText" ({ cls := "LinkText", name := "printed", desc := "(I)I" } : Jvm.MethodName) ({ cls := "LinkText", name := "printed", desc := "(I)I" } : Jvm.MethodName)) ∈ k_tbl := List.mem_filter.mpr ⟨List.mem_append_right _ (List.mem_append_right _ (List.mem_append_right _ (List.mem_append_left _ (List.mem_of_getElem? (i := 11) rfl)))), rfl⟩
theorem kw_767 : (Jvm.Cond.methodLink "LinkTextLaw" (44 : Nat) ({ cls := "LinkTextModel", name := "printed", desc := "(I)I" } : Jvm.MethodName)) ∈ k_tbl := List.mem_filter.mpr ⟨List.mem_append_right _ (List.mem_append_right _ (List.mem_append_right _ (List.mem_append_right _ (List.mem_of_getElem? (i := 47) rfl)))), rfl⟩
theorem kw_770 : (Jvm.Cond.code ({ cls := "LinkTextModel", name := "printed", desc := "(I)I" } : Jvm.MethodName) prog_8_method_44_code (2 : Nat) (Option.some Jvm.ClassFile.FieldType.int)) ∈ k_tbl := List.mem_filter.mpr ⟨List.mem_append_right _ (List.mem_append_right _ (List.mem_append_right _ (List.mem_append_right _ (List.mem_of_getElem? (i := 50) rfl)))), rfl⟩
theorem kw_768 : (Jvm.Cond.instanceMethod ({ cls := "LinkTextModel", name := "printed", desc := "(I)I" } : Jvm.MethodName)) ∈ k_tbl := List.mem_filter.mpr ⟨List.mem_append_right _ (List.mem_append_right _ (List.mem_append_right _ (List.mem_append_right _ (List.mem_of_getElem? (i := 48) rfl)))), rfl⟩
theorem kw_769 : (Jvm.Cond.selects "LinkTextModel" ({ cls := "LinkTextModel", name := "printed", desc := "(I)I" } : Jvm.MethodName) ({ cls := "LinkTextModel", name := "printed", desc := "(I)I" } : Jvm.MethodName)) ∈ k_tbl := List.mem_filter.mpr ⟨List.mem_append_right _ (List.mem_append_right _ (List.mem_append_right _ (List.mem_append_right _ (List.mem_of_getElem? (i := 49) rfl)))), rfl⟩
theorem kw_497 : (Jvm.Cond.methodLink "LinkTextLaw" (45 : Nat) ({ cls := "LinkText", name := "wipe", desc := "(Z)I" } : Jvm.MethodName)) ∈ k_tbl := List.mem_filter.mpr ⟨List.mem_append_right _ (List.mem_append_right _ (List.mem_append_right _ (List.mem_append_left _ (List.mem_of_getElem? (i := 17) rfl)))), rfl⟩
theorem kw_500 : (Jvm.Cond.code ({ cls := "LinkText", name := "wipe", desc := "(Z)I" } : Jvm.MethodName) prog_1_method_10_code (3 : Nat) (Option.some Jvm.ClassFile.FieldType.int)) ∈ k_tbl := List.mem_filter.mpr ⟨List.mem_append_right _ (List.mem_append_right _ (List.mem_append_right _ (List.mem_append_left _ (List.mem_of_getElem? (i := 20) rfl)))), rfl⟩
theorem kw_498 : (Jvm.Cond.instanceMethod ({ cls := "LinkText", name := "wipe", desc := "(Z)I" } : Jvm.MethodName)) ∈ k_tbl := List.mem_filter.mpr ⟨List.mem_append_right _ (List.mem_append_right _ (List.mem_append_right _ (List.mem_append_left _ (List.mem_of_getElem? (i := 18) rfl)))), rfl⟩
theorem kw_499 : (Jvm.Cond.selects "LinkText" ({ cls := "LinkText", name := "wipe", desc := "(Z)I" } : Jvm.MethodName) ({ cls := "LinkText", name := "wipe", desc := "(Z)I" } : Jvm.MethodName)) ∈ k_tbl := List.mem_filter.mpr ⟨List.mem_append_right _ (List.mem_append_right _ (List.mem_append_right _ (List.mem_append_left _ (List.mem_of_getElem? (i := 19) rfl)))), rfl⟩
theorem kw_771 : (Jvm.Cond.methodLink "LinkTextLaw" (49 : Nat) ({ cls := "LinkTextModel", name := "wipe", desc := "(Z)I" } : Jvm.MethodName)) ∈ k_tbl := List.mem_filter.mpr ⟨List.mem_append_right _ (List.mem_append_right _ (List.mem_append_right _ (List.mem_append_right _ (List.mem_of_getElem? (i := 51) rfl)))), rfl⟩
theorem kw_774 : (Jvm.Cond.code ({ cls := "LinkTextModel", name := "wipe", desc := "(Z)I" } : Jvm.MethodName) prog_8_method_45_code (4 : Nat) (Option.some Jvm.ClassFile.FieldType.int)) ∈ k_tbl := List.mem_filter.mpr ⟨List.mem_append_right _ (List.mem_append_right _ (List.mem_append_right _ (List.mem_append_right _ (List.mem_of_getElem? (i := 54) rfl)))), rfl⟩
theorem kw_772 : (Jvm.Cond.instanceMethod ({ cls := "LinkTextModel", name := "wipe", desc := "(Z)I" } : Jvm.MethodName)) ∈ k_tbl := List.mem_filter.mpr ⟨List.mem_append_right _ (List.mem_append_right _ (List.mem_append_right _ (List.mem_append_right _ (List.mem_of_getElem? (i := 52) rfl)))), rfl⟩
theorem kw_773 : (Jvm.Cond.selects "LinkTextModel" ({ cls := "LinkTextModel", name := "wipe", desc := "(Z)I" } : Jvm.MethodName) ({ cls := "LinkTextModel", name := "wipe", desc := "(Z)I" } : Jvm.MethodName)) ∈ k_tbl := List.mem_filter.mpr ⟨List.mem_append_right _ (List.mem_append_right _ (List.mem_append_right _ (List.mem_append_right _ (List.mem_of_getElem? (i := 53) rfl)))), rfl⟩
theorem kw_14 : (Jvm.Cond.classLink "LinkTextLaw" (7 : Nat) "LinkText") ∈ k_tbl := List.mem_filter.mpr ⟨List.mem_append_right _ (List.mem_append_left _ (List.mem_of_getElem? (i := 14) rfl)), rfl⟩
theorem kw_15 : (Jvm.Cond.instantiable "LinkText" (6 : Nat)) ∈ k_tbl := List.mem_filter.mpr ⟨List.mem_append_right _ (List.mem_append_left _ (List.mem_of_getElem? (i := 15) rfl)), rfl⟩
theorem kw_16 : (Jvm.Cond.methodLink "LinkTextLaw" (9 : Nat) ({ cls := "LinkText", name := "<init>", desc := "()V" } : Jvm.MethodName)) ∈ k_tbl := List.mem_filter.mpr ⟨List.mem_append_right _ (List.mem_append_left _ (List.mem_of_getElem? (i := 16) rfl)), rfl⟩
theorem kw_18 : (Jvm.Cond.code ({ cls := "LinkText", name := "<init>", desc := "()V" } : Jvm.MethodName) prog_1_method_1_code (1 : Nat) (Option.none : Option Jvm.ClassFile.FieldType)) ∈ k_tbl := List.mem_filter.mpr ⟨List.mem_append_right _ (List.mem_append_left _ (List.mem_of_getElem? (i := 18) rfl)), rfl⟩
theorem kw_17 : (Jvm.Cond.instanceMethod ({ cls := "LinkText", name := "<init>", desc := "()V" } : Jvm.MethodName)) ∈ k_tbl := List.mem_filter.mpr ⟨List.mem_append_right _ (List.mem_append_left _ (List.mem_of_getElem? (i := 17) rfl)), rfl⟩
theorem kw_509 : (Jvm.Cond.classLink "LinkTextLaw" (10 : Nat) "LinkTextModel") ∈ k_tbl := List.mem_filter.mpr ⟨List.mem_append_right _ (List.mem_append_right _ (List.mem_append_right _ (List.mem_append_left _ (List.mem_of_getElem? (i := 29) rfl)))), rfl⟩
theorem kw_510 : (Jvm.Cond.instantiable "LinkTextModel" (26 : Nat)) ∈ k_tbl := List.mem_filter.mpr ⟨List.mem_append_right _ (List.mem_append_right _ (List.mem_append_right _ (List.mem_append_left _ (List.mem_of_getElem? (i := 30) rfl)))), rfl⟩
theorem kw_511 : (Jvm.Cond.methodLink "LinkTextLaw" (12 : Nat) ({ cls := "LinkTextModel", name := "<init>", desc := "()V" } : Jvm.MethodName)) ∈ k_tbl := List.mem_filter.mpr ⟨List.mem_append_right _ (List.mem_append_right _ (List.mem_append_right _ (List.mem_append_left _ (List.mem_of_getElem? (i := 31) rfl)))), rfl⟩
theorem kw_513 : (Jvm.Cond.code ({ cls := "LinkTextModel", name := "<init>", desc := "()V" } : Jvm.MethodName) prog_8_method_1_code (1 : Nat) (Option.none : Option Jvm.ClassFile.FieldType)) ∈ k_tbl := List.mem_filter.mpr ⟨List.mem_append_right _ (List.mem_append_right _ (List.mem_append_right _ (List.mem_append_left _ (List.mem_of_getElem? (i := 33) rfl)))), rfl⟩
theorem kw_512 : (Jvm.Cond.instanceMethod ({ cls := "LinkTextModel", name := "<init>", desc := "()V" } : Jvm.MethodName)) ∈ k_tbl := List.mem_filter.mpr ⟨List.mem_append_right _ (List.mem_append_right _ (List.mem_append_right _ (List.mem_append_left _ (List.mem_of_getElem? (i := 32) rfl)))), rfl⟩
theorem dX0_add_0 : decode prog_2_method_2_code 0 = .ok (.aload_n 0, 1) := by decide +kernel
theorem dX0_add_1 : decode prog_2_method_2_code 1 = .ok (.getfield 15, 3) := by decide +kernel
theorem dX0_add_4 : decode prog_2_method_2_code 4 = .ok (.aload_n 0, 1) := by decide +kernel
theorem dX0_add_5 : decode prog_2_method_2_code 5 = .ok (.getfield 9, 3) := by decide +kernel
theorem dX0_add_8 : decode prog_2_method_2_code 8 = .ok (.arraylength, 1) := by decide +kernel
theorem dX0_add_9 : decode prog_2_method_2_code 9 = .ok (.if_icmp .lt 9, 3) := by decide +kernel
theorem dX0_add_18 : decode prog_2_method_2_code 18 = .ok (.aload_n 0, 1) := by decide +kernel
theorem dX0_add_19 : decode prog_2_method_2_code 19 = .ok (.getfield 9, 3) := by decide +kernel
theorem dX0_add_22 : decode prog_2_method_2_code 22 = .ok (.aload_n 0, 1) := by decide +kernel
theorem dX0_add_23 : decode prog_2_method_2_code 23 = .ok (.getfield 15, 3) := by decide +kernel
theorem dX0_add_26 : decode prog_2_method_2_code 26 = .ok (.iload_n 1, 1) := by decide +kernel
theorem dX0_add_27 : decode prog_2_method_2_code 27 = .ok (.i2b, 1) := by decide +kernel
theorem dX0_add_28 : decode prog_2_method_2_code 28 = .ok (.bastore, 1) := by decide +kernel
theorem dX0_add_29 : decode prog_2_method_2_code 29 = .ok (.aload_n 0, 1) := by decide +kernel
theorem dX0_add_30 : decode prog_2_method_2_code 30 = .ok (.dup, 1) := by decide +kernel
theorem dX0_add_31 : decode prog_2_method_2_code 31 = .ok (.getfield 15, 3) := by decide +kernel
theorem dX0_add_34 : decode prog_2_method_2_code 34 = .ok (.iconst 1, 1) := by decide +kernel
theorem dX0_add_35 : decode prog_2_method_2_code 35 = .ok (.iadd, 1) := by decide +kernel
theorem dX0_add_36 : decode prog_2_method_2_code 36 = .ok (.putfield 15, 3) := by decide +kernel
theorem dX0_add_39 : decode prog_2_method_2_code 39 = .ok (.return_, 1) := by decide +kernel
theorem dX0_add_12 : decode prog_2_method_2_code 12 = .ok (.aload_n 0, 1) := by decide +kernel
theorem dX0_add_13 : decode prog_2_method_2_code 13 = .ok (.iconst 1, 1) := by decide +kernel
theorem dX0_add_14 : decode prog_2_method_2_code 14 = .ok (.putfield 19, 3) := by decide +kernel
theorem dX0_add_17 : decode prog_2_method_2_code 17 = .ok (.return_, 1) := by decide +kernel
theorem dX0_cutTo_0 : decode prog_2_method_3_code 0 = .ok (.aload_n 0, 1) := by decide +kernel
theorem dX0_cutTo_1 : decode prog_2_method_3_code 1 = .ok (.iload_n 1, 1) := by decide +kernel
theorem dX0_cutTo_2 : decode prog_2_method_3_code 2 = .ok (.putfield 15, 3) := by decide +kernel
theorem dX0_cutTo_5 : decode prog_2_method_3_code 5 = .ok (.aload_n 0, 1) := by decide +kernel
theorem dX0_cutTo_6 : decode prog_2_method_3_code 6 = .ok (.iconst 0, 1) := by decide +kernel
theorem dX0_cutTo_7 : decode prog_2_method_3_code 7 = .ok (.putfield 19, 3) := by decide +kernel
theorem dX0_cutTo_10 : decode prog_2_method_3_code 10 = .ok (.return_, 1) := by decide +kernel
theorem dX0_byteAt_0 : decode prog_2_method_4_code 0 = .ok (.iload_n 1, 1) := by decide +kernel
theorem dX0_byteAt_1 : decode prog_2_method_4_code 1 = .ok (.ifCond .lt 11, 3) := by decide +kernel
theorem dX0_byteAt_12 : decode prog_2_method_4_code 12 = .ok (.iconst (-1), 1) := by decide +kernel
theorem dX0_byteAt_13 : decode prog_2_method_4_code 13 = .ok (.goto 13, 3) := by decide +kernel
theorem dX0_byteAt_26 : decode prog_2_method_4_code 26 = .ok (.ireturn, 1) := by decide +kernel
theorem dX0_byteAt_4 : decode prog_2_method_4_code 4 = .ok (.iload_n 1, 1) := by decide +kernel
theorem dX0_byteAt_5 : decode prog_2_method_4_code 5 = .ok (.aload_n 0, 1) := by decide +kernel
theorem dX0_byteAt_6 : decode prog_2_method_4_code 6 = .ok (.getfield 15, 3) := by decide +kernel
theorem dX0_byteAt_9 : decode prog_2_method_4_code 9 = .ok (.if_icmp .lt 7, 3) := by decide +kernel
theorem dX0_byteAt_16 : decode prog_2_method_4_code 16 = .ok (.aload_n 0, 1) := by decide +kernel
theorem dX0_byteAt_17 : decode prog_2_method_4_code 17 = .ok (.getfield 9, 3) := by decide +kernel
theorem dX0_byteAt_20 : decode prog_2_method_4_code 20 = .ok (.iload_n 1, 1) := by decide +kernel
theorem dX0_byteAt_21 : decode prog_2_method_4_code 21 = .ok (.baload, 1) := by decide +kernel
theorem dX0_byteAt_22 : decode prog_2_method_4_code 22 = .ok (.sipush 255, 3) := by decide +kernel
theorem dX0_byteAt_25 : decode prog_2_method_4_code 25 = .ok (.iand, 1) := by decide +kernel
theorem dX0_copy_0 : decode prog_2_method_5_code 0 = .ok (.aload_n 1, 1) := by decide +kernel
theorem dX0_copy_1 : decode prog_2_method_5_code 1 = .ok (.getfield 9, 3) := by decide +kernel
theorem dX0_copy_4 : decode prog_2_method_5_code 4 = .ok (.iconst 0, 1) := by decide +kernel
theorem dX0_copy_5 : decode prog_2_method_5_code 5 = .ok (.aload_n 0, 1) := by decide +kernel
theorem dX0_copy_6 : decode prog_2_method_5_code 6 = .ok (.getfield 9, 3) := by decide +kernel
theorem dX0_copy_9 : decode prog_2_method_5_code 9 = .ok (.iconst 0, 1) := by decide +kernel
theorem dX0_copy_10 : decode prog_2_method_5_code 10 = .ok (.aload_n 1, 1) := by decide +kernel
theorem dX0_copy_11 : decode prog_2_method_5_code 11 = .ok (.getfield 15, 3) := by decide +kernel
theorem dX0_copy_14 : decode prog_2_method_5_code 14 = .ok (.invokestatic 23, 3) := by decide +kernel
theorem dX0_copy_17 : decode prog_2_method_5_code 17 = .ok (.aload_n 0, 1) := by decide +kernel
theorem dX0_copy_18 : decode prog_2_method_5_code 18 = .ok (.aload_n 1, 1) := by decide +kernel
theorem dX0_copy_19 : decode prog_2_method_5_code 19 = .ok (.getfield 15, 3) := by decide +kernel
theorem dX0_copy_22 : decode prog_2_method_5_code 22 = .ok (.invokevirtual 29, 3) := by decide +kernel
theorem dX0_copy_25 : decode prog_2_method_5_code 25 = .ok (.return_, 1) := by decide +kernel
theorem dX1_clear_0 : decode prog_3_method_2_code 0 = .ok (.aload_n 0, 1) := by decide +kernel
theorem dX1_clear_1 : decode prog_3_method_2_code 1 = .ok (.iconst 0, 1) := by decide +kernel
theorem dX1_clear_2 : decode prog_3_method_2_code 2 = .ok (.putfield 28, 3) := by decide +kernel
theorem dX1_clear_5 : decode prog_3_method_2_code 5 = .ok (.aload_n 0, 1) := by decide +kernel
theorem dX1_clear_6 : decode prog_3_method_2_code 6 = .ok (.iconst 0, 1) := by decide +kernel
theorem dX1_clear_7 : decode prog_3_method_2_code 7 = .ok (.putfield 32, 3) := by decide +kernel
theorem dX1_clear_10 : decode prog_3_method_2_code 10 = .ok (.return_, 1) := by decide +kernel
theorem dX1_has_0 : decode prog_3_method_5_code 0 = .ok (.iload_n 1, 1) := by decide +kernel
theorem dX1_has_1 : decode prog_3_method_5_code 1 = .ok (.ifCond .lt 15, 3) := by decide +kernel
theorem dX1_has_16 : decode prog_3_method_5_code 16 = .ok (.iconst 0, 1) := by decide +kernel
theorem dX1_has_17 : decode prog_3_method_5_code 17 = .ok (.ireturn, 1) := by decide +kernel
theorem dX1_has_4 : decode prog_3_method_5_code 4 = .ok (.iload_n 1, 1) := by decide +kernel
theorem dX1_has_5 : decode prog_3_method_5_code 5 = .ok (.aload_n 0, 1) := by decide +kernel
theorem dX1_has_6 : decode prog_3_method_5_code 6 = .ok (.getfield 28, 3) := by decide +kernel
theorem dX1_has_9 : decode prog_3_method_5_code 9 = .ok (.if_icmp .ge 7, 3) := by decide +kernel
theorem dX1_has_12 : decode prog_3_method_5_code 12 = .ok (.iconst 1, 1) := by decide +kernel
theorem dX1_has_13 : decode prog_3_method_5_code 13 = .ok (.goto 4, 3) := by decide +kernel
theorem dX1_sizeOf_0 : decode prog_3_method_7_code 0 = .ok (.aload_n 0, 1) := by decide +kernel
theorem dX1_sizeOf_1 : decode prog_3_method_7_code 1 = .ok (.iload_n 1, 1) := by decide +kernel
theorem dX1_sizeOf_2 : decode prog_3_method_7_code 2 = .ok (.invokevirtual 35, 3) := by decide +kernel
theorem dX1_sizeOf_5 : decode prog_3_method_7_code 5 = .ok (.ifCond .eq 12, 3) := by decide +kernel
theorem dX1_sizeOf_17 : decode prog_3_method_7_code 17 = .ok (.iconst 0, 1) := by decide +kernel
theorem dX1_sizeOf_18 : decode prog_3_method_7_code 18 = .ok (.ireturn, 1) := by decide +kernel
theorem dX1_sizeOf_8 : decode prog_3_method_7_code 8 = .ok (.aload_n 0, 1) := by decide +kernel
theorem dX1_sizeOf_9 : decode prog_3_method_7_code 9 = .ok (.getfield 21, 3) := by decide +kernel
theorem dX1_sizeOf_12 : decode prog_3_method_7_code 12 = .ok (.iload_n 1, 1) := by decide +kernel
theorem dX1_sizeOf_13 : decode prog_3_method_7_code 13 = .ok (.iaload, 1) := by decide +kernel
theorem dX1_sizeOf_14 : decode prog_3_method_7_code 14 = .ok (.goto 4, 3) := by decide +kernel
theorem dX1_kindOf_0 : decode prog_3_method_6_code 0 = .ok (.aload_n 0, 1) := by decide +kernel
theorem dX1_kindOf_1 : decode prog_3_method_6_code 1 = .ok (.iload_n 1, 1) := by decide +kernel
theorem dX1_kindOf_2 : decode prog_3_method_6_code 2 = .ok (.invokevirtual 35, 3) := by decide +kernel
theorem dX1_kindOf_5 : decode prog_3_method_6_code 5 = .ok (.ifCond .eq 12, 3) := by decide +kernel
theorem dX1_kindOf_17 : decode prog_3_method_6_code 17 = .ok (.iconst 0, 1) := by decide +kernel
theorem dX1_kindOf_18 : decode prog_3_method_6_code 18 = .ok (.ireturn, 1) := by decide +kernel
theorem dX1_kindOf_8 : decode prog_3_method_6_code 8 = .ok (.aload_n 0, 1) := by decide +kernel
theorem dX1_kindOf_9 : decode prog_3_method_6_code 9 = .ok (.getfield 9, 3) := by decide +kernel
theorem dX1_kindOf_12 : decode prog_3_method_6_code 12 = .ok (.iload_n 1, 1) := by decide +kernel
theorem dX1_kindOf_13 : decode prog_3_method_6_code 13 = .ok (.iaload, 1) := by decide +kernel
theorem dX1_kindOf_14 : decode prog_3_method_6_code 14 = .ok (.goto 4, 3) := by decide +kernel
theorem dX1_placeOf_0 : decode prog_3_method_8_code 0 = .ok (.aload_n 0, 1) := by decide +kernel
theorem dX1_placeOf_1 : decode prog_3_method_8_code 1 = .ok (.iload_n 1, 1) := by decide +kernel
theorem dX1_placeOf_2 : decode prog_3_method_8_code 2 = .ok (.invokevirtual 35, 3) := by decide +kernel
theorem dX1_placeOf_5 : decode prog_3_method_8_code 5 = .ok (.ifCond .eq 12, 3) := by decide +kernel
theorem dX1_placeOf_17 : decode prog_3_method_8_code 17 = .ok (.iconst (-1), 1) := by decide +kernel
theorem dX1_placeOf_18 : decode prog_3_method_8_code 18 = .ok (.ireturn, 1) := by decide +kernel
theorem dX1_placeOf_8 : decode prog_3_method_8_code 8 = .ok (.aload_n 0, 1) := by decide +kernel
theorem dX1_placeOf_9 : decode prog_3_method_8_code 9 = .ok (.getfield 15, 3) := by decide +kernel
theorem dX1_placeOf_12 : decode prog_3_method_8_code 12 = .ok (.iload_n 1, 1) := by decide +kernel
theorem dX1_placeOf_13 : decode prog_3_method_8_code 13 = .ok (.iaload, 1) := by decide +kernel
theorem dX1_placeOf_14 : decode prog_3_method_8_code 14 = .ok (.goto 4, 3) := by decide +kernel
theorem dX1_storedAt_0 : decode prog_3_method_9_code 0 = .ok (.iload_n 2, 1) := by decide +kernel
theorem dX1_storedAt_1 : decode prog_3_method_9_code 1 = .ok (.ifCond .lt 12, 3) := by decide +kernel
theorem dX1_storedAt_13 : decode prog_3_method_9_code 13 = .ok (.lconst 0, 1) := by decide +kernel
theorem dX1_storedAt_14 : decode prog_3_method_9_code 14 = .ok (.lreturn, 1) := by decide +kernel
theorem dX1_storedAt_4 : decode prog_3_method_9_code 4 = .ok (.iload_n 2, 1) := by decide +kernel
theorem dX1_storedAt_5 : decode prog_3_method_9_code 5 = .ok (.aload_n 0, 1) := by decide +kernel
theorem dX1_storedAt_6 : decode prog_3_method_9_code 6 = .ok (.iload_n 1, 1) := by decide +kernel
theorem dX1_storedAt_7 : decode prog_3_method_9_code 7 = .ok (.invokevirtual 39, 3) := by decide +kernel
theorem dX1_storedAt_10 : decode prog_3_method_9_code 10 = .ok (.if_icmp .lt 5, 3) := by decide +kernel
theorem dX1_storedAt_15 : decode prog_3_method_9_code 15 = .ok (.aload_n 0, 1) := by decide +kernel
theorem dX1_storedAt_16 : decode prog_3_method_9_code 16 = .ok (.getfield 18, 3) := by decide +kernel
theorem dX1_storedAt_19 : decode prog_3_method_9_code 19 = .ok (.iload_n 1, 1) := by decide +kernel
theorem dX1_storedAt_20 : decode prog_3_method_9_code 20 = .ok (.iaload, 1) := by decide +kernel
theorem dX1_storedAt_21 : decode prog_3_method_9_code 21 = .ok (.iload_n 2, 1) := by decide +kernel
theorem dX1_storedAt_22 : decode prog_3_method_9_code 22 = .ok (.iadd, 1) := by decide +kernel
theorem dX1_storedAt_23 : decode prog_3_method_9_code 23 = .ok (.istore_n 3, 1) := by decide +kernel
theorem dX1_storedAt_24 : decode prog_3_method_9_code 24 = .ok (.iload_n 3, 1) := by decide +kernel
theorem dX1_storedAt_25 : decode prog_3_method_9_code 25 = .ok (.aload_n 0, 1) := by decide +kernel
theorem dX1_storedAt_26 : decode prog_3_method_9_code 26 = .ok (.getfield 24, 3) := by decide +kernel
theorem dX1_storedAt_29 : decode prog_3_method_9_code 29 = .ok (.arraylength, 1) := by decide +kernel
theorem dX1_storedAt_30 : decode prog_3_method_9_code 30 = .ok (.if_icmp .ge 12, 3) := by decide +kernel
theorem dX1_storedAt_42 : decode prog_3_method_9_code 42 = .ok (.lconst 0, 1) := by decide +kernel
theorem dX1_storedAt_43 : decode prog_3_method_9_code 43 = .ok (.lreturn, 1) := by decide +kernel
theorem dX1_storedAt_33 : decode prog_3_method_9_code 33 = .ok (.aload_n 0, 1) := by decide +kernel
theorem dX1_storedAt_34 : decode prog_3_method_9_code 34 = .ok (.getfield 24, 3) := by decide +kernel
theorem dX1_storedAt_37 : decode prog_3_method_9_code 37 = .ok (.iload_n 3, 1) := by decide +kernel
theorem dX1_storedAt_38 : decode prog_3_method_9_code 38 = .ok (.laload, 1) := by decide +kernel
theorem dX1_storedAt_39 : decode prog_3_method_9_code 39 = .ok (.goto 4, 3) := by decide +kernel
theorem dX2_begin_0 : decode prog_6_method_2_code 0 = .ok (.aload_n 0, 1) := by decide +kernel
theorem dX2_begin_1 : decode prog_6_method_2_code 1 = .ok (.iload_n 1, 1) := by decide +kernel
theorem dX2_begin_2 : decode prog_6_method_2_code 2 = .ok (.ifCond .lt 16, 3) := by decide +kernel
theorem dX2_begin_5 : decode prog_6_method_2_code 5 = .ok (.iload_n 1, 1) := by decide +kernel
theorem dX2_begin_6 : decode prog_6_method_2_code 6 = .ok (.aload_n 0, 1) := by decide +kernel
theorem dX2_begin_7 : decode prog_6_method_2_code 7 = .ok (.getfield 37, 3) := by decide +kernel
theorem dX2_begin_10 : decode prog_6_method_2_code 10 = .ok (.arraylength, 1) := by decide +kernel
theorem dX2_begin_11 : decode prog_6_method_2_code 11 = .ok (.if_icmp .gt 7, 3) := by decide +kernel
theorem dX2_begin_14 : decode prog_6_method_2_code 14 = .ok (.iload_n 1, 1) := by decide +kernel
theorem dX2_begin_15 : decode prog_6_method_2_code 15 = .ok (.goto 4, 3) := by decide +kernel
theorem dX2_begin_19 : decode prog_6_method_2_code 19 = .ok (.putfield 9, 3) := by decide +kernel
theorem dX2_begin_22 : decode prog_6_method_2_code 22 = .ok (.aload_n 0, 1) := by decide +kernel
theorem dX2_begin_23 : decode prog_6_method_2_code 23 = .ok (.iconst 0, 1) := by decide +kernel
theorem dX2_begin_24 : decode prog_6_method_2_code 24 = .ok (.putfield 15, 3) := by decide +kernel
theorem dX2_begin_27 : decode prog_6_method_2_code 27 = .ok (.aload_n 0, 1) := by decide +kernel
theorem dX2_begin_28 : decode prog_6_method_2_code 28 = .ok (.iconst 0, 1) := by decide +kernel
theorem dX2_begin_29 : decode prog_6_method_2_code 29 = .ok (.putfield 18, 3) := by decide +kernel
theorem dX2_begin_32 : decode prog_6_method_2_code 32 = .ok (.aload_n 0, 1) := by decide +kernel
theorem dX2_begin_33 : decode prog_6_method_2_code 33 = .ok (.iconst 0, 1) := by decide +kernel
theorem dX2_begin_34 : decode prog_6_method_2_code 34 = .ok (.putfield 21, 3) := by decide +kernel
theorem dX2_begin_37 : decode prog_6_method_2_code 37 = .ok (.aload_n 0, 1) := by decide +kernel
theorem dX2_begin_38 : decode prog_6_method_2_code 38 = .ok (.lconst 0, 1) := by decide +kernel
theorem dX2_begin_39 : decode prog_6_method_2_code 39 = .ok (.putfield 24, 3) := by decide +kernel
theorem dX2_begin_42 : decode prog_6_method_2_code 42 = .ok (.aload_n 0, 1) := by decide +kernel
theorem dX2_begin_43 : decode prog_6_method_2_code 43 = .ok (.iconst 0, 1) := by decide +kernel
theorem dX2_begin_44 : decode prog_6_method_2_code 44 = .ok (.putfield 28, 3) := by decide +kernel
theorem dX2_begin_47 : decode prog_6_method_2_code 47 = .ok (.return_, 1) := by decide +kernel
theorem dX2_begin_18 : decode prog_6_method_2_code 18 = .ok (.iconst 0, 1) := by decide +kernel
theorem dX2_isLineEnd_0 : decode prog_6_method_6_code 0 = .ok (.aload_n 0, 1) := by decide +kernel
theorem dX2_isLineEnd_1 : decode prog_6_method_6_code 1 = .ok (.getfield 15, 3) := by decide +kernel
theorem dX2_isLineEnd_4 : decode prog_6_method_6_code 4 = .ok (.ifCond .ne 7, 3) := by decide +kernel
theorem dX2_isLineEnd_11 : decode prog_6_method_6_code 11 = .ok (.iconst 0, 1) := by decide +kernel
theorem dX2_isLineEnd_12 : decode prog_6_method_6_code 12 = .ok (.ireturn, 1) := by decide +kernel
theorem dX2_isLineEnd_7 : decode prog_6_method_6_code 7 = .ok (.iconst 1, 1) := by decide +kernel
theorem dX2_isLineEnd_8 : decode prog_6_method_6_code 8 = .ok (.goto 4, 3) := by decide +kernel
theorem dX2_isTextEnd_0 : decode prog_6_method_7_code 0 = .ok (.aload_n 0, 1) := by decide +kernel
theorem dX2_isTextEnd_1 : decode prog_6_method_7_code 1 = .ok (.getfield 15, 3) := by decide +kernel
theorem dX2_isTextEnd_4 : decode prog_6_method_7_code 4 = .ok (.ifCond .ne 18, 3) := by decide +kernel
theorem dX2_isTextEnd_22 : decode prog_6_method_7_code 22 = .ok (.iconst 0, 1) := by decide +kernel
theorem dX2_isTextEnd_23 : decode prog_6_method_7_code 23 = .ok (.ireturn, 1) := by decide +kernel
theorem dX2_isTextEnd_7 : decode prog_6_method_7_code 7 = .ok (.aload_n 0, 1) := by decide +kernel
theorem dX2_isTextEnd_8 : decode prog_6_method_7_code 8 = .ok (.getfield 18, 3) := by decide +kernel
theorem dX2_isTextEnd_11 : decode prog_6_method_7_code 11 = .ok (.aload_n 0, 1) := by decide +kernel
theorem dX2_isTextEnd_12 : decode prog_6_method_7_code 12 = .ok (.getfield 9, 3) := by decide +kernel
theorem dX2_isTextEnd_15 : decode prog_6_method_7_code 15 = .ok (.if_icmp .lt 7, 3) := by decide +kernel
theorem dX2_isTextEnd_18 : decode prog_6_method_7_code 18 = .ok (.iconst 1, 1) := by decide +kernel
theorem dX2_isTextEnd_19 : decode prog_6_method_7_code 19 = .ok (.goto 4, 3) := by decide +kernel
theorem dX3_begin_0 : decode prog_5_method_2_code 0 = .ok (.aload_n 0, 1) := by decide +kernel
theorem dX3_begin_1 : decode prog_5_method_2_code 1 = .ok (.getfield 23, 3) := by decide +kernel
theorem dX3_begin_4 : decode prog_5_method_2_code 4 = .ok (.iload_n 1, 1) := by decide +kernel
theorem dX3_begin_5 : decode prog_5_method_2_code 5 = .ok (.invokevirtual 31, 3) := by decide +kernel
theorem dX3_begin_8 : decode prog_5_method_2_code 8 = .ok (.aload_n 0, 1) := by decide +kernel
theorem dX3_begin_9 : decode prog_5_method_2_code 9 = .ok (.getfield 27, 3) := by decide +kernel
theorem dX3_begin_12 : decode prog_5_method_2_code 12 = .ok (.invokevirtual 35, 3) := by decide +kernel
theorem dX3_begin_15 : decode prog_5_method_2_code 15 = .ok (.aload_n 0, 1) := by decide +kernel
theorem dX3_begin_16 : decode prog_5_method_2_code 16 = .ok (.iconst 0, 1) := by decide +kernel
theorem dX3_begin_17 : decode prog_5_method_2_code 17 = .ok (.putfield 9, 3) := by decide +kernel
theorem dX3_begin_20 : decode prog_5_method_2_code 20 = .ok (.aload_n 0, 1) := by decide +kernel
theorem dX3_begin_21 : decode prog_5_method_2_code 21 = .ok (.iconst (-1), 1) := by decide +kernel
theorem dX3_begin_22 : decode prog_5_method_2_code 22 = .ok (.putfield 15, 3) := by decide +kernel
theorem dX3_begin_25 : decode prog_5_method_2_code 25 = .ok (.return_, 1) := by decide +kernel
theorem dX3_findLine_0 : decode prog_5_method_3_code 0 = .ok (.aload_n 0, 1) := by decide +kernel
theorem dX3_findLine_1 : decode prog_5_method_3_code 1 = .ok (.getfield 9, 3) := by decide +kernel
theorem dX3_findLine_4 : decode prog_5_method_3_code 4 = .ok (.ifCond .eq 5, 3) := by decide +kernel
theorem dX3_findLine_9 : decode prog_5_method_3_code 9 = .ok (.iconst 0, 1) := by decide +kernel
theorem dX3_findLine_10 : decode prog_5_method_3_code 10 = .ok (.istore_n 1, 1) := by decide +kernel
theorem dX3_findLine_7 : decode prog_5_method_3_code 7 = .ok (.iconst 0, 1) := by decide +kernel
theorem dX3_findLine_8 : decode prog_5_method_3_code 8 = .ok (.ireturn, 1) := by decide +kernel
theorem dX3_findLine_11 : decode prog_5_method_3_code 11 = .ok (.iload_n 1, 1) := by decide +kernel
theorem dX3_findLine_12 : decode prog_5_method_3_code 12 = .ok (.sipush 4000, 3) := by decide +kernel
theorem dX3_findLine_15 : decode prog_5_method_3_code 15 = .ok (.if_icmp .gt 37, 3) := by decide +kernel
theorem dX3_findLine_18 : decode prog_5_method_3_code 18 = .ok (.aload_n 0, 1) := by decide +kernel
theorem dX3_findLine_19 : decode prog_5_method_3_code 19 = .ok (.getfield 23, 3) := by decide +kernel
theorem dX3_findLine_22 : decode prog_5_method_3_code 22 = .ok (.invokevirtual 40, 3) := by decide +kernel
theorem dX3_findLine_25 : decode prog_5_method_3_code 25 = .ok (.ifCond .eq 27, 3) := by decide +kernel
theorem dX3_findLine_28 : decode prog_5_method_3_code 28 = .ok (.aload_n 0, 1) := by decide +kernel
theorem dX3_findLine_29 : decode prog_5_method_3_code 29 = .ok (.getfield 23, 3) := by decide +kernel
theorem dX3_findLine_32 : decode prog_5_method_3_code 32 = .ok (.invokevirtual 44, 3) := by decide +kernel
theorem dX3_findLine_35 : decode prog_5_method_3_code 35 = .ok (.ifCond .ne 17, 3) := by decide +kernel
theorem dX3_findLine_38 : decode prog_5_method_3_code 38 = .ok (.aload_n 0, 1) := by decide +kernel
theorem dX3_findLine_39 : decode prog_5_method_3_code 39 = .ok (.getfield 23, 3) := by decide +kernel
theorem dX3_findLine_42 : decode prog_5_method_3_code 42 = .ok (.iconst 0, 1) := by decide +kernel
theorem dX3_findLine_43 : decode prog_5_method_3_code 43 = .ok (.invokevirtual 47, 3) := by decide +kernel
theorem dX3_findLine_52 : decode prog_5_method_3_code 52 = .ok (.aload_n 0, 1) := by decide +kernel
theorem dX3_findLine_53 : decode prog_5_method_3_code 53 = .ok (.getfield 23, 3) := by decide +kernel
theorem dX3_findLine_56 : decode prog_5_method_3_code 56 = .ok (.invokevirtual 40, 3) := by decide +kernel
theorem dX3_findLine_59 : decode prog_5_method_3_code 59 = .ok (.ifCond .ne 7, 3) := by decide +kernel
theorem dX3_findLine_66 : decode prog_5_method_3_code 66 = .ok (.iconst 0, 1) := by decide +kernel
theorem dX3_findLine_67 : decode prog_5_method_3_code 67 = .ok (.ireturn, 1) := by decide +kernel
theorem dX3_findLine_62 : decode prog_5_method_3_code 62 = .ok (.iconst 1, 1) := by decide +kernel
theorem dX3_findLine_63 : decode prog_5_method_3_code 63 = .ok (.goto 4, 3) := by decide +kernel
theorem dX5_valueOf_0 : decode prog_1_method_14_code 0 = .ok (.lload_n 0, 1) := by decide +kernel
theorem dX5_valueOf_1 : decode prog_1_method_14_code 1 = .ok (.ldc2_w 156, 3) := by decide +kernel
theorem dX5_valueOf_4 : decode prog_1_method_14_code 4 = .ok (.lcmp, 1) := by decide +kernel
theorem dX5_valueOf_5 : decode prog_1_method_14_code 5 = .ok (.ifCond .ne 7, 3) := by decide +kernel
theorem dX5_valueOf_12 : decode prog_1_method_14_code 12 = .ok (.lload_n 0, 1) := by decide +kernel
theorem dX5_valueOf_13 : decode prog_1_method_14_code 13 = .ok (.lreturn, 1) := by decide +kernel
theorem dX5_valueOf_8 : decode prog_1_method_14_code 8 = .ok (.lconst 0, 1) := by decide +kernel
theorem dX5_valueOf_9 : decode prog_1_method_14_code 9 = .ok (.goto 4, 3) := by decide +kernel
theorem dX5_feedFour_0 : decode prog_1_method_3_code 0 = .ok (.bipush 24, 2) := by decide +kernel
theorem dX5_feedFour_2 : decode prog_1_method_3_code 2 = .ok (.istore_n 2, 1) := by decide +kernel
theorem dX5_feedFour_3 : decode prog_1_method_3_code 3 = .ok (.iload_n 2, 1) := by decide +kernel
theorem dX5_feedFour_4 : decode prog_1_method_3_code 4 = .ok (.ifCond .lt 19, 3) := by decide +kernel
theorem dX5_feedFour_23 : decode prog_1_method_3_code 23 = .ok (.return_, 1) := by decide +kernel
theorem dX5_feedFour_7 : decode prog_1_method_3_code 7 = .ok (.aload_n 0, 1) := by decide +kernel
theorem dX5_feedFour_8 : decode prog_1_method_3_code 8 = .ok (.getfield 10, 3) := by decide +kernel
theorem dX5_feedFour_11 : decode prog_1_method_3_code 11 = .ok (.iload_n 1, 1) := by decide +kernel
theorem dX5_feedFour_12 : decode prog_1_method_3_code 12 = .ok (.iload_n 2, 1) := by decide +kernel
theorem dX5_feedFour_13 : decode prog_1_method_3_code 13 = .ok (.ishr, 1) := by decide +kernel
theorem dX5_feedFour_14 : decode prog_1_method_3_code 14 = .ok (.invokevirtual 54, 3) := by decide +kernel
theorem dX5_feedFour_17 : decode prog_1_method_3_code 17 = .ok (.iinc 2 (-8), 3) := by decide +kernel
theorem dX5_feedFour_20 : decode prog_1_method_3_code 20 = .ok (.goto (-17), 3) := by decide +kernel
theorem dX5_feed_0 : decode prog_1_method_2_code 0 = .ok (.aload_n 0, 1) := by decide +kernel
theorem dX5_feed_1 : decode prog_1_method_2_code 1 = .ok (.getfield 10, 3) := by decide +kernel
theorem dX5_feed_4 : decode prog_1_method_2_code 4 = .ok (.getfield 46, 3) := by decide +kernel
theorem dX5_feed_7 : decode prog_1_method_2_code 7 = .ok (.sipush 3980, 3) := by decide +kernel
theorem dX5_feed_10 : decode prog_1_method_2_code 10 = .ok (.if_icmp .le 5, 3) := by decide +kernel
theorem dX5_feed_15 : decode prog_1_method_2_code 15 = .ok (.aload_n 0, 1) := by decide +kernel
theorem dX5_feed_16 : decode prog_1_method_2_code 16 = .ok (.iload_n 1, 1) := by decide +kernel
theorem dX5_feed_17 : decode prog_1_method_2_code 17 = .ok (.invokevirtual 50, 3) := by decide +kernel
theorem dX5_feed_20 : decode prog_1_method_2_code 20 = .ok (.aload_n 0, 1) := by decide +kernel
theorem dX5_feed_21 : decode prog_1_method_2_code 21 = .ok (.iload_n 2, 1) := by decide +kernel
theorem dX5_feed_22 : decode prog_1_method_2_code 22 = .ok (.invokevirtual 50, 3) := by decide +kernel
theorem dX5_feed_25 : decode prog_1_method_2_code 25 = .ok (.aload_n 0, 1) := by decide +kernel
theorem dX5_feed_26 : decode prog_1_method_2_code 26 = .ok (.iload_n 3, 1) := by decide +kernel
theorem dX5_feed_27 : decode prog_1_method_2_code 27 = .ok (.invokevirtual 50, 3) := by decide +kernel
theorem dX5_feed_30 : decode prog_1_method_2_code 30 = .ok (.aload_n 0, 1) := by decide +kernel
theorem dX5_feed_31 : decode prog_1_method_2_code 31 = .ok (.iload 4, 2) := by decide +kernel
theorem dX5_feed_33 : decode prog_1_method_2_code 33 = .ok (.invokevirtual 50, 3) := by decide +kernel
theorem dX5_feed_36 : decode prog_1_method_2_code 36 = .ok (.aload_n 0, 1) := by decide +kernel
theorem dX5_feed_37 : decode prog_1_method_2_code 37 = .ok (.iload 5, 2) := by decide +kernel
theorem dX5_feed_39 : decode prog_1_method_2_code 39 = .ok (.invokevirtual 50, 3) := by decide +kernel
theorem dX5_feed_42 : decode prog_1_method_2_code 42 = .ok (.aload_n 0, 1) := by decide +kernel
theorem dX5_feed_43 : decode prog_1_method_2_code 43 = .ok (.getfield 10, 3) := by decide +kernel
theorem dX5_feed_46 : decode prog_1_method_2_code 46 = .ok (.getfield 46, 3) := by decide +kernel
theorem dX5_feed_49 : decode prog_1_method_2_code 49 = .ok (.ireturn, 1) := by decide +kernel
theorem dX5_feed_13 : decode prog_1_method_2_code 13 = .ok (.iconst (-1), 1) := by decide +kernel
theorem dX5_feed_14 : decode prog_1_method_2_code 14 = .ok (.ireturn, 1) := by decide +kernel
theorem dX5_read_0 : decode prog_1_method_4_code 0 = .ok (.iload_n 1, 1) := by decide +kernel
theorem dX5_read_1 : decode prog_1_method_4_code 1 = .ok (.ifCond .lt 14, 3) := by decide +kernel
theorem dX5_read_15 : decode prog_1_method_4_code 15 = .ok (.bipush (-2), 2) := by decide +kernel
theorem dX5_read_17 : decode prog_1_method_4_code 17 = .ok (.ireturn, 1) := by decide +kernel
theorem dX5_read_4 : decode prog_1_method_4_code 4 = .ok (.iload_n 1, 1) := by decide +kernel
theorem dX5_read_5 : decode prog_1_method_4_code 5 = .ok (.aload_n 0, 1) := by decide +kernel
theorem dX5_read_6 : decode prog_1_method_4_code 6 = .ok (.getfield 10, 3) := by decide +kernel
theorem dX5_read_9 : decode prog_1_method_4_code 9 = .ok (.getfield 46, 3) := by decide +kernel
theorem dX5_read_12 : decode prog_1_method_4_code 12 = .ok (.if_icmp .le 6, 3) := by decide +kernel
theorem dX5_read_18 : decode prog_1_method_4_code 18 = .ok (.aload_n 0, 1) := by decide +kernel
theorem dX5_read_19 : decode prog_1_method_4_code 19 = .ok (.iconst 1, 1) := by decide +kernel
theorem dX5_read_20 : decode prog_1_method_4_code 20 = .ok (.putfield 42, 3) := by decide +kernel
theorem dX5_read_23 : decode prog_1_method_4_code 23 = .ok (.aload_n 0, 1) := by decide +kernel
theorem dX5_read_24 : decode prog_1_method_4_code 24 = .ok (.getfield 31, 3) := by decide +kernel
theorem dX5_read_27 : decode prog_1_method_4_code 27 = .ok (.iload_n 1, 1) := by decide +kernel
theorem dX5_read_28 : decode prog_1_method_4_code 28 = .ok (.invokevirtual 57, 3) := by decide +kernel
theorem dX5_read_31 : decode prog_1_method_4_code 31 = .ok (.iconst 0, 1) := by decide +kernel
theorem dX5_read_32 : decode prog_1_method_4_code 32 = .ok (.istore_n 2, 1) := by decide +kernel
theorem dX5_read_33 : decode prog_1_method_4_code 33 = .ok (.iload_n 2, 1) := by decide +kernel
theorem dX5_read_34 : decode prog_1_method_4_code 34 = .ok (.bipush 64, 2) := by decide +kernel
theorem dX5_read_36 : decode prog_1_method_4_code 36 = .ok (.if_icmp .gt 26, 3) := by decide +kernel
theorem dX5_read_39 : decode prog_1_method_4_code 39 = .ok (.aload_n 0, 1) := by decide +kernel
theorem dX5_read_40 : decode prog_1_method_4_code 40 = .ok (.getfield 31, 3) := by decide +kernel
theorem dX5_read_43 : decode prog_1_method_4_code 43 = .ok (.invokevirtual 60, 3) := by decide +kernel
theorem dX5_read_46 : decode prog_1_method_4_code 46 = .ok (.ifCond .eq 16, 3) := by decide +kernel
theorem dX5_read_49 : decode prog_1_method_4_code 49 = .ok (.aload_n 0, 1) := by decide +kernel
theorem dX5_read_50 : decode prog_1_method_4_code 50 = .ok (.getfield 31, 3) := by decide +kernel
theorem dX5_read_53 : decode prog_1_method_4_code 53 = .ok (.invokevirtual 64, 3) := by decide +kernel
theorem dX5_read_62 : decode prog_1_method_4_code 62 = .ok (.aload_n 0, 1) := by decide +kernel
theorem dX5_read_63 : decode prog_1_method_4_code 63 = .ok (.getfield 10, 3) := by decide +kernel
theorem dX5_read_66 : decode prog_1_method_4_code 66 = .ok (.iconst 0, 1) := by decide +kernel
theorem dX5_read_67 : decode prog_1_method_4_code 67 = .ok (.invokevirtual 67, 3) := by decide +kernel
theorem dX5_read_70 : decode prog_1_method_4_code 70 = .ok (.aload_n 0, 1) := by decide +kernel
theorem dX5_read_71 : decode prog_1_method_4_code 71 = .ok (.getfield 31, 3) := by decide +kernel
theorem dX5_read_74 : decode prog_1_method_4_code 74 = .ok (.getfield 70, 3) := by decide +kernel
theorem dX5_read_77 : decode prog_1_method_4_code 77 = .ok (.ifCond .eq 12, 3) := by decide +kernel
theorem dX5_read_89 : decode prog_1_method_4_code 89 = .ok (.aload_n 0, 1) := by decide +kernel
theorem dX5_read_90 : decode prog_1_method_4_code 90 = .ok (.getfield 22, 3) := by decide +kernel
theorem dX5_read_93 : decode prog_1_method_4_code 93 = .ok (.getfield 76, 3) := by decide +kernel
theorem dX5_read_96 : decode prog_1_method_4_code 96 = .ok (.ireturn, 1) := by decide +kernel
theorem dX5_read_80 : decode prog_1_method_4_code 80 = .ok (.aload_n 0, 1) := by decide +kernel
theorem dX5_read_81 : decode prog_1_method_4_code 81 = .ok (.getfield 22, 3) := by decide +kernel
theorem dX5_read_84 : decode prog_1_method_4_code 84 = .ok (.invokevirtual 73, 3) := by decide +kernel
theorem dX5_read_87 : decode prog_1_method_4_code 87 = .ok (.iconst (-1), 1) := by decide +kernel
theorem dX5_read_88 : decode prog_1_method_4_code 88 = .ok (.ireturn, 1) := by decide +kernel
theorem dX5_fault_0 : decode prog_1_method_5_code 0 = .ok (.aload_n 0, 1) := by decide +kernel
theorem dX5_fault_1 : decode prog_1_method_5_code 1 = .ok (.getfield 42, 3) := by decide +kernel
theorem dX5_fault_4 : decode prog_1_method_5_code 4 = .ok (.ifCond .ne 5, 3) := by decide +kernel
theorem dX5_fault_9 : decode prog_1_method_5_code 9 = .ok (.iload_n 1, 1) := by decide +kernel
theorem dX5_fault_10 : decode prog_1_method_5_code 10 = .ok (.lookupswitch 42 #[(0, 26), (1, 34)], 26) := by decide +kernel
theorem dX5_fault_36 : decode prog_1_method_5_code 36 = .ok (.aload_n 0, 1) := by decide +kernel
theorem dX5_fault_37 : decode prog_1_method_5_code 37 = .ok (.getfield 31, 3) := by decide +kernel
theorem dX5_fault_40 : decode prog_1_method_5_code 40 = .ok (.getfield 70, 3) := by decide +kernel
theorem dX5_fault_43 : decode prog_1_method_5_code 43 = .ok (.ireturn, 1) := by decide +kernel
theorem dX5_fault_44 : decode prog_1_method_5_code 44 = .ok (.aload_n 0, 1) := by decide +kernel
theorem dX5_fault_45 : decode prog_1_method_5_code 45 = .ok (.getfield 31, 3) := by decide +kernel
theorem dX5_fault_48 : decode prog_1_method_5_code 48 = .ok (.getfield 77, 3) := by decide +kernel
theorem dX5_fault_51 : decode prog_1_method_5_code 51 = .ok (.ireturn, 1) := by decide +kernel
theorem dX5_fault_52 : decode prog_1_method_5_code 52 = .ok (.iconst (-1), 1) := by decide +kernel
theorem dX5_fault_53 : decode prog_1_method_5_code 53 = .ok (.ireturn, 1) := by decide +kernel
theorem dX5_fault_7 : decode prog_1_method_5_code 7 = .ok (.iconst (-1), 1) := by decide +kernel
theorem dX5_fault_8 : decode prog_1_method_5_code 8 = .ok (.ireturn, 1) := by decide +kernel
theorem dX5_line_0 : decode prog_1_method_6_code 0 = .ok (.aload_n 0, 1) := by decide +kernel
theorem dX5_line_1 : decode prog_1_method_6_code 1 = .ok (.getfield 22, 3) := by decide +kernel
theorem dX5_line_4 : decode prog_1_method_6_code 4 = .ok (.iload_n 1, 1) := by decide +kernel
theorem dX5_line_5 : decode prog_1_method_6_code 5 = .ok (.invokevirtual 80, 3) := by decide +kernel
theorem dX5_line_8 : decode prog_1_method_6_code 8 = .ok (.ifCond .ne 5, 3) := by decide +kernel
theorem dX5_line_13 : decode prog_1_method_6_code 13 = .ok (.iload_n 2, 1) := by decide +kernel
theorem dX5_line_14 : decode prog_1_method_6_code 14 = .ok (.tableswitch 53 0 2 #[26, 35, 44], 26) := by decide +kernel
theorem dX5_line_40 : decode prog_1_method_6_code 40 = .ok (.aload_n 0, 1) := by decide +kernel
theorem dX5_line_41 : decode prog_1_method_6_code 41 = .ok (.getfield 22, 3) := by decide +kernel
theorem dX5_line_44 : decode prog_1_method_6_code 44 = .ok (.iload_n 1, 1) := by decide +kernel
theorem dX5_line_45 : decode prog_1_method_6_code 45 = .ok (.invokevirtual 84, 3) := by decide +kernel
theorem dX5_line_48 : decode prog_1_method_6_code 48 = .ok (.ireturn, 1) := by decide +kernel
theorem dX5_line_49 : decode prog_1_method_6_code 49 = .ok (.aload_n 0, 1) := by decide +kernel
theorem dX5_line_50 : decode prog_1_method_6_code 50 = .ok (.getfield 22, 3) := by decide +kernel
theorem dX5_line_53 : decode prog_1_method_6_code 53 = .ok (.iload_n 1, 1) := by decide +kernel
theorem dX5_line_54 : decode prog_1_method_6_code 54 = .ok (.invokevirtual 88, 3) := by decide +kernel
theorem dX5_line_57 : decode prog_1_method_6_code 57 = .ok (.ireturn, 1) := by decide +kernel
theorem dX5_line_58 : decode prog_1_method_6_code 58 = .ok (.aload_n 0, 1) := by decide +kernel
theorem dX5_line_59 : decode prog_1_method_6_code 59 = .ok (.getfield 22, 3) := by decide +kernel
theorem dX5_line_62 : decode prog_1_method_6_code 62 = .ok (.iload_n 1, 1) := by decide +kernel
theorem dX5_line_63 : decode prog_1_method_6_code 63 = .ok (.invokevirtual 91, 3) := by decide +kernel
theorem dX5_line_66 : decode prog_1_method_6_code 66 = .ok (.ireturn, 1) := by decide +kernel
theorem dX5_line_67 : decode prog_1_method_6_code 67 = .ok (.iconst (-1), 1) := by decide +kernel
theorem dX5_line_68 : decode prog_1_method_6_code 68 = .ok (.ireturn, 1) := by decide +kernel
theorem dX5_line_11 : decode prog_1_method_6_code 11 = .ok (.iconst (-1), 1) := by decide +kernel
theorem dX5_line_12 : decode prog_1_method_6_code 12 = .ok (.ireturn, 1) := by decide +kernel
theorem dX5_number_0 : decode prog_1_method_7_code 0 = .ok (.aload_n 0, 1) := by decide +kernel
theorem dX5_number_1 : decode prog_1_method_7_code 1 = .ok (.getfield 22, 3) := by decide +kernel
theorem dX5_number_4 : decode prog_1_method_7_code 4 = .ok (.iload_n 1, 1) := by decide +kernel
theorem dX5_number_5 : decode prog_1_method_7_code 5 = .ok (.iload_n 2, 1) := by decide +kernel
theorem dX5_number_6 : decode prog_1_method_7_code 6 = .ok (.invokevirtual 94, 3) := by decide +kernel
theorem dX5_number_9 : decode prog_1_method_7_code 9 = .ok (.invokestatic 98, 3) := by decide +kernel
theorem dX5_number_12 : decode prog_1_method_7_code 12 = .ok (.lreturn, 1) := by decide +kernel
theorem dX5_print_0 : decode prog_1_method_8_code 0 = .ok (.aload_n 0, 1) := by decide +kernel
theorem dX5_print_1 : decode prog_1_method_8_code 1 = .ok (.getfield 22, 3) := by decide +kernel
theorem dX5_print_4 : decode prog_1_method_8_code 4 = .ok (.iload_n 1, 1) := by decide +kernel
theorem dX5_print_5 : decode prog_1_method_8_code 5 = .ok (.invokevirtual 80, 3) := by decide +kernel
theorem dX5_print_8 : decode prog_1_method_8_code 8 = .ok (.ifCond .ne 5, 3) := by decide +kernel
theorem dX5_print_13 : decode prog_1_method_8_code 13 = .ok (.aload_n 0, 1) := by decide +kernel
theorem dX5_print_14 : decode prog_1_method_8_code 14 = .ok (.getfield 16, 3) := by decide +kernel
theorem dX5_print_17 : decode prog_1_method_8_code 17 = .ok (.getfield 46, 3) := by decide +kernel
theorem dX5_print_20 : decode prog_1_method_8_code 20 = .ok (.istore_n 2, 1) := by decide +kernel
theorem dX5_print_21 : decode prog_1_method_8_code 21 = .ok (.aload_n 0, 1) := by decide +kernel
theorem dX5_print_22 : decode prog_1_method_8_code 22 = .ok (.getfield 38, 3) := by decide +kernel
theorem dX5_print_25 : decode prog_1_method_8_code 25 = .ok (.iload_n 1, 1) := by decide +kernel
theorem dX5_print_26 : decode prog_1_method_8_code 26 = .ok (.invokevirtual 102, 3) := by decide +kernel
theorem dX5_print_11 : decode prog_1_method_8_code 11 = .ok (.iconst (-1), 1) := by decide +kernel
theorem dX5_print_12 : decode prog_1_method_8_code 12 = .ok (.ireturn, 1) := by decide +kernel
theorem dX5_printed_0 : decode prog_1_method_9_code 0 = .ok (.aload_n 0, 1) := by decide +kernel
theorem dX5_printed_1 : decode prog_1_method_9_code 1 = .ok (.getfield 16, 3) := by decide +kernel
theorem dX5_printed_4 : decode prog_1_method_9_code 4 = .ok (.iload_n 1, 1) := by decide +kernel
theorem dX5_printed_5 : decode prog_1_method_9_code 5 = .ok (.invokevirtual 108, 3) := by decide +kernel
theorem dX5_printed_8 : decode prog_1_method_9_code 8 = .ok (.ireturn, 1) := by decide +kernel
theorem dX5_wipe_0 : decode prog_1_method_10_code 0 = .ok (.aload_n 0, 1) := by decide +kernel
theorem dX5_wipe_1 : decode prog_1_method_10_code 1 = .ok (.getfield 16, 3) := by decide +kernel
theorem dX5_wipe_4 : decode prog_1_method_10_code 4 = .ok (.getfield 46, 3) := by decide +kernel
theorem dX5_wipe_7 : decode prog_1_method_10_code 7 = .ok (.istore_n 2, 1) := by decide +kernel
theorem dX5_wipe_8 : decode prog_1_method_10_code 8 = .ok (.iload_n 1, 1) := by decide +kernel
theorem dX5_wipe_9 : decode prog_1_method_10_code 9 = .ok (.ifCond .eq 14, 3) := by decide +kernel
theorem dX5_wipe_12 : decode prog_1_method_10_code 12 = .ok (.aload_n 0, 1) := by decide +kernel
theorem dX5_wipe_13 : decode prog_1_method_10_code 13 = .ok (.getfield 10, 3) := by decide +kernel
theorem dX5_wipe_16 : decode prog_1_method_10_code 16 = .ok (.aload_n 0, 1) := by decide +kernel
theorem dX5_wipe_17 : decode prog_1_method_10_code 17 = .ok (.getfield 16, 3) := by decide +kernel
theorem dX5_wipe_20 : decode prog_1_method_10_code 20 = .ok (.invokevirtual 111, 3) := by decide +kernel
theorem dX5_wipe_23 : decode prog_1_method_10_code 23 = .ok (.aload_n 0, 1) := by decide +kernel
theorem dX5_wipe_24 : decode prog_1_method_10_code 24 = .ok (.getfield 16, 3) := by decide +kernel
theorem dX5_wipe_27 : decode prog_1_method_10_code 27 = .ok (.iconst 0, 1) := by decide +kernel
theorem dX5_wipe_28 : decode prog_1_method_10_code 28 = .ok (.invokevirtual 67, 3) := by decide +kernel
theorem dX5_wipe_31 : decode prog_1_method_10_code 31 = .ok (.iload_n 2, 1) := by decide +kernel
theorem dX5_wipe_32 : decode prog_1_method_10_code 32 = .ok (.ireturn, 1) := by decide +kernel
theorem dX6_put_0 : decode prog_8_method_4_code 0 = .ok (.bipush 24, 2) := by decide +kernel
theorem dX6_put_2 : decode prog_8_method_4_code 2 = .ok (.istore_n 2, 1) := by decide +kernel
theorem dX6_put_3 : decode prog_8_method_4_code 3 = .ok (.iload_n 2, 1) := by decide +kernel
theorem dX6_put_4 : decode prog_8_method_4_code 4 = .ok (.ifCond .lt 35, 3) := by decide +kernel
theorem dX6_put_39 : decode prog_8_method_4_code 39 = .ok (.return_, 1) := by decide +kernel
theorem dX6_put_7 : decode prog_8_method_4_code 7 = .ok (.aload_n 0, 1) := by decide +kernel
theorem dX6_put_8 : decode prog_8_method_4_code 8 = .ok (.getfield 7, 3) := by decide +kernel
theorem dX6_put_11 : decode prog_8_method_4_code 11 = .ok (.aload_n 0, 1) := by decide +kernel
theorem dX6_put_12 : decode prog_8_method_4_code 12 = .ok (.getfield 48, 3) := by decide +kernel
theorem dX6_put_15 : decode prog_8_method_4_code 15 = .ok (.iload_n 1, 1) := by decide +kernel
theorem dX6_put_16 : decode prog_8_method_4_code 16 = .ok (.iload_n 2, 1) := by decide +kernel
theorem dX6_put_17 : decode prog_8_method_4_code 17 = .ok (.ishr, 1) := by decide +kernel
theorem dX6_put_18 : decode prog_8_method_4_code 18 = .ok (.sipush 255, 3) := by decide +kernel
theorem dX6_put_21 : decode prog_8_method_4_code 21 = .ok (.iand, 1) := by decide +kernel
theorem dX6_put_22 : decode prog_8_method_4_code 22 = .ok (.iastore, 1) := by decide +kernel
theorem dX6_put_23 : decode prog_8_method_4_code 23 = .ok (.aload_n 0, 1) := by decide +kernel
theorem dX6_put_24 : decode prog_8_method_4_code 24 = .ok (.dup, 1) := by decide +kernel
theorem dX6_put_25 : decode prog_8_method_4_code 25 = .ok (.getfield 48, 3) := by decide +kernel
theorem dX6_put_28 : decode prog_8_method_4_code 28 = .ok (.iconst 1, 1) := by decide +kernel
theorem dX6_put_29 : decode prog_8_method_4_code 29 = .ok (.iadd, 1) := by decide +kernel
theorem dX6_put_30 : decode prog_8_method_4_code 30 = .ok (.putfield 48, 3) := by decide +kernel
theorem dX6_put_33 : decode prog_8_method_4_code 33 = .ok (.iinc 2 (-8), 3) := by decide +kernel
theorem dX6_put_36 : decode prog_8_method_4_code 36 = .ok (.goto (-33), 3) := by decide +kernel
theorem dX6_feed_0 : decode prog_8_method_3_code 0 = .ok (.aload_n 0, 1) := by decide +kernel
theorem dX6_feed_1 : decode prog_8_method_3_code 1 = .ok (.getfield 48, 3) := by decide +kernel
theorem dX6_feed_4 : decode prog_8_method_3_code 4 = .ok (.bipush 20, 2) := by decide +kernel
theorem dX6_feed_6 : decode prog_8_method_3_code 6 = .ok (.iadd, 1) := by decide +kernel
theorem dX6_feed_7 : decode prog_8_method_3_code 7 = .ok (.sipush 4000, 3) := by decide +kernel
theorem dX6_feed_10 : decode prog_8_method_3_code 10 = .ok (.if_icmp .le 5, 3) := by decide +kernel
theorem dX6_feed_15 : decode prog_8_method_3_code 15 = .ok (.aload_n 0, 1) := by decide +kernel
theorem dX6_feed_16 : decode prog_8_method_3_code 16 = .ok (.iload_n 1, 1) := by decide +kernel
theorem dX6_feed_17 : decode prog_8_method_3_code 17 = .ok (.invokevirtual 51, 3) := by decide +kernel
theorem dX6_feed_20 : decode prog_8_method_3_code 20 = .ok (.aload_n 0, 1) := by decide +kernel
theorem dX6_feed_21 : decode prog_8_method_3_code 21 = .ok (.iload_n 2, 1) := by decide +kernel
theorem dX6_feed_22 : decode prog_8_method_3_code 22 = .ok (.invokevirtual 51, 3) := by decide +kernel
theorem dX6_feed_25 : decode prog_8_method_3_code 25 = .ok (.aload_n 0, 1) := by decide +kernel
theorem dX6_feed_26 : decode prog_8_method_3_code 26 = .ok (.iload_n 3, 1) := by decide +kernel
theorem dX6_feed_27 : decode prog_8_method_3_code 27 = .ok (.invokevirtual 51, 3) := by decide +kernel
theorem dX6_feed_30 : decode prog_8_method_3_code 30 = .ok (.aload_n 0, 1) := by decide +kernel
theorem dX6_feed_31 : decode prog_8_method_3_code 31 = .ok (.iload 4, 2) := by decide +kernel
theorem dX6_feed_33 : decode prog_8_method_3_code 33 = .ok (.invokevirtual 51, 3) := by decide +kernel
theorem dX6_feed_36 : decode prog_8_method_3_code 36 = .ok (.aload_n 0, 1) := by decide +kernel
theorem dX6_feed_37 : decode prog_8_method_3_code 37 = .ok (.iload 5, 2) := by decide +kernel
theorem dX6_feed_39 : decode prog_8_method_3_code 39 = .ok (.invokevirtual 51, 3) := by decide +kernel
theorem dX6_feed_42 : decode prog_8_method_3_code 42 = .ok (.aload_n 0, 1) := by decide +kernel
theorem dX6_feed_43 : decode prog_8_method_3_code 43 = .ok (.getfield 48, 3) := by decide +kernel
theorem dX6_feed_46 : decode prog_8_method_3_code 46 = .ok (.ireturn, 1) := by decide +kernel
theorem dX6_feed_13 : decode prog_8_method_3_code 13 = .ok (.iconst (-1), 1) := by decide +kernel
theorem dX6_feed_14 : decode prog_8_method_3_code 14 = .ok (.ireturn, 1) := by decide +kernel
theorem dX6_isLine_0 : decode prog_8_method_32_code 0 = .ok (.iload_n 1, 1) := by decide +kernel
theorem dX6_isLine_1 : decode prog_8_method_32_code 1 = .ok (.ifCond .lt 15, 3) := by decide +kernel
theorem dX6_isLine_16 : decode prog_8_method_32_code 16 = .ok (.iconst 0, 1) := by decide +kernel
theorem dX6_isLine_17 : decode prog_8_method_32_code 17 = .ok (.ireturn, 1) := by decide +kernel
theorem dX6_isLine_4 : decode prog_8_method_32_code 4 = .ok (.iload_n 1, 1) := by decide +kernel
theorem dX6_isLine_5 : decode prog_8_method_32_code 5 = .ok (.aload_n 0, 1) := by decide +kernel
theorem dX6_isLine_6 : decode prog_8_method_32_code 6 = .ok (.getfield 90, 3) := by decide +kernel
theorem dX6_isLine_9 : decode prog_8_method_32_code 9 = .ok (.if_icmp .ge 7, 3) := by decide +kernel
theorem dX6_isLine_12 : decode prog_8_method_32_code 12 = .ok (.iconst 1, 1) := by decide +kernel
theorem dX6_isLine_13 : decode prog_8_method_32_code 13 = .ok (.goto 4, 3) := by decide +kernel
theorem dX6_stop_0 : decode prog_8_method_13_code 0 = .ok (.aload_n 0, 1) := by decide +kernel
theorem dX6_stop_1 : decode prog_8_method_13_code 1 = .ok (.getfield 13, 3) := by decide +kernel
theorem dX6_stop_4 : decode prog_8_method_13_code 4 = .ok (.ifCond .eq 4, 3) := by decide +kernel
theorem dX6_stop_8 : decode prog_8_method_13_code 8 = .ok (.aload_n 0, 1) := by decide +kernel
theorem dX6_stop_9 : decode prog_8_method_13_code 9 = .ok (.iload_n 1, 1) := by decide +kernel
theorem dX6_stop_10 : decode prog_8_method_13_code 10 = .ok (.putfield 13, 3) := by decide +kernel
theorem dX6_stop_13 : decode prog_8_method_13_code 13 = .ok (.aload_n 0, 1) := by decide +kernel
theorem dX6_stop_14 : decode prog_8_method_13_code 14 = .ok (.iload_n 2, 1) := by decide +kernel
theorem dX6_stop_15 : decode prog_8_method_13_code 15 = .ok (.putfield 17, 3) := by decide +kernel
theorem dX6_stop_18 : decode prog_8_method_13_code 18 = .ok (.return_, 1) := by decide +kernel
theorem dX6_stop_7 : decode prog_8_method_13_code 7 = .ok (.return_, 1) := by decide +kernel
theorem dX6_mayEnd_0 : decode prog_8_method_17_code 0 = .ok (.aload_n 0, 1) := by decide +kernel
theorem dX6_mayEnd_1 : decode prog_8_method_17_code 1 = .ok (.getfield 93, 3) := by decide +kernel
theorem dX6_mayEnd_4 : decode prog_8_method_17_code 4 = .ok (.iconst 1, 1) := by decide +kernel
theorem dX6_mayEnd_5 : decode prog_8_method_17_code 5 = .ok (.if_icmp .eq 57, 3) := by decide +kernel
theorem dX6_mayEnd_62 : decode prog_8_method_17_code 62 = .ok (.iconst 1, 1) := by decide +kernel
theorem dX6_mayEnd_63 : decode prog_8_method_17_code 63 = .ok (.goto 4, 3) := by decide +kernel
theorem dX6_mayEnd_67 : decode prog_8_method_17_code 67 = .ok (.ireturn, 1) := by decide +kernel
theorem dX6_mayEnd_8 : decode prog_8_method_17_code 8 = .ok (.aload_n 0, 1) := by decide +kernel
theorem dX6_mayEnd_9 : decode prog_8_method_17_code 9 = .ok (.getfield 93, 3) := by decide +kernel
theorem dX6_mayEnd_12 : decode prog_8_method_17_code 12 = .ok (.bipush 6, 2) := by decide +kernel
theorem dX6_mayEnd_14 : decode prog_8_method_17_code 14 = .ok (.if_icmp .eq 48, 3) := by decide +kernel
theorem dX6_mayEnd_17 : decode prog_8_method_17_code 17 = .ok (.aload_n 0, 1) := by decide +kernel
theorem dX6_mayEnd_18 : decode prog_8_method_17_code 18 = .ok (.getfield 93, 3) := by decide +kernel
theorem dX6_mayEnd_21 : decode prog_8_method_17_code 21 = .ok (.bipush 8, 2) := by decide +kernel
theorem dX6_mayEnd_23 : decode prog_8_method_17_code 23 = .ok (.if_icmp .eq 39, 3) := by decide +kernel
theorem dX6_mayEnd_26 : decode prog_8_method_17_code 26 = .ok (.aload_n 0, 1) := by decide +kernel
theorem dX6_mayEnd_27 : decode prog_8_method_17_code 27 = .ok (.getfield 93, 3) := by decide +kernel
theorem dX6_mayEnd_30 : decode prog_8_method_17_code 30 = .ok (.bipush 19, 2) := by decide +kernel
theorem dX6_mayEnd_32 : decode prog_8_method_17_code 32 = .ok (.if_icmp .eq 30, 3) := by decide +kernel
theorem dX6_mayEnd_35 : decode prog_8_method_17_code 35 = .ok (.aload_n 0, 1) := by decide +kernel
theorem dX6_mayEnd_36 : decode prog_8_method_17_code 36 = .ok (.getfield 93, 3) := by decide +kernel
theorem dX6_mayEnd_39 : decode prog_8_method_17_code 39 = .ok (.bipush 22, 2) := by decide +kernel
theorem dX6_mayEnd_41 : decode prog_8_method_17_code 41 = .ok (.if_icmp .eq 21, 3) := by decide +kernel
theorem dX6_mayEnd_44 : decode prog_8_method_17_code 44 = .ok (.aload_n 0, 1) := by decide +kernel
theorem dX6_mayEnd_45 : decode prog_8_method_17_code 45 = .ok (.getfield 93, 3) := by decide +kernel
theorem dX6_mayEnd_48 : decode prog_8_method_17_code 48 = .ok (.bipush 23, 2) := by decide +kernel
theorem dX6_mayEnd_50 : decode prog_8_method_17_code 50 = .ok (.if_icmp .eq 12, 3) := by decide +kernel
theorem dX6_mayEnd_53 : decode prog_8_method_17_code 53 = .ok (.aload_n 0, 1) := by decide +kernel
theorem dX6_mayEnd_54 : decode prog_8_method_17_code 54 = .ok (.getfield 93, 3) := by decide +kernel
theorem dX6_mayEnd_57 : decode prog_8_method_17_code 57 = .ok (.bipush 26, 2) := by decide +kernel
theorem dX6_mayEnd_59 : decode prog_8_method_17_code 59 = .ok (.if_icmp .ne 7, 3) := by decide +kernel
theorem dX6_mayEnd_66 : decode prog_8_method_17_code 66 = .ok (.iconst 0, 1) := by decide +kernel
theorem dX6_finish_0 : decode prog_8_method_18_code 0 = .ok (.aload_n 0, 1) := by decide +kernel
theorem dX6_finish_1 : decode prog_8_method_18_code 1 = .ok (.getfield 93, 3) := by decide +kernel
theorem dX6_finish_4 : decode prog_8_method_18_code 4 = .ok (.ifCond .ne 4, 3) := by decide +kernel
theorem dX6_finish_8 : decode prog_8_method_18_code 8 = .ok (.aload_n 0, 1) := by decide +kernel
theorem dX6_finish_9 : decode prog_8_method_18_code 9 = .ok (.invokevirtual 120, 3) := by decide +kernel
theorem dX6_finish_12 : decode prog_8_method_18_code 12 = .ok (.ifCond .ne 10, 3) := by decide +kernel
theorem dX6_finish_22 : decode prog_8_method_18_code 22 = .ok (.aload_n 0, 1) := by decide +kernel
theorem dX6_finish_23 : decode prog_8_method_18_code 23 = .ok (.getfield 20, 3) := by decide +kernel
theorem dX6_finish_26 : decode prog_8_method_18_code 26 = .ok (.aload_n 0, 1) := by decide +kernel
theorem dX6_finish_27 : decode prog_8_method_18_code 27 = .ok (.getfield 90, 3) := by decide +kernel
theorem dX6_finish_30 : decode prog_8_method_18_code 30 = .ok (.iaload, 1) := by decide +kernel
theorem dX6_finish_31 : decode prog_8_method_18_code 31 = .ok (.iconst 1, 1) := by decide +kernel
theorem dX6_finish_32 : decode prog_8_method_18_code 32 = .ok (.if_icmp .ne 16, 3) := by decide +kernel
theorem dX6_finish_35 : decode prog_8_method_18_code 35 = .ok (.aload_n 0, 1) := by decide +kernel
theorem dX6_finish_36 : decode prog_8_method_18_code 36 = .ok (.getfield 93, 3) := by decide +kernel
theorem dX6_finish_39 : decode prog_8_method_18_code 39 = .ok (.iconst 1, 1) := by decide +kernel
theorem dX6_finish_40 : decode prog_8_method_18_code 40 = .ok (.if_icmp .ne 8, 3) := by decide +kernel
theorem dX6_finish_43 : decode prog_8_method_18_code 43 = .ok (.aload_n 0, 1) := by decide +kernel
theorem dX6_finish_44 : decode prog_8_method_18_code 44 = .ok (.lconst 0, 1) := by decide +kernel
theorem dX6_finish_45 : decode prog_8_method_18_code 45 = .ok (.invokevirtual 123, 3) := by decide +kernel
theorem dX6_finish_15 : decode prog_8_method_18_code 15 = .ok (.aload_n 0, 1) := by decide +kernel
theorem dX6_finish_16 : decode prog_8_method_18_code 16 = .ok (.iconst 4, 1) := by decide +kernel
theorem dX6_finish_17 : decode prog_8_method_18_code 17 = .ok (.iload_n 1, 1) := by decide +kernel
theorem dX6_finish_18 : decode prog_8_method_18_code 18 = .ok (.invokevirtual 100, 3) := by decide +kernel
theorem dX6_finish_21 : decode prog_8_method_18_code 21 = .ok (.return_, 1) := by decide +kernel
theorem dX6_finish_7 : decode prog_8_method_18_code 7 = .ok (.return_, 1) := by decide +kernel
theorem dX6_finish_48 : decode prog_8_method_18_code 48 = .ok (.aload_n 0, 1) := by decide +kernel
theorem dX6_finish_49 : decode prog_8_method_18_code 49 = .ok (.getfield 93, 3) := by decide +kernel
theorem dX6_finish_52 : decode prog_8_method_18_code 52 = .ok (.bipush 22, 2) := by decide +kernel
theorem dX6_finish_54 : decode prog_8_method_18_code 54 = .ok (.if_icmp .eq 12, 3) := by decide +kernel
theorem dX6_finish_57 : decode prog_8_method_18_code 57 = .ok (.aload_n 0, 1) := by decide +kernel
theorem dX6_finish_58 : decode prog_8_method_18_code 58 = .ok (.getfield 93, 3) := by decide +kernel
theorem dX6_finish_61 : decode prog_8_method_18_code 61 = .ok (.bipush 23, 2) := by decide +kernel
theorem dX6_finish_63 : decode prog_8_method_18_code 63 = .ok (.if_icmp .ne 21, 3) := by decide +kernel
theorem dX6_finish_66 : decode prog_8_method_18_code 66 = .ok (.aload_n 0, 1) := by decide +kernel
theorem dX6_finish_67 : decode prog_8_method_18_code 67 = .ok (.aload_n 0, 1) := by decide +kernel
theorem dX6_finish_68 : decode prog_8_method_18_code 68 = .ok (.getfield 93, 3) := by decide +kernel
theorem dX6_finish_71 : decode prog_8_method_18_code 71 = .ok (.bipush 23, 2) := by decide +kernel
theorem dX6_finish_73 : decode prog_8_method_18_code 73 = .ok (.if_icmp .ne 7, 3) := by decide +kernel
theorem dX6_finish_80 : decode prog_8_method_18_code 80 = .ok (.iconst 0, 1) := by decide +kernel
theorem dX6_finish_76 : decode prog_8_method_18_code 76 = .ok (.iconst 1, 1) := by decide +kernel
theorem dX6_finish_77 : decode prog_8_method_18_code 77 = .ok (.goto 4, 3) := by decide +kernel
theorem dX6_finish_81 : decode prog_8_method_18_code 81 = .ok (.invokevirtual 127, 3) := by decide +kernel
theorem dX6_finish_84 : decode prog_8_method_18_code 84 = .ok (.aload_n 0, 1) := by decide +kernel
theorem dX6_finish_85 : decode prog_8_method_18_code 85 = .ok (.iconst 0, 1) := by decide +kernel
theorem dX6_finish_86 : decode prog_8_method_18_code 86 = .ok (.putfield 93, 3) := by decide +kernel
theorem dX6_finish_89 : decode prog_8_method_18_code 89 = .ok (.aload_n 0, 1) := by decide +kernel
theorem dX6_finish_90 : decode prog_8_method_18_code 90 = .ok (.dup, 1) := by decide +kernel
theorem dX6_finish_91 : decode prog_8_method_18_code 91 = .ok (.getfield 90, 3) := by decide +kernel
theorem dX6_finish_94 : decode prog_8_method_18_code 94 = .ok (.iconst 1, 1) := by decide +kernel
theorem dX6_finish_95 : decode prog_8_method_18_code 95 = .ok (.iadd, 1) := by decide +kernel
theorem dX6_finish_96 : decode prog_8_method_18_code 96 = .ok (.putfield 90, 3) := by decide +kernel
theorem dX6_finish_99 : decode prog_8_method_18_code 99 = .ok (.return_, 1) := by decide +kernel
theorem dX6_read_0 : decode prog_8_method_29_code 0 = .ok (.iload_n 1, 1) := by decide +kernel
theorem dX6_read_1 : decode prog_8_method_29_code 1 = .ok (.ifCond .lt 11, 3) := by decide +kernel
theorem dX6_read_12 : decode prog_8_method_29_code 12 = .ok (.bipush (-2), 2) := by decide +kernel
theorem dX6_read_14 : decode prog_8_method_29_code 14 = .ok (.ireturn, 1) := by decide +kernel
theorem dX6_read_4 : decode prog_8_method_29_code 4 = .ok (.iload_n 1, 1) := by decide +kernel
theorem dX6_read_5 : decode prog_8_method_29_code 5 = .ok (.aload_n 0, 1) := by decide +kernel
theorem dX6_read_6 : decode prog_8_method_29_code 6 = .ok (.getfield 48, 3) := by decide +kernel
theorem dX6_read_9 : decode prog_8_method_29_code 9 = .ok (.if_icmp .le 6, 3) := by decide +kernel
theorem dX6_read_15 : decode prog_8_method_29_code 15 = .ok (.aload_n 0, 1) := by decide +kernel
theorem dX6_read_16 : decode prog_8_method_29_code 16 = .ok (.iconst 0, 1) := by decide +kernel
theorem dX6_read_17 : decode prog_8_method_29_code 17 = .ok (.putfield 13, 3) := by decide +kernel
theorem dX6_read_20 : decode prog_8_method_29_code 20 = .ok (.aload_n 0, 1) := by decide +kernel
theorem dX6_read_21 : decode prog_8_method_29_code 21 = .ok (.iconst (-1), 1) := by decide +kernel
theorem dX6_read_22 : decode prog_8_method_29_code 22 = .ok (.putfield 17, 3) := by decide +kernel
theorem dX6_read_25 : decode prog_8_method_29_code 25 = .ok (.aload_n 0, 1) := by decide +kernel
theorem dX6_read_26 : decode prog_8_method_29_code 26 = .ok (.iconst 0, 1) := by decide +kernel
theorem dX6_read_27 : decode prog_8_method_29_code 27 = .ok (.putfield 90, 3) := by decide +kernel
theorem dX6_read_30 : decode prog_8_method_29_code 30 = .ok (.aload_n 0, 1) := by decide +kernel
theorem dX6_read_31 : decode prog_8_method_29_code 31 = .ok (.iconst 0, 1) := by decide +kernel
theorem dX6_read_32 : decode prog_8_method_29_code 32 = .ok (.putfield 87, 3) := by decide +kernel
theorem dX6_read_35 : decode prog_8_method_29_code 35 = .ok (.aload_n 0, 1) := by decide +kernel
theorem dX6_read_36 : decode prog_8_method_29_code 36 = .ok (.iconst 0, 1) := by decide +kernel
theorem dX6_read_37 : decode prog_8_method_29_code 37 = .ok (.putfield 93, 3) := by decide +kernel
theorem dX6_read_40 : decode prog_8_method_29_code 40 = .ok (.aload_n 0, 1) := by decide +kernel
theorem dX6_read_41 : decode prog_8_method_29_code 41 = .ok (.iconst 0, 1) := by decide +kernel
theorem dX6_read_42 : decode prog_8_method_29_code 42 = .ok (.putfield 170, 3) := by decide +kernel
theorem dX6_read_45 : decode prog_8_method_29_code 45 = .ok (.iconst 0, 1) := by decide +kernel
theorem dX6_read_46 : decode prog_8_method_29_code 46 = .ok (.istore_n 2, 1) := by decide +kernel
theorem dX6_read_47 : decode prog_8_method_29_code 47 = .ok (.aload_n 0, 1) := by decide +kernel
theorem dX6_read_48 : decode prog_8_method_29_code 48 = .ok (.getfield 170, 3) := by decide +kernel
theorem dX6_read_51 : decode prog_8_method_29_code 51 = .ok (.iload_n 1, 1) := by decide +kernel
theorem dX6_read_52 : decode prog_8_method_29_code 52 = .ok (.if_icmp .ge 121, 3) := by decide +kernel
theorem dX6_read_55 : decode prog_8_method_29_code 55 = .ok (.aload_n 0, 1) := by decide +kernel
theorem dX6_read_56 : decode prog_8_method_29_code 56 = .ok (.getfield 13, 3) := by decide +kernel
theorem dX6_read_59 : decode prog_8_method_29_code 59 = .ok (.ifCond .ne 114, 3) := by decide +kernel
theorem dX6_read_62 : decode prog_8_method_29_code 62 = .ok (.aload_n 0, 1) := by decide +kernel
theorem dX6_read_63 : decode prog_8_method_29_code 63 = .ok (.getfield 7, 3) := by decide +kernel
theorem dX6_read_66 : decode prog_8_method_29_code 66 = .ok (.aload_n 0, 1) := by decide +kernel
theorem dX6_read_67 : decode prog_8_method_29_code 67 = .ok (.getfield 170, 3) := by decide +kernel
theorem dX6_read_70 : decode prog_8_method_29_code 70 = .ok (.iaload, 1) := by decide +kernel
theorem dX6_read_71 : decode prog_8_method_29_code 71 = .ok (.istore_n 3, 1) := by decide +kernel
theorem dX6_read_72 : decode prog_8_method_29_code 72 = .ok (.aload_n 0, 1) := by decide +kernel
theorem dX6_read_73 : decode prog_8_method_29_code 73 = .ok (.aload_n 0, 1) := by decide +kernel
theorem dX6_read_74 : decode prog_8_method_29_code 74 = .ok (.getfield 170, 3) := by decide +kernel
theorem dX6_read_77 : decode prog_8_method_29_code 77 = .ok (.putfield 55, 3) := by decide +kernel
theorem dX6_read_80 : decode prog_8_method_29_code 80 = .ok (.aload_n 0, 1) := by decide +kernel
theorem dX6_read_81 : decode prog_8_method_29_code 81 = .ok (.dup, 1) := by decide +kernel
theorem dX6_read_82 : decode prog_8_method_29_code 82 = .ok (.getfield 170, 3) := by decide +kernel
theorem dX6_read_85 : decode prog_8_method_29_code 85 = .ok (.iconst 1, 1) := by decide +kernel
theorem dX6_read_86 : decode prog_8_method_29_code 86 = .ok (.iadd, 1) := by decide +kernel
theorem dX6_read_87 : decode prog_8_method_29_code 87 = .ok (.putfield 170, 3) := by decide +kernel
theorem dX6_read_90 : decode prog_8_method_29_code 90 = .ok (.iload_n 3, 1) := by decide +kernel
theorem dX6_read_91 : decode prog_8_method_29_code 91 = .ok (.bipush 10, 2) := by decide +kernel
theorem dX6_read_93 : decode prog_8_method_29_code 93 = .ok (.if_icmp .eq 27, 3) := by decide +kernel
theorem dX6_read_96 : decode prog_8_method_29_code 96 = .ok (.iload_n 3, 1) := by decide +kernel
theorem dX6_read_97 : decode prog_8_method_29_code 97 = .ok (.bipush 32, 2) := by decide +kernel
theorem dX6_read_99 : decode prog_8_method_29_code 99 = .ok (.if_icmp .lt 9, 3) := by decide +kernel
theorem dX6_read_102 : decode prog_8_method_29_code 102 = .ok (.iload_n 3, 1) := by decide +kernel
theorem dX6_read_103 : decode prog_8_method_29_code 103 = .ok (.bipush 126, 2) := by decide +kernel
theorem dX6_read_105 : decode prog_8_method_29_code 105 = .ok (.if_icmp .le 15, 3) := by decide +kernel
theorem dX6_read_108 : decode prog_8_method_29_code 108 = .ok (.aload_n 0, 1) := by decide +kernel
theorem dX6_read_109 : decode prog_8_method_29_code 109 = .ok (.iconst 1, 1) := by decide +kernel
theorem dX6_read_110 : decode prog_8_method_29_code 110 = .ok (.aload_n 0, 1) := by decide +kernel
theorem dX6_read_111 : decode prog_8_method_29_code 111 = .ok (.getfield 55, 3) := by decide +kernel
theorem dX6_read_114 : decode prog_8_method_29_code 114 = .ok (.invokevirtual 100, 3) := by decide +kernel
theorem dX6_read_117 : decode prog_8_method_29_code 117 = .ok (.goto 53, 3) := by decide +kernel
theorem dX6_read_170 : decode prog_8_method_29_code 170 = .ok (.goto (-123), 3) := by decide +kernel
theorem dX6_read_120 : decode prog_8_method_29_code 120 = .ok (.iload_n 3, 1) := by decide +kernel
theorem dX6_read_121 : decode prog_8_method_29_code 121 = .ok (.bipush 10, 2) := by decide +kernel
theorem dX6_read_123 : decode prog_8_method_29_code 123 = .ok (.if_icmp .ne 16, 3) := by decide +kernel
theorem dX6_read_139 : decode prog_8_method_29_code 139 = .ok (.iload_n 2, 1) := by decide +kernel
theorem dX6_read_140 : decode prog_8_method_29_code 140 = .ok (.ifCond .ne 14, 3) := by decide +kernel
theorem dX6_read_143 : decode prog_8_method_29_code 143 = .ok (.iload_n 3, 1) := by decide +kernel
theorem dX6_read_144 : decode prog_8_method_29_code 144 = .ok (.bipush 35, 2) := by decide +kernel
theorem dX6_read_146 : decode prog_8_method_29_code 146 = .ok (.if_icmp .ne 8, 3) := by decide +kernel
theorem dX6_read_149 : decode prog_8_method_29_code 149 = .ok (.iconst 1, 1) := by decide +kernel
theorem dX6_read_150 : decode prog_8_method_29_code 150 = .ok (.istore_n 2, 1) := by decide +kernel
theorem dX6_read_151 : decode prog_8_method_29_code 151 = .ok (.goto 19, 3) := by decide +kernel
theorem dX6_read_126 : decode prog_8_method_29_code 126 = .ok (.aload_n 0, 1) := by decide +kernel
theorem dX6_read_127 : decode prog_8_method_29_code 127 = .ok (.aload_n 0, 1) := by decide +kernel
theorem dX6_read_128 : decode prog_8_method_29_code 128 = .ok (.getfield 55, 3) := by decide +kernel
theorem dX6_read_131 : decode prog_8_method_29_code 131 = .ok (.invokevirtual 173, 3) := by decide +kernel
theorem dX6_read_134 : decode prog_8_method_29_code 134 = .ok (.iconst 0, 1) := by decide +kernel
theorem dX6_read_135 : decode prog_8_method_29_code 135 = .ok (.istore_n 2, 1) := by decide +kernel
theorem dX6_read_136 : decode prog_8_method_29_code 136 = .ok (.goto 34, 3) := by decide +kernel
theorem dX6_read_154 : decode prog_8_method_29_code 154 = .ok (.iload_n 2, 1) := by decide +kernel
theorem dX6_read_155 : decode prog_8_method_29_code 155 = .ok (.ifCond .ne 15, 3) := by decide +kernel
theorem dX6_read_158 : decode prog_8_method_29_code 158 = .ok (.iload_n 3, 1) := by decide +kernel
theorem dX6_read_159 : decode prog_8_method_29_code 159 = .ok (.bipush 32, 2) := by decide +kernel
theorem dX6_read_161 : decode prog_8_method_29_code 161 = .ok (.if_icmp .eq 9, 3) := by decide +kernel
theorem dX6_read_164 : decode prog_8_method_29_code 164 = .ok (.aload_n 0, 1) := by decide +kernel
theorem dX6_read_165 : decode prog_8_method_29_code 165 = .ok (.iload_n 3, 1) := by decide +kernel
theorem dX6_read_166 : decode prog_8_method_29_code 166 = .ok (.iload_n 1, 1) := by decide +kernel
theorem dX6_read_167 : decode prog_8_method_29_code 167 = .ok (.invokevirtual 176, 3) := by decide +kernel
theorem dX6_read_173 : decode prog_8_method_29_code 173 = .ok (.aload_n 0, 1) := by decide +kernel
theorem dX6_read_174 : decode prog_8_method_29_code 174 = .ok (.getfield 13, 3) := by decide +kernel
theorem dX6_read_177 : decode prog_8_method_29_code 177 = .ok (.ifCond .ne 8, 3) := by decide +kernel
theorem dX6_read_180 : decode prog_8_method_29_code 180 = .ok (.aload_n 0, 1) := by decide +kernel
theorem dX6_read_181 : decode prog_8_method_29_code 181 = .ok (.iload_n 1, 1) := by decide +kernel
theorem dX6_read_182 : decode prog_8_method_29_code 182 = .ok (.invokevirtual 173, 3) := by decide +kernel
theorem dX6_read_185 : decode prog_8_method_29_code 185 = .ok (.aload_n 0, 1) := by decide +kernel
theorem dX6_read_186 : decode prog_8_method_29_code 186 = .ok (.iconst 0, 1) := by decide +kernel
theorem dX6_read_187 : decode prog_8_method_29_code 187 = .ok (.putfield 48, 3) := by decide +kernel
theorem dX6_read_190 : decode prog_8_method_29_code 190 = .ok (.aload_n 0, 1) := by decide +kernel
theorem dX6_read_191 : decode prog_8_method_29_code 191 = .ok (.getfield 13, 3) := by decide +kernel
theorem dX6_read_194 : decode prog_8_method_29_code 194 = .ok (.ifCond .eq 8, 3) := by decide +kernel
theorem dX6_read_197 : decode prog_8_method_29_code 197 = .ok (.aload_n 0, 1) := by decide +kernel
theorem dX6_read_198 : decode prog_8_method_29_code 198 = .ok (.iconst 0, 1) := by decide +kernel
theorem dX6_read_199 : decode prog_8_method_29_code 199 = .ok (.putfield 90, 3) := by decide +kernel
theorem dX6_read_202 : decode prog_8_method_29_code 202 = .ok (.aload_n 0, 1) := by decide +kernel
theorem dX6_read_203 : decode prog_8_method_29_code 203 = .ok (.getfield 13, 3) := by decide +kernel
theorem dX6_read_206 : decode prog_8_method_29_code 206 = .ok (.ifCond .ne 10, 3) := by decide +kernel
theorem dX6_read_216 : decode prog_8_method_29_code 216 = .ok (.iconst (-1), 1) := by decide +kernel
theorem dX6_read_217 : decode prog_8_method_29_code 217 = .ok (.ireturn, 1) := by decide +kernel
theorem dX6_read_209 : decode prog_8_method_29_code 209 = .ok (.aload_n 0, 1) := by decide +kernel
theorem dX6_read_210 : decode prog_8_method_29_code 210 = .ok (.getfield 90, 3) := by decide +kernel
theorem dX6_read_213 : decode prog_8_method_29_code 213 = .ok (.goto 4, 3) := by decide +kernel
theorem dX6_fault_0 : decode prog_8_method_31_code 0 = .ok (.iload_n 1, 1) := by decide +kernel
theorem dX6_fault_1 : decode prog_8_method_31_code 1 = .ok (.ifCond .ne 10, 3) := by decide +kernel
theorem dX6_fault_11 : decode prog_8_method_31_code 11 = .ok (.iload_n 1, 1) := by decide +kernel
theorem dX6_fault_12 : decode prog_8_method_31_code 12 = .ok (.iconst 1, 1) := by decide +kernel
theorem dX6_fault_13 : decode prog_8_method_31_code 13 = .ok (.if_icmp .ne 17, 3) := by decide +kernel
theorem dX6_fault_30 : decode prog_8_method_31_code 30 = .ok (.iconst (-1), 1) := by decide +kernel
theorem dX6_fault_31 : decode prog_8_method_31_code 31 = .ok (.ireturn, 1) := by decide +kernel
theorem dX6_fault_16 : decode prog_8_method_31_code 16 = .ok (.aload_n 0, 1) := by decide +kernel
theorem dX6_fault_17 : decode prog_8_method_31_code 17 = .ok (.getfield 13, 3) := by decide +kernel
theorem dX6_fault_20 : decode prog_8_method_31_code 20 = .ok (.ifCond .le 10, 3) := by decide +kernel
theorem dX6_fault_23 : decode prog_8_method_31_code 23 = .ok (.aload_n 0, 1) := by decide +kernel
theorem dX6_fault_24 : decode prog_8_method_31_code 24 = .ok (.getfield 17, 3) := by decide +kernel
theorem dX6_fault_27 : decode prog_8_method_31_code 27 = .ok (.goto 4, 3) := by decide +kernel
theorem dX6_fault_4 : decode prog_8_method_31_code 4 = .ok (.aload_n 0, 1) := by decide +kernel
theorem dX6_fault_5 : decode prog_8_method_31_code 5 = .ok (.getfield 13, 3) := by decide +kernel
theorem dX6_fault_8 : decode prog_8_method_31_code 8 = .ok (.goto 23, 3) := by decide +kernel
theorem dX6_line_0 : decode prog_8_method_33_code 0 = .ok (.aload_n 0, 1) := by decide +kernel
theorem dX6_line_1 : decode prog_8_method_33_code 1 = .ok (.iload_n 1, 1) := by decide +kernel
theorem dX6_line_2 : decode prog_8_method_33_code 2 = .ok (.invokevirtual 195, 3) := by decide +kernel
theorem dX6_line_5 : decode prog_8_method_33_code 5 = .ok (.ifCond .ne 5, 3) := by decide +kernel
theorem dX6_line_10 : decode prog_8_method_33_code 10 = .ok (.iload_n 2, 1) := by decide +kernel
theorem dX6_line_11 : decode prog_8_method_33_code 11 = .ok (.ifCond .ne 12, 3) := by decide +kernel
theorem dX6_line_23 : decode prog_8_method_33_code 23 = .ok (.iload_n 2, 1) := by decide +kernel
theorem dX6_line_24 : decode prog_8_method_33_code 24 = .ok (.iconst 1, 1) := by decide +kernel
theorem dX6_line_25 : decode prog_8_method_33_code 25 = .ok (.if_icmp .ne 12, 3) := by decide +kernel
theorem dX6_line_37 : decode prog_8_method_33_code 37 = .ok (.iload_n 2, 1) := by decide +kernel
theorem dX6_line_38 : decode prog_8_method_33_code 38 = .ok (.iconst 2, 1) := by decide +kernel
theorem dX6_line_39 : decode prog_8_method_33_code 39 = .ok (.if_icmp .ne 12, 3) := by decide +kernel
theorem dX6_line_51 : decode prog_8_method_33_code 51 = .ok (.iconst (-1), 1) := by decide +kernel
theorem dX6_line_52 : decode prog_8_method_33_code 52 = .ok (.ireturn, 1) := by decide +kernel
theorem dX6_line_42 : decode prog_8_method_33_code 42 = .ok (.aload_n 0, 1) := by decide +kernel
theorem dX6_line_43 : decode prog_8_method_33_code 43 = .ok (.getfield 29, 3) := by decide +kernel
theorem dX6_line_46 : decode prog_8_method_33_code 46 = .ok (.iload_n 1, 1) := by decide +kernel
theorem dX6_line_47 : decode prog_8_method_33_code 47 = .ok (.iaload, 1) := by decide +kernel
theorem dX6_line_48 : decode prog_8_method_33_code 48 = .ok (.goto 4, 3) := by decide +kernel
theorem dX6_line_28 : decode prog_8_method_33_code 28 = .ok (.aload_n 0, 1) := by decide +kernel
theorem dX6_line_29 : decode prog_8_method_33_code 29 = .ok (.getfield 26, 3) := by decide +kernel
theorem dX6_line_32 : decode prog_8_method_33_code 32 = .ok (.iload_n 1, 1) := by decide +kernel
theorem dX6_line_33 : decode prog_8_method_33_code 33 = .ok (.iaload, 1) := by decide +kernel
theorem dX6_line_34 : decode prog_8_method_33_code 34 = .ok (.goto 18, 3) := by decide +kernel
theorem dX6_line_14 : decode prog_8_method_33_code 14 = .ok (.aload_n 0, 1) := by decide +kernel
theorem dX6_line_15 : decode prog_8_method_33_code 15 = .ok (.getfield 20, 3) := by decide +kernel
theorem dX6_line_18 : decode prog_8_method_33_code 18 = .ok (.iload_n 1, 1) := by decide +kernel
theorem dX6_line_19 : decode prog_8_method_33_code 19 = .ok (.iaload, 1) := by decide +kernel
theorem dX6_line_20 : decode prog_8_method_33_code 20 = .ok (.goto 32, 3) := by decide +kernel
theorem dX6_line_8 : decode prog_8_method_33_code 8 = .ok (.iconst (-1), 1) := by decide +kernel
theorem dX6_line_9 : decode prog_8_method_33_code 9 = .ok (.ireturn, 1) := by decide +kernel
theorem dX6_number1_0 : decode prog_8_method_34_code 0 = .ok (.aload_n 0, 1) := by decide +kernel
theorem dX6_number1_1 : decode prog_8_method_34_code 1 = .ok (.iload_n 1, 1) := by decide +kernel
theorem dX6_number1_2 : decode prog_8_method_34_code 2 = .ok (.invokevirtual 195, 3) := by decide +kernel
theorem dX6_number1_5 : decode prog_8_method_34_code 5 = .ok (.ifCond .eq 17, 3) := by decide +kernel
theorem dX6_number1_22 : decode prog_8_method_34_code 22 = .ok (.lconst 0, 1) := by decide +kernel
theorem dX6_number1_23 : decode prog_8_method_34_code 23 = .ok (.goto 16, 3) := by decide +kernel
theorem dX6_number1_39 : decode prog_8_method_34_code 39 = .ok (.lreturn, 1) := by decide +kernel
theorem dX6_number1_8 : decode prog_8_method_34_code 8 = .ok (.iload_n 2, 1) := by decide +kernel
theorem dX6_number1_9 : decode prog_8_method_34_code 9 = .ok (.ifCond .lt 13, 3) := by decide +kernel
theorem dX6_number1_12 : decode prog_8_method_34_code 12 = .ok (.iload_n 2, 1) := by decide +kernel
theorem dX6_number1_13 : decode prog_8_method_34_code 13 = .ok (.aload_n 0, 1) := by decide +kernel
theorem dX6_number1_14 : decode prog_8_method_34_code 14 = .ok (.getfield 26, 3) := by decide +kernel
theorem dX6_number1_17 : decode prog_8_method_34_code 17 = .ok (.iload_n 1, 1) := by decide +kernel
theorem dX6_number1_18 : decode prog_8_method_34_code 18 = .ok (.iaload, 1) := by decide +kernel
theorem dX6_number1_19 : decode prog_8_method_34_code 19 = .ok (.if_icmp .lt 7, 3) := by decide +kernel
theorem dX6_number1_26 : decode prog_8_method_34_code 26 = .ok (.aload_n 0, 1) := by decide +kernel
theorem dX6_number1_27 : decode prog_8_method_34_code 27 = .ok (.getfield 32, 3) := by decide +kernel
theorem dX6_number1_30 : decode prog_8_method_34_code 30 = .ok (.aload_n 0, 1) := by decide +kernel
theorem dX6_number1_31 : decode prog_8_method_34_code 31 = .ok (.getfield 23, 3) := by decide +kernel
theorem dX6_number1_34 : decode prog_8_method_34_code 34 = .ok (.iload_n 1, 1) := by decide +kernel
theorem dX6_number1_35 : decode prog_8_method_34_code 35 = .ok (.iaload, 1) := by decide +kernel
theorem dX6_number1_36 : decode prog_8_method_34_code 36 = .ok (.iload_n 2, 1) := by decide +kernel
theorem dX6_number1_37 : decode prog_8_method_34_code 37 = .ok (.iadd, 1) := by decide +kernel
theorem dX6_number1_38 : decode prog_8_method_34_code 38 = .ok (.laload, 1) := by decide +kernel
theorem dX6_print_0 : decode prog_8_method_43_code 0 = .ok (.aload_n 0, 1) := by decide +kernel
theorem dX6_print_1 : decode prog_8_method_43_code 1 = .ok (.iload_n 1, 1) := by decide +kernel
theorem dX6_print_2 : decode prog_8_method_43_code 2 = .ok (.invokevirtual 195, 3) := by decide +kernel
theorem dX6_print_5 : decode prog_8_method_43_code 5 = .ok (.ifCond .ne 5, 3) := by decide +kernel
theorem dX6_print_10 : decode prog_8_method_43_code 10 = .ok (.aload_n 0, 1) := by decide +kernel
theorem dX6_print_11 : decode prog_8_method_43_code 11 = .ok (.iconst 0, 1) := by decide +kernel
theorem dX6_print_12 : decode prog_8_method_43_code 12 = .ok (.putfield 205, 3) := by decide +kernel
theorem dX6_print_15 : decode prog_8_method_43_code 15 = .ok (.aload_n 0, 1) := by decide +kernel
theorem dX6_print_16 : decode prog_8_method_43_code 16 = .ok (.iconst 0, 1) := by decide +kernel
theorem dX6_print_17 : decode prog_8_method_43_code 17 = .ok (.putfield 198, 3) := by decide +kernel
theorem dX6_print_20 : decode prog_8_method_43_code 20 = .ok (.aload_n 0, 1) := by decide +kernel
theorem dX6_print_21 : decode prog_8_method_43_code 21 = .ok (.aload_n 0, 1) := by decide +kernel
theorem dX6_print_22 : decode prog_8_method_43_code 22 = .ok (.getfield 20, 3) := by decide +kernel
theorem dX6_print_25 : decode prog_8_method_43_code 25 = .ok (.iload_n 1, 1) := by decide +kernel
theorem dX6_print_26 : decode prog_8_method_43_code 26 = .ok (.iaload, 1) := by decide +kernel
theorem dX6_print_27 : decode prog_8_method_43_code 27 = .ok (.invokevirtual 224, 3) := by decide +kernel
theorem dX6_print_8 : decode prog_8_method_43_code 8 = .ok (.iconst (-1), 1) := by decide +kernel
theorem dX6_print_9 : decode prog_8_method_43_code 9 = .ok (.ireturn, 1) := by decide +kernel
theorem dX6_printed_0 : decode prog_8_method_44_code 0 = .ok (.iload_n 1, 1) := by decide +kernel
theorem dX6_printed_1 : decode prog_8_method_44_code 1 = .ok (.ifCond .lt 11, 3) := by decide +kernel
theorem dX6_printed_12 : decode prog_8_method_44_code 12 = .ok (.iconst (-1), 1) := by decide +kernel
theorem dX6_printed_13 : decode prog_8_method_44_code 13 = .ok (.goto 9, 3) := by decide +kernel
theorem dX6_printed_22 : decode prog_8_method_44_code 22 = .ok (.ireturn, 1) := by decide +kernel
theorem dX6_printed_4 : decode prog_8_method_44_code 4 = .ok (.iload_n 1, 1) := by decide +kernel
theorem dX6_printed_5 : decode prog_8_method_44_code 5 = .ok (.aload_n 0, 1) := by decide +kernel
theorem dX6_printed_6 : decode prog_8_method_44_code 6 = .ok (.getfield 202, 3) := by decide +kernel
theorem dX6_printed_9 : decode prog_8_method_44_code 9 = .ok (.if_icmp .lt 7, 3) := by decide +kernel
theorem dX6_printed_16 : decode prog_8_method_44_code 16 = .ok (.aload_n 0, 1) := by decide +kernel
theorem dX6_printed_17 : decode prog_8_method_44_code 17 = .ok (.getfield 36, 3) := by decide +kernel
theorem dX6_printed_20 : decode prog_8_method_44_code 20 = .ok (.iload_n 1, 1) := by decide +kernel
theorem dX6_printed_21 : decode prog_8_method_44_code 21 = .ok (.iaload, 1) := by decide +kernel
theorem dX6_wipe_0 : decode prog_8_method_45_code 0 = .ok (.aload_n 0, 1) := by decide +kernel
theorem dX6_wipe_1 : decode prog_8_method_45_code 1 = .ok (.getfield 202, 3) := by decide +kernel
theorem dX6_wipe_4 : decode prog_8_method_45_code 4 = .ok (.istore_n 2, 1) := by decide +kernel
theorem dX6_wipe_5 : decode prog_8_method_45_code 5 = .ok (.iload_n 1, 1) := by decide +kernel
theorem dX6_wipe_6 : decode prog_8_method_45_code 6 = .ok (.ifCond .eq 39, 3) := by decide +kernel
theorem dX6_wipe_9 : decode prog_8_method_45_code 9 = .ok (.iconst 0, 1) := by decide +kernel
theorem dX6_wipe_10 : decode prog_8_method_45_code 10 = .ok (.istore_n 3, 1) := by decide +kernel
theorem dX6_wipe_11 : decode prog_8_method_45_code 11 = .ok (.iload_n 3, 1) := by decide +kernel
theorem dX6_wipe_12 : decode prog_8_method_45_code 12 = .ok (.aload_n 0, 1) := by decide +kernel
theorem dX6_wipe_13 : decode prog_8_method_45_code 13 = .ok (.getfield 202, 3) := by decide +kernel
theorem dX6_wipe_16 : decode prog_8_method_45_code 16 = .ok (.if_icmp .ge 21, 3) := by decide +kernel
theorem dX6_wipe_19 : decode prog_8_method_45_code 19 = .ok (.aload_n 0, 1) := by decide +kernel
theorem dX6_wipe_20 : decode prog_8_method_45_code 20 = .ok (.getfield 7, 3) := by decide +kernel
theorem dX6_wipe_23 : decode prog_8_method_45_code 23 = .ok (.iload_n 3, 1) := by decide +kernel
theorem dX6_wipe_24 : decode prog_8_method_45_code 24 = .ok (.aload_n 0, 1) := by decide +kernel
theorem dX6_wipe_25 : decode prog_8_method_45_code 25 = .ok (.getfield 36, 3) := by decide +kernel
theorem dX6_wipe_28 : decode prog_8_method_45_code 28 = .ok (.iload_n 3, 1) := by decide +kernel
theorem dX6_wipe_29 : decode prog_8_method_45_code 29 = .ok (.iaload, 1) := by decide +kernel
theorem dX6_wipe_30 : decode prog_8_method_45_code 30 = .ok (.iastore, 1) := by decide +kernel
theorem dX6_wipe_31 : decode prog_8_method_45_code 31 = .ok (.iinc 3 1, 3) := by decide +kernel
theorem dX6_wipe_34 : decode prog_8_method_45_code 34 = .ok (.goto (-23), 3) := by decide +kernel
theorem dX6_wipe_37 : decode prog_8_method_45_code 37 = .ok (.aload_n 0, 1) := by decide +kernel
theorem dX6_wipe_38 : decode prog_8_method_45_code 38 = .ok (.aload_n 0, 1) := by decide +kernel
theorem dX6_wipe_39 : decode prog_8_method_45_code 39 = .ok (.getfield 202, 3) := by decide +kernel
theorem dX6_wipe_42 : decode prog_8_method_45_code 42 = .ok (.putfield 48, 3) := by decide +kernel
theorem dX6_wipe_45 : decode prog_8_method_45_code 45 = .ok (.aload_n 0, 1) := by decide +kernel
theorem dX6_wipe_46 : decode prog_8_method_45_code 46 = .ok (.iconst 0, 1) := by decide +kernel
theorem dX6_wipe_47 : decode prog_8_method_45_code 47 = .ok (.putfield 202, 3) := by decide +kernel
theorem dX6_wipe_50 : decode prog_8_method_45_code 50 = .ok (.iload_n 2, 1) := by decide +kernel
theorem dX6_wipe_51 : decode prog_8_method_45_code 51 = .ok (.ireturn, 1) := by decide +kernel
theorem dX0_init_0 : decode prog_2_method_1_code 0 = .ok (.aload_n 0, 1) := by decide +kernel
theorem dX0_init_1 : decode prog_2_method_1_code 1 = .ok (.invokespecial 3, 3) := by decide +kernel
theorem dX0_init_4 : decode prog_2_method_1_code 4 = .ok (.aload_n 0, 1) := by decide +kernel
theorem dX0_init_5 : decode prog_2_method_1_code 5 = .ok (.sipush 4000, 3) := by decide +kernel
theorem dX0_init_8 : decode prog_2_method_1_code 8 = .ok (.newarray .byte, 2) := by decide +kernel
theorem dX0_init_10 : decode prog_2_method_1_code 10 = .ok (.putfield 9, 3) := by decide +kernel
theorem dX0_init_13 : decode prog_2_method_1_code 13 = .ok (.aload_n 0, 1) := by decide +kernel
theorem dX0_init_14 : decode prog_2_method_1_code 14 = .ok (.iconst 0, 1) := by decide +kernel
theorem dX0_init_15 : decode prog_2_method_1_code 15 = .ok (.putfield 15, 3) := by decide +kernel
theorem dX0_init_18 : decode prog_2_method_1_code 18 = .ok (.aload_n 0, 1) := by decide +kernel
theorem dX0_init_19 : decode prog_2_method_1_code 19 = .ok (.iconst 0, 1) := by decide +kernel
theorem dX0_init_20 : decode prog_2_method_1_code 20 = .ok (.putfield 19, 3) := by decide +kernel
theorem dX0_init_23 : decode prog_2_method_1_code 23 = .ok (.return_, 1) := by decide +kernel
theorem dX1_init_0 : decode prog_3_method_1_code 0 = .ok (.aload_n 0, 1) := by decide +kernel
theorem dX1_init_1 : decode prog_3_method_1_code 1 = .ok (.invokespecial 3, 3) := by decide +kernel
theorem dX1_init_4 : decode prog_3_method_1_code 4 = .ok (.aload_n 0, 1) := by decide +kernel
theorem dX1_init_5 : decode prog_3_method_1_code 5 = .ok (.bipush 64, 2) := by decide +kernel
theorem dX1_init_7 : decode prog_3_method_1_code 7 = .ok (.newarray .int, 2) := by decide +kernel
theorem dX1_init_9 : decode prog_3_method_1_code 9 = .ok (.putfield 9, 3) := by decide +kernel
theorem dX1_init_12 : decode prog_3_method_1_code 12 = .ok (.aload_n 0, 1) := by decide +kernel
theorem dX1_init_13 : decode prog_3_method_1_code 13 = .ok (.bipush 64, 2) := by decide +kernel
theorem dX1_init_15 : decode prog_3_method_1_code 15 = .ok (.newarray .int, 2) := by decide +kernel
theorem dX1_init_17 : decode prog_3_method_1_code 17 = .ok (.putfield 15, 3) := by decide +kernel
theorem dX1_init_20 : decode prog_3_method_1_code 20 = .ok (.aload_n 0, 1) := by decide +kernel
theorem dX1_init_21 : decode prog_3_method_1_code 21 = .ok (.bipush 64, 2) := by decide +kernel
theorem dX1_init_23 : decode prog_3_method_1_code 23 = .ok (.newarray .int, 2) := by decide +kernel
theorem dX1_init_25 : decode prog_3_method_1_code 25 = .ok (.putfield 18, 3) := by decide +kernel
theorem dX1_init_28 : decode prog_3_method_1_code 28 = .ok (.aload_n 0, 1) := by decide +kernel
theorem dX1_init_29 : decode prog_3_method_1_code 29 = .ok (.bipush 64, 2) := by decide +kernel
theorem dX1_init_31 : decode prog_3_method_1_code 31 = .ok (.newarray .int, 2) := by decide +kernel
theorem dX1_init_33 : decode prog_3_method_1_code 33 = .ok (.putfield 21, 3) := by decide +kernel
theorem dX1_init_36 : decode prog_3_method_1_code 36 = .ok (.aload_n 0, 1) := by decide +kernel
theorem dX1_init_37 : decode prog_3_method_1_code 37 = .ok (.sipush 4000, 3) := by decide +kernel
theorem dX1_init_40 : decode prog_3_method_1_code 40 = .ok (.newarray .long, 2) := by decide +kernel
theorem dX1_init_42 : decode prog_3_method_1_code 42 = .ok (.putfield 24, 3) := by decide +kernel
theorem dX1_init_45 : decode prog_3_method_1_code 45 = .ok (.aload_n 0, 1) := by decide +kernel
theorem dX1_init_46 : decode prog_3_method_1_code 46 = .ok (.iconst 0, 1) := by decide +kernel
theorem dX1_init_47 : decode prog_3_method_1_code 47 = .ok (.putfield 28, 3) := by decide +kernel
theorem dX1_init_50 : decode prog_3_method_1_code 50 = .ok (.aload_n 0, 1) := by decide +kernel
theorem dX1_init_51 : decode prog_3_method_1_code 51 = .ok (.iconst 0, 1) := by decide +kernel
theorem dX1_init_52 : decode prog_3_method_1_code 52 = .ok (.putfield 32, 3) := by decide +kernel
theorem dX1_init_55 : decode prog_3_method_1_code 55 = .ok (.return_, 1) := by decide +kernel
theorem dX2_init_0 : decode prog_6_method_1_code 0 = .ok (.aload_n 0, 1) := by decide +kernel
theorem dX2_init_1 : decode prog_6_method_1_code 1 = .ok (.invokespecial 3, 3) := by decide +kernel
theorem dX2_init_4 : decode prog_6_method_1_code 4 = .ok (.aload_n 0, 1) := by decide +kernel
theorem dX2_init_5 : decode prog_6_method_1_code 5 = .ok (.iconst 0, 1) := by decide +kernel
theorem dX2_init_6 : decode prog_6_method_1_code 6 = .ok (.putfield 9, 3) := by decide +kernel
theorem dX2_init_9 : decode prog_6_method_1_code 9 = .ok (.aload_n 0, 1) := by decide +kernel
theorem dX2_init_10 : decode prog_6_method_1_code 10 = .ok (.iconst 0, 1) := by decide +kernel
theorem dX2_init_11 : decode prog_6_method_1_code 11 = .ok (.putfield 15, 3) := by decide +kernel
theorem dX2_init_14 : decode prog_6_method_1_code 14 = .ok (.aload_n 0, 1) := by decide +kernel
theorem dX2_init_15 : decode prog_6_method_1_code 15 = .ok (.iconst 0, 1) := by decide +kernel
theorem dX2_init_16 : decode prog_6_method_1_code 16 = .ok (.putfield 18, 3) := by decide +kernel
theorem dX2_init_19 : decode prog_6_method_1_code 19 = .ok (.aload_n 0, 1) := by decide +kernel
theorem dX2_init_20 : decode prog_6_method_1_code 20 = .ok (.iconst 0, 1) := by decide +kernel
theorem dX2_init_21 : decode prog_6_method_1_code 21 = .ok (.putfield 21, 3) := by decide +kernel
theorem dX2_init_24 : decode prog_6_method_1_code 24 = .ok (.aload_n 0, 1) := by decide +kernel
theorem dX2_init_25 : decode prog_6_method_1_code 25 = .ok (.lconst 0, 1) := by decide +kernel
theorem dX2_init_26 : decode prog_6_method_1_code 26 = .ok (.putfield 24, 3) := by decide +kernel
theorem dX2_init_29 : decode prog_6_method_1_code 29 = .ok (.aload_n 0, 1) := by decide +kernel
theorem dX2_init_30 : decode prog_6_method_1_code 30 = .ok (.iconst 0, 1) := by decide +kernel
theorem dX2_init_31 : decode prog_6_method_1_code 31 = .ok (.putfield 28, 3) := by decide +kernel
theorem dX2_init_34 : decode prog_6_method_1_code 34 = .ok (.aload_n 0, 1) := by decide +kernel
theorem dX2_init_35 : decode prog_6_method_1_code 35 = .ok (.aload_n 1, 1) := by decide +kernel
theorem dX2_init_36 : decode prog_6_method_1_code 36 = .ok (.getfield 31, 3) := by decide +kernel
theorem dX2_init_39 : decode prog_6_method_1_code 39 = .ok (.putfield 37, 3) := by decide +kernel
theorem dX2_init_42 : decode prog_6_method_1_code 42 = .ok (.return_, 1) := by decide +kernel
theorem dX3_init_0 : decode prog_5_method_1_code 0 = .ok (.aload_n 0, 1) := by decide +kernel
theorem dX3_init_1 : decode prog_5_method_1_code 1 = .ok (.invokespecial 3, 3) := by decide +kernel
theorem dX3_init_4 : decode prog_5_method_1_code 4 = .ok (.aload_n 0, 1) := by decide +kernel
theorem dX3_init_5 : decode prog_5_method_1_code 5 = .ok (.iconst 0, 1) := by decide +kernel
theorem dX3_init_6 : decode prog_5_method_1_code 6 = .ok (.putfield 9, 3) := by decide +kernel
theorem dX3_init_9 : decode prog_5_method_1_code 9 = .ok (.aload_n 0, 1) := by decide +kernel
theorem dX3_init_10 : decode prog_5_method_1_code 10 = .ok (.iconst (-1), 1) := by decide +kernel
theorem dX3_init_11 : decode prog_5_method_1_code 11 = .ok (.putfield 15, 3) := by decide +kernel
theorem dX3_init_14 : decode prog_5_method_1_code 14 = .ok (.aload_n 0, 1) := by decide +kernel
theorem dX3_init_15 : decode prog_5_method_1_code 15 = .ok (.new 18, 3) := by decide +kernel
theorem dX3_init_18 : decode prog_5_method_1_code 18 = .ok (.dup, 1) := by decide +kernel
theorem dX3_init_19 : decode prog_5_method_1_code 19 = .ok (.aload_n 1, 1) := by decide +kernel
theorem dX3_init_20 : decode prog_5_method_1_code 20 = .ok (.invokespecial 20, 3) := by decide +kernel
theorem dX3_init_23 : decode prog_5_method_1_code 23 = .ok (.putfield 23, 3) := by decide +kernel
theorem dX3_init_26 : decode prog_5_method_1_code 26 = .ok (.aload_n 0, 1) := by decide +kernel
theorem dX3_init_27 : decode prog_5_method_1_code 27 = .ok (.aload_n 2, 1) := by decide +kernel
theorem dX3_init_28 : decode prog_5_method_1_code 28 = .ok (.putfield 27, 3) := by decide +kernel
theorem dX3_init_31 : decode prog_5_method_1_code 31 = .ok (.return_, 1) := by decide +kernel
theorem dX4_init_0 : decode prog_4_method_1_code 0 = .ok (.aload_n 0, 1) := by decide +kernel
theorem dX4_init_1 : decode prog_4_method_1_code 1 = .ok (.invokespecial 3, 3) := by decide +kernel
theorem dX4_init_4 : decode prog_4_method_1_code 4 = .ok (.aload_n 0, 1) := by decide +kernel
theorem dX4_init_5 : decode prog_4_method_1_code 5 = .ok (.aload_n 1, 1) := by decide +kernel
theorem dX4_init_6 : decode prog_4_method_1_code 6 = .ok (.putfield 9, 3) := by decide +kernel
theorem dX4_init_9 : decode prog_4_method_1_code 9 = .ok (.aload_n 0, 1) := by decide +kernel
theorem dX4_init_10 : decode prog_4_method_1_code 10 = .ok (.aload_n 2, 1) := by decide +kernel
theorem dX4_init_11 : decode prog_4_method_1_code 11 = .ok (.putfield 15, 3) := by decide +kernel
theorem dX4_init_14 : decode prog_4_method_1_code 14 = .ok (.return_, 1) := by decide +kernel
theorem dX5_init_0 : decode prog_1_method_1_code 0 = .ok (.aload_n 0, 1) := by decide +kernel
theorem dX5_init_1 : decode prog_1_method_1_code 1 = .ok (.invokespecial 1, 3) := by decide +kernel
theorem dX5_init_4 : decode prog_1_method_1_code 4 = .ok (.aload_n 0, 1) := by decide +kernel
theorem dX5_init_5 : decode prog_1_method_1_code 5 = .ok (.new 7, 3) := by decide +kernel
theorem dX5_init_8 : decode prog_1_method_1_code 8 = .ok (.dup, 1) := by decide +kernel
theorem dX5_init_9 : decode prog_1_method_1_code 9 = .ok (.invokespecial 9, 3) := by decide +kernel
theorem dX5_init_12 : decode prog_1_method_1_code 12 = .ok (.putfield 10, 3) := by decide +kernel
theorem dX5_init_15 : decode prog_1_method_1_code 15 = .ok (.aload_n 0, 1) := by decide +kernel
theorem dX5_init_16 : decode prog_1_method_1_code 16 = .ok (.new 7, 3) := by decide +kernel
theorem dX5_init_19 : decode prog_1_method_1_code 19 = .ok (.dup, 1) := by decide +kernel
theorem dX5_init_20 : decode prog_1_method_1_code 20 = .ok (.invokespecial 9, 3) := by decide +kernel
theorem dX5_init_23 : decode prog_1_method_1_code 23 = .ok (.putfield 16, 3) := by decide +kernel
theorem dX5_init_26 : decode prog_1_method_1_code 26 = .ok (.aload_n 0, 1) := by decide +kernel
theorem dX5_init_27 : decode prog_1_method_1_code 27 = .ok (.new 19, 3) := by decide +kernel
theorem dX5_init_30 : decode prog_1_method_1_code 30 = .ok (.dup, 1) := by decide +kernel
theorem dX5_init_31 : decode prog_1_method_1_code 31 = .ok (.invokespecial 21, 3) := by decide +kernel
theorem dX5_init_34 : decode prog_1_method_1_code 34 = .ok (.putfield 22, 3) := by decide +kernel
theorem dX5_init_37 : decode prog_1_method_1_code 37 = .ok (.aload_n 0, 1) := by decide +kernel
theorem dX5_init_38 : decode prog_1_method_1_code 38 = .ok (.new 26, 3) := by decide +kernel
theorem dX5_init_41 : decode prog_1_method_1_code 41 = .ok (.dup, 1) := by decide +kernel
theorem dX5_init_42 : decode prog_1_method_1_code 42 = .ok (.aload_n 0, 1) := by decide +kernel
theorem dX5_init_43 : decode prog_1_method_1_code 43 = .ok (.getfield 10, 3) := by decide +kernel
theorem dX5_init_46 : decode prog_1_method_1_code 46 = .ok (.aload_n 0, 1) := by decide +kernel
theorem dX5_init_47 : decode prog_1_method_1_code 47 = .ok (.getfield 22, 3) := by decide +kernel
theorem dX5_init_50 : decode prog_1_method_1_code 50 = .ok (.invokespecial 28, 3) := by decide +kernel
theorem dX5_init_53 : decode prog_1_method_1_code 53 = .ok (.putfield 31, 3) := by decide +kernel
theorem dX5_init_56 : decode prog_1_method_1_code 56 = .ok (.aload_n 0, 1) := by decide +kernel
theorem dX5_init_57 : decode prog_1_method_1_code 57 = .ok (.new 35, 3) := by decide +kernel
theorem dX5_init_60 : decode prog_1_method_1_code 60 = .ok (.dup, 1) := by decide +kernel
theorem dX5_init_61 : decode prog_1_method_1_code 61 = .ok (.aload_n 0, 1) := by decide +kernel
theorem dX5_init_62 : decode prog_1_method_1_code 62 = .ok (.getfield 16, 3) := by decide +kernel
theorem dX5_init_65 : decode prog_1_method_1_code 65 = .ok (.aload_n 0, 1) := by decide +kernel
theorem dX5_init_66 : decode prog_1_method_1_code 66 = .ok (.getfield 22, 3) := by decide +kernel
theorem dX5_init_69 : decode prog_1_method_1_code 69 = .ok (.invokespecial 37, 3) := by decide +kernel
theorem dX5_init_72 : decode prog_1_method_1_code 72 = .ok (.putfield 38, 3) := by decide +kernel
theorem dX5_init_75 : decode prog_1_method_1_code 75 = .ok (.aload_n 0, 1) := by decide +kernel
theorem dX5_init_76 : decode prog_1_method_1_code 76 = .ok (.iconst 0, 1) := by decide +kernel
theorem dX5_init_77 : decode prog_1_method_1_code 77 = .ok (.putfield 42, 3) := by decide +kernel
theorem dX5_init_80 : decode prog_1_method_1_code 80 = .ok (.return_, 1) := by decide +kernel
theorem dX6_init_0 : decode prog_8_method_1_code 0 = .ok (.aload_n 0, 1) := by decide +kernel
theorem dX6_init_1 : decode prog_8_method_1_code 1 = .ok (.invokespecial 1, 3) := by decide +kernel
theorem dX6_init_4 : decode prog_8_method_1_code 4 = .ok (.aload_n 0, 1) := by decide +kernel
theorem dX6_init_5 : decode prog_8_method_1_code 5 = .ok (.sipush 4000, 3) := by decide +kernel
theorem dX6_init_8 : decode prog_8_method_1_code 8 = .ok (.newarray .int, 2) := by decide +kernel
theorem dX6_init_10 : decode prog_8_method_1_code 10 = .ok (.putfield 7, 3) := by decide +kernel
theorem dX6_init_13 : decode prog_8_method_1_code 13 = .ok (.aload_n 0, 1) := by decide +kernel
theorem dX6_init_14 : decode prog_8_method_1_code 14 = .ok (.iconst (-1), 1) := by decide +kernel
theorem dX6_init_15 : decode prog_8_method_1_code 15 = .ok (.putfield 13, 3) := by decide +kernel
theorem dX6_init_18 : decode prog_8_method_1_code 18 = .ok (.aload_n 0, 1) := by decide +kernel
theorem dX6_init_19 : decode prog_8_method_1_code 19 = .ok (.iconst (-1), 1) := by decide +kernel
theorem dX6_init_20 : decode prog_8_method_1_code 20 = .ok (.putfield 17, 3) := by decide +kernel
theorem dX6_init_23 : decode prog_8_method_1_code 23 = .ok (.aload_n 0, 1) := by decide +kernel
theorem dX6_init_24 : decode prog_8_method_1_code 24 = .ok (.bipush 64, 2) := by decide +kernel
theorem dX6_init_26 : decode prog_8_method_1_code 26 = .ok (.newarray .int, 2) := by decide +kernel
theorem dX6_init_28 : decode prog_8_method_1_code 28 = .ok (.putfield 20, 3) := by decide +kernel
theorem dX6_init_31 : decode prog_8_method_1_code 31 = .ok (.aload_n 0, 1) := by decide +kernel
theorem dX6_init_32 : decode prog_8_method_1_code 32 = .ok (.bipush 64, 2) := by decide +kernel
theorem dX6_init_34 : decode prog_8_method_1_code 34 = .ok (.newarray .int, 2) := by decide +kernel
theorem dX6_init_36 : decode prog_8_method_1_code 36 = .ok (.putfield 23, 3) := by decide +kernel
theorem dX6_init_39 : decode prog_8_method_1_code 39 = .ok (.aload_n 0, 1) := by decide +kernel
theorem dX6_init_40 : decode prog_8_method_1_code 40 = .ok (.bipush 64, 2) := by decide +kernel
theorem dX6_init_42 : decode prog_8_method_1_code 42 = .ok (.newarray .int, 2) := by decide +kernel
theorem dX6_init_44 : decode prog_8_method_1_code 44 = .ok (.putfield 26, 3) := by decide +kernel
theorem dX6_init_47 : decode prog_8_method_1_code 47 = .ok (.aload_n 0, 1) := by decide +kernel
theorem dX6_init_48 : decode prog_8_method_1_code 48 = .ok (.bipush 64, 2) := by decide +kernel
theorem dX6_init_50 : decode prog_8_method_1_code 50 = .ok (.newarray .int, 2) := by decide +kernel
theorem dX6_init_52 : decode prog_8_method_1_code 52 = .ok (.putfield 29, 3) := by decide +kernel
theorem dX6_init_55 : decode prog_8_method_1_code 55 = .ok (.aload_n 0, 1) := by decide +kernel
theorem dX6_init_56 : decode prog_8_method_1_code 56 = .ok (.sipush 4200, 3) := by decide +kernel
theorem dX6_init_59 : decode prog_8_method_1_code 59 = .ok (.newarray .long, 2) := by decide +kernel
theorem dX6_init_61 : decode prog_8_method_1_code 61 = .ok (.putfield 32, 3) := by decide +kernel
theorem dX6_init_64 : decode prog_8_method_1_code 64 = .ok (.aload_n 0, 1) := by decide +kernel
theorem dX6_init_65 : decode prog_8_method_1_code 65 = .ok (.sipush 4000, 3) := by decide +kernel
theorem dX6_init_68 : decode prog_8_method_1_code 68 = .ok (.newarray .int, 2) := by decide +kernel
theorem dX6_init_70 : decode prog_8_method_1_code 70 = .ok (.putfield 36, 3) := by decide +kernel
theorem dX6_init_73 : decode prog_8_method_1_code 73 = .ok (.aload_n 0, 1) := by decide +kernel
theorem dX6_init_74 : decode prog_8_method_1_code 74 = .ok (.sipush 4000, 3) := by decide +kernel
theorem dX6_init_77 : decode prog_8_method_1_code 77 = .ok (.newarray .int, 2) := by decide +kernel
theorem dX6_init_79 : decode prog_8_method_1_code 79 = .ok (.putfield 39, 3) := by decide +kernel
theorem dX6_init_82 : decode prog_8_method_1_code 82 = .ok (.aload_n 0, 1) := by decide +kernel
theorem dX6_init_83 : decode prog_8_method_1_code 83 = .ok (.bipush 20, 2) := by decide +kernel
theorem dX6_init_85 : decode prog_8_method_1_code 85 = .ok (.newarray .int, 2) := by decide +kernel
theorem dX6_init_87 : decode prog_8_method_1_code 87 = .ok (.putfield 42, 3) := by decide +kernel
theorem dX6_init_90 : decode prog_8_method_1_code 90 = .ok (.return_, 1) := by decide +kernel
theorem dL_law_18 : decode code 18 = .ok (.iload_n 3, 1) := by decide +kernel
theorem dL_law_19 : decode code 19 = .ok (.aload_n 0, 1) := by decide +kernel
theorem dL_law_20 : decode code 20 = .ok (.arraylength, 1) := by decide +kernel
theorem dL_law_21 : decode code 21 = .ok (.bipush 6, 2) := by decide +kernel
theorem dL_law_23 : decode code 23 = .ok (.isub, 1) := by decide +kernel
theorem dL_law_24 : decode code 24 = .ok (.if_icmp .gt 323, 3) := by decide +kernel
theorem dL_law_347 : decode code 347 = .ok (.iconst 1, 1) := by decide +kernel
theorem dL_law_348 : decode code 348 = .ok (.ireturn, 1) := by decide +kernel
theorem dL_law_27 : decode code 27 = .ok (.aload_n 0, 1) := by decide +kernel
theorem dL_law_28 : decode code 28 = .ok (.iload_n 3, 1) := by decide +kernel
theorem dL_law_29 : decode code 29 = .ok (.iaload, 1) := by decide +kernel
theorem dL_law_30 : decode code 30 = .ok (.bipush 7, 2) := by decide +kernel
theorem dL_law_32 : decode code 32 = .ok (.iand, 1) := by decide +kernel
theorem dL_law_33 : decode code 33 = .ok (.tableswitch 308 0 7 #[47, 110, 133, 156, 189, 223, 246, 269], 47) := by decide +kernel
theorem dL_law_80 : decode code 80 = .ok (.aload_n 1, 1) := by decide +kernel
theorem dL_law_81 : decode code 81 = .ok (.aload_n 0, 1) := by decide +kernel
theorem dL_law_82 : decode code 82 = .ok (.iload_n 3, 1) := by decide +kernel
theorem dL_law_83 : decode code 83 = .ok (.iconst 1, 1) := by decide +kernel
theorem dL_law_84 : decode code 84 = .ok (.iadd, 1) := by decide +kernel
theorem dL_law_85 : decode code 85 = .ok (.iaload, 1) := by decide +kernel
theorem dL_law_86 : decode code 86 = .ok (.aload_n 0, 1) := by decide +kernel
theorem dL_law_87 : decode code 87 = .ok (.iload_n 3, 1) := by decide +kernel
theorem dL_law_88 : decode code 88 = .ok (.iconst 2, 1) := by decide +kernel
theorem dL_law_89 : decode code 89 = .ok (.iadd, 1) := by decide +kernel
theorem dL_law_90 : decode code 90 = .ok (.iaload, 1) := by decide +kernel
theorem dL_law_91 : decode code 91 = .ok (.aload_n 0, 1) := by decide +kernel
theorem dL_law_92 : decode code 92 = .ok (.iload_n 3, 1) := by decide +kernel
theorem dL_law_93 : decode code 93 = .ok (.iconst 3, 1) := by decide +kernel
theorem dL_law_94 : decode code 94 = .ok (.iadd, 1) := by decide +kernel
theorem dL_law_95 : decode code 95 = .ok (.iaload, 1) := by decide +kernel
theorem dL_law_96 : decode code 96 = .ok (.aload_n 0, 1) := by decide +kernel
theorem dL_law_97 : decode code 97 = .ok (.iload_n 3, 1) := by decide +kernel
theorem dL_law_98 : decode code 98 = .ok (.iconst 4, 1) := by decide +kernel
theorem dL_law_99 : decode code 99 = .ok (.iadd, 1) := by decide +kernel
theorem dL_law_100 : decode code 100 = .ok (.iaload, 1) := by decide +kernel
theorem dL_law_101 : decode code 101 = .ok (.aload_n 0, 1) := by decide +kernel
theorem dL_law_102 : decode code 102 = .ok (.iload_n 3, 1) := by decide +kernel
theorem dL_law_103 : decode code 103 = .ok (.iconst 5, 1) := by decide +kernel
theorem dL_law_104 : decode code 104 = .ok (.iadd, 1) := by decide +kernel
theorem dL_law_105 : decode code 105 = .ok (.iaload, 1) := by decide +kernel
theorem dL_law_106 : decode code 106 = .ok (.invokevirtual 13, 3) := by decide +kernel
theorem dL_law_109 : decode code 109 = .ok (.aload_n 2, 1) := by decide +kernel
theorem dL_law_110 : decode code 110 = .ok (.aload_n 0, 1) := by decide +kernel
theorem dL_law_111 : decode code 111 = .ok (.iload_n 3, 1) := by decide +kernel
theorem dL_law_112 : decode code 112 = .ok (.iconst 1, 1) := by decide +kernel
theorem dL_law_113 : decode code 113 = .ok (.iadd, 1) := by decide +kernel
theorem dL_law_114 : decode code 114 = .ok (.iaload, 1) := by decide +kernel
theorem dL_law_115 : decode code 115 = .ok (.aload_n 0, 1) := by decide +kernel
theorem dL_law_116 : decode code 116 = .ok (.iload_n 3, 1) := by decide +kernel
theorem dL_law_117 : decode code 117 = .ok (.iconst 2, 1) := by decide +kernel
theorem dL_law_118 : decode code 118 = .ok (.iadd, 1) := by decide +kernel
theorem dL_law_119 : decode code 119 = .ok (.iaload, 1) := by decide +kernel
theorem dL_law_120 : decode code 120 = .ok (.aload_n 0, 1) := by decide +kernel
theorem dL_law_121 : decode code 121 = .ok (.iload_n 3, 1) := by decide +kernel
theorem dL_law_122 : decode code 122 = .ok (.iconst 3, 1) := by decide +kernel
theorem dL_law_123 : decode code 123 = .ok (.iadd, 1) := by decide +kernel
theorem dL_law_124 : decode code 124 = .ok (.iaload, 1) := by decide +kernel
theorem dL_law_125 : decode code 125 = .ok (.aload_n 0, 1) := by decide +kernel
theorem dL_law_126 : decode code 126 = .ok (.iload_n 3, 1) := by decide +kernel
theorem dL_law_127 : decode code 127 = .ok (.iconst 4, 1) := by decide +kernel
theorem dL_law_128 : decode code 128 = .ok (.iadd, 1) := by decide +kernel
theorem dL_law_129 : decode code 129 = .ok (.iaload, 1) := by decide +kernel
theorem dL_law_130 : decode code 130 = .ok (.aload_n 0, 1) := by decide +kernel
theorem dL_law_131 : decode code 131 = .ok (.iload_n 3, 1) := by decide +kernel
theorem dL_law_132 : decode code 132 = .ok (.iconst 5, 1) := by decide +kernel
theorem dL_law_133 : decode code 133 = .ok (.iadd, 1) := by decide +kernel
theorem dL_law_134 : decode code 134 = .ok (.iaload, 1) := by decide +kernel
theorem dL_law_135 : decode code 135 = .ok (.invokevirtual 17, 3) := by decide +kernel
theorem dL_law_138 : decode code 138 = .ok (.if_icmp .eq 203, 3) := by decide +kernel
theorem dL_law_141 : decode code 141 = .ok (.iconst 0, 1) := by decide +kernel
theorem dL_law_142 : decode code 142 = .ok (.ireturn, 1) := by decide +kernel
theorem dL_law_143 : decode code 143 = .ok (.aload_n 1, 1) := by decide +kernel
theorem dL_law_144 : decode code 144 = .ok (.aload_n 0, 1) := by decide +kernel
theorem dL_law_145 : decode code 145 = .ok (.iload_n 3, 1) := by decide +kernel
theorem dL_law_146 : decode code 146 = .ok (.iconst 1, 1) := by decide +kernel
theorem dL_law_147 : decode code 147 = .ok (.iadd, 1) := by decide +kernel
theorem dL_law_148 : decode code 148 = .ok (.iaload, 1) := by decide +kernel
theorem dL_law_149 : decode code 149 = .ok (.invokevirtual 18, 3) := by decide +kernel
theorem dL_law_152 : decode code 152 = .ok (.aload_n 2, 1) := by decide +kernel
theorem dL_law_153 : decode code 153 = .ok (.aload_n 0, 1) := by decide +kernel
theorem dL_law_154 : decode code 154 = .ok (.iload_n 3, 1) := by decide +kernel
theorem dL_law_155 : decode code 155 = .ok (.iconst 1, 1) := by decide +kernel
theorem dL_law_156 : decode code 156 = .ok (.iadd, 1) := by decide +kernel
theorem dL_law_157 : decode code 157 = .ok (.iaload, 1) := by decide +kernel
theorem dL_law_158 : decode code 158 = .ok (.invokevirtual 22, 3) := by decide +kernel
theorem dL_law_161 : decode code 161 = .ok (.if_icmp .eq 180, 3) := by decide +kernel
theorem dL_law_164 : decode code 164 = .ok (.iconst 0, 1) := by decide +kernel
theorem dL_law_165 : decode code 165 = .ok (.ireturn, 1) := by decide +kernel
theorem dL_law_166 : decode code 166 = .ok (.aload_n 1, 1) := by decide +kernel
theorem dL_law_167 : decode code 167 = .ok (.aload_n 0, 1) := by decide +kernel
theorem dL_law_168 : decode code 168 = .ok (.iload_n 3, 1) := by decide +kernel
theorem dL_law_169 : decode code 169 = .ok (.iconst 1, 1) := by decide +kernel
theorem dL_law_170 : decode code 170 = .ok (.iadd, 1) := by decide +kernel
theorem dL_law_171 : decode code 171 = .ok (.iaload, 1) := by decide +kernel
theorem dL_law_172 : decode code 172 = .ok (.invokevirtual 23, 3) := by decide +kernel
theorem dL_law_175 : decode code 175 = .ok (.aload_n 2, 1) := by decide +kernel
theorem dL_law_176 : decode code 176 = .ok (.aload_n 0, 1) := by decide +kernel
theorem dL_law_177 : decode code 177 = .ok (.iload_n 3, 1) := by decide +kernel
theorem dL_law_178 : decode code 178 = .ok (.iconst 1, 1) := by decide +kernel
theorem dL_law_179 : decode code 179 = .ok (.iadd, 1) := by decide +kernel
theorem dL_law_180 : decode code 180 = .ok (.iaload, 1) := by decide +kernel
theorem dL_law_181 : decode code 181 = .ok (.invokevirtual 26, 3) := by decide +kernel
theorem dL_law_184 : decode code 184 = .ok (.if_icmp .eq 157, 3) := by decide +kernel
theorem dL_law_187 : decode code 187 = .ok (.iconst 0, 1) := by decide +kernel
theorem dL_law_188 : decode code 188 = .ok (.ireturn, 1) := by decide +kernel
theorem dL_law_189 : decode code 189 = .ok (.aload_n 1, 1) := by decide +kernel
theorem dL_law_190 : decode code 190 = .ok (.aload_n 0, 1) := by decide +kernel
theorem dL_law_191 : decode code 191 = .ok (.iload_n 3, 1) := by decide +kernel
theorem dL_law_192 : decode code 192 = .ok (.iconst 1, 1) := by decide +kernel
theorem dL_law_193 : decode code 193 = .ok (.iadd, 1) := by decide +kernel
theorem dL_law_194 : decode code 194 = .ok (.iaload, 1) := by decide +kernel
theorem dL_law_195 : decode code 195 = .ok (.aload_n 0, 1) := by decide +kernel
theorem dL_law_196 : decode code 196 = .ok (.iload_n 3, 1) := by decide +kernel
theorem dL_law_197 : decode code 197 = .ok (.iconst 2, 1) := by decide +kernel
theorem dL_law_198 : decode code 198 = .ok (.iadd, 1) := by decide +kernel
theorem dL_law_199 : decode code 199 = .ok (.iaload, 1) := by decide +kernel
theorem dL_law_200 : decode code 200 = .ok (.invokevirtual 27, 3) := by decide +kernel
theorem dL_law_203 : decode code 203 = .ok (.aload_n 2, 1) := by decide +kernel
theorem dL_law_204 : decode code 204 = .ok (.aload_n 0, 1) := by decide +kernel
theorem dL_law_205 : decode code 205 = .ok (.iload_n 3, 1) := by decide +kernel
theorem dL_law_206 : decode code 206 = .ok (.iconst 1, 1) := by decide +kernel
theorem dL_law_207 : decode code 207 = .ok (.iadd, 1) := by decide +kernel
theorem dL_law_208 : decode code 208 = .ok (.iaload, 1) := by decide +kernel
theorem dL_law_209 : decode code 209 = .ok (.aload_n 0, 1) := by decide +kernel
theorem dL_law_210 : decode code 210 = .ok (.iload_n 3, 1) := by decide +kernel
theorem dL_law_211 : decode code 211 = .ok (.iconst 2, 1) := by decide +kernel
theorem dL_law_212 : decode code 212 = .ok (.iadd, 1) := by decide +kernel
theorem dL_law_213 : decode code 213 = .ok (.iaload, 1) := by decide +kernel
theorem dL_law_214 : decode code 214 = .ok (.invokevirtual 31, 3) := by decide +kernel
theorem dL_law_217 : decode code 217 = .ok (.if_icmp .eq 124, 3) := by decide +kernel
theorem dL_law_220 : decode code 220 = .ok (.iconst 0, 1) := by decide +kernel
theorem dL_law_221 : decode code 221 = .ok (.ireturn, 1) := by decide +kernel
theorem dL_law_222 : decode code 222 = .ok (.aload_n 1, 1) := by decide +kernel
theorem dL_law_223 : decode code 223 = .ok (.aload_n 0, 1) := by decide +kernel
theorem dL_law_224 : decode code 224 = .ok (.iload_n 3, 1) := by decide +kernel
theorem dL_law_225 : decode code 225 = .ok (.iconst 1, 1) := by decide +kernel
theorem dL_law_226 : decode code 226 = .ok (.iadd, 1) := by decide +kernel
theorem dL_law_227 : decode code 227 = .ok (.iaload, 1) := by decide +kernel
theorem dL_law_228 : decode code 228 = .ok (.aload_n 0, 1) := by decide +kernel
theorem dL_law_229 : decode code 229 = .ok (.iload_n 3, 1) := by decide +kernel
theorem dL_law_230 : decode code 230 = .ok (.iconst 2, 1) := by decide +kernel
theorem dL_law_231 : decode code 231 = .ok (.iadd, 1) := by decide +kernel
theorem dL_law_232 : decode code 232 = .ok (.iaload, 1) := by decide +kernel
theorem dL_law_233 : decode code 233 = .ok (.invokevirtual 32, 3) := by decide +kernel
theorem dL_law_236 : decode code 236 = .ok (.aload_n 2, 1) := by decide +kernel
theorem dL_law_237 : decode code 237 = .ok (.aload_n 0, 1) := by decide +kernel
theorem dL_law_238 : decode code 238 = .ok (.iload_n 3, 1) := by decide +kernel
theorem dL_law_239 : decode code 239 = .ok (.iconst 1, 1) := by decide +kernel
theorem dL_law_240 : decode code 240 = .ok (.iadd, 1) := by decide +kernel
theorem dL_law_241 : decode code 241 = .ok (.iaload, 1) := by decide +kernel
theorem dL_law_242 : decode code 242 = .ok (.aload_n 0, 1) := by decide +kernel
theorem dL_law_243 : decode code 243 = .ok (.iload_n 3, 1) := by decide +kernel
theorem dL_law_244 : decode code 244 = .ok (.iconst 2, 1) := by decide +kernel
theorem dL_law_245 : decode code 245 = .ok (.iadd, 1) := by decide +kernel
theorem dL_law_246 : decode code 246 = .ok (.iaload, 1) := by decide +kernel
theorem dL_law_247 : decode code 247 = .ok (.invokevirtual 36, 3) := by decide +kernel
theorem dL_law_250 : decode code 250 = .ok (.lcmp, 1) := by decide +kernel
theorem dL_law_251 : decode code 251 = .ok (.ifCond .eq 90, 3) := by decide +kernel
theorem dL_law_254 : decode code 254 = .ok (.iconst 0, 1) := by decide +kernel
theorem dL_law_255 : decode code 255 = .ok (.ireturn, 1) := by decide +kernel
theorem dL_law_256 : decode code 256 = .ok (.aload_n 1, 1) := by decide +kernel
theorem dL_law_257 : decode code 257 = .ok (.aload_n 0, 1) := by decide +kernel
theorem dL_law_258 : decode code 258 = .ok (.iload_n 3, 1) := by decide +kernel
theorem dL_law_259 : decode code 259 = .ok (.iconst 1, 1) := by decide +kernel
theorem dL_law_260 : decode code 260 = .ok (.iadd, 1) := by decide +kernel
theorem dL_law_261 : decode code 261 = .ok (.iaload, 1) := by decide +kernel
theorem dL_law_262 : decode code 262 = .ok (.invokevirtual 37, 3) := by decide +kernel
theorem dL_law_265 : decode code 265 = .ok (.aload_n 2, 1) := by decide +kernel
theorem dL_law_266 : decode code 266 = .ok (.aload_n 0, 1) := by decide +kernel
theorem dL_law_267 : decode code 267 = .ok (.iload_n 3, 1) := by decide +kernel
theorem dL_law_268 : decode code 268 = .ok (.iconst 1, 1) := by decide +kernel
theorem dL_law_269 : decode code 269 = .ok (.iadd, 1) := by decide +kernel
theorem dL_law_270 : decode code 270 = .ok (.iaload, 1) := by decide +kernel
theorem dL_law_271 : decode code 271 = .ok (.invokevirtual 40, 3) := by decide +kernel
theorem dL_law_274 : decode code 274 = .ok (.if_icmp .eq 67, 3) := by decide +kernel
theorem dL_law_277 : decode code 277 = .ok (.iconst 0, 1) := by decide +kernel
theorem dL_law_278 : decode code 278 = .ok (.ireturn, 1) := by decide +kernel
theorem dL_law_279 : decode code 279 = .ok (.aload_n 1, 1) := by decide +kernel
theorem dL_law_280 : decode code 280 = .ok (.aload_n 0, 1) := by decide +kernel
theorem dL_law_281 : decode code 281 = .ok (.iload_n 3, 1) := by decide +kernel
theorem dL_law_282 : decode code 282 = .ok (.iconst 1, 1) := by decide +kernel
theorem dL_law_283 : decode code 283 = .ok (.iadd, 1) := by decide +kernel
theorem dL_law_284 : decode code 284 = .ok (.iaload, 1) := by decide +kernel
theorem dL_law_285 : decode code 285 = .ok (.invokevirtual 41, 3) := by decide +kernel
theorem dL_law_288 : decode code 288 = .ok (.aload_n 2, 1) := by decide +kernel
theorem dL_law_289 : decode code 289 = .ok (.aload_n 0, 1) := by decide +kernel
theorem dL_law_290 : decode code 290 = .ok (.iload_n 3, 1) := by decide +kernel
theorem dL_law_291 : decode code 291 = .ok (.iconst 1, 1) := by decide +kernel
theorem dL_law_292 : decode code 292 = .ok (.iadd, 1) := by decide +kernel
theorem dL_law_293 : decode code 293 = .ok (.iaload, 1) := by decide +kernel
theorem dL_law_294 : decode code 294 = .ok (.invokevirtual 44, 3) := by decide +kernel
theorem dL_law_297 : decode code 297 = .ok (.if_icmp .eq 44, 3) := by decide +kernel
theorem dL_law_300 : decode code 300 = .ok (.iconst 0, 1) := by decide +kernel
theorem dL_law_301 : decode code 301 = .ok (.ireturn, 1) := by decide +kernel
theorem dL_law_302 : decode code 302 = .ok (.aload_n 1, 1) := by decide +kernel
theorem dL_law_303 : decode code 303 = .ok (.aload_n 0, 1) := by decide +kernel
theorem dL_law_304 : decode code 304 = .ok (.iload_n 3, 1) := by decide +kernel
theorem dL_law_305 : decode code 305 = .ok (.iconst 1, 1) := by decide +kernel
theorem dL_law_306 : decode code 306 = .ok (.iadd, 1) := by decide +kernel
theorem dL_law_307 : decode code 307 = .ok (.iaload, 1) := by decide +kernel
theorem dL_law_308 : decode code 308 = .ok (.ifCond .eq 7, 3) := by decide +kernel
theorem dL_law_315 : decode code 315 = .ok (.iconst 0, 1) := by decide +kernel
theorem dL_law_311 : decode code 311 = .ok (.iconst 1, 1) := by decide +kernel
theorem dL_law_312 : decode code 312 = .ok (.goto 4, 3) := by decide +kernel
theorem dL_law_341 : decode code 341 = .ok (.iinc 3 6, 3) := by decide +kernel
theorem dL_law_344 : decode code 344 = .ok (.goto (-326), 3) := by decide +kernel
theorem dL_law_316 : decode code 316 = .ok (.invokevirtual 45, 3) := by decide +kernel
theorem dL_law_319 : decode code 319 = .ok (.aload_n 2, 1) := by decide +kernel
theorem dL_law_320 : decode code 320 = .ok (.aload_n 0, 1) := by decide +kernel
theorem dL_law_321 : decode code 321 = .ok (.iload_n 3, 1) := by decide +kernel
theorem dL_law_322 : decode code 322 = .ok (.iconst 1, 1) := by decide +kernel
theorem dL_law_323 : decode code 323 = .ok (.iadd, 1) := by decide +kernel
theorem dL_law_324 : decode code 324 = .ok (.iaload, 1) := by decide +kernel
theorem dL_law_325 : decode code 325 = .ok (.ifCond .eq 7, 3) := by decide +kernel
theorem dL_law_332 : decode code 332 = .ok (.iconst 0, 1) := by decide +kernel
theorem dL_law_328 : decode code 328 = .ok (.iconst 1, 1) := by decide +kernel
theorem dL_law_329 : decode code 329 = .ok (.goto 4, 3) := by decide +kernel
theorem dL_law_333 : decode code 333 = .ok (.invokevirtual 49, 3) := by decide +kernel
theorem dL_law_336 : decode code 336 = .ok (.if_icmp .eq 5, 3) := by decide +kernel
theorem dL_law_339 : decode code 339 = .ok (.iconst 0, 1) := by decide +kernel
theorem dL_law_340 : decode code 340 = .ok (.ireturn, 1) := by decide +kernel
theorem dL_law_0 : decode code 0 = .ok (.new 7, 3) := by decide +kernel
theorem dL_law_3 : decode code 3 = .ok (.dup, 1) := by decide +kernel
theorem dL_law_4 : decode code 4 = .ok (.invokespecial 9, 3) := by decide +kernel
theorem dL_law_7 : decode code 7 = .ok (.astore_n 1, 1) := by decide +kernel
theorem dL_law_8 : decode code 8 = .ok (.new 10, 3) := by decide +kernel
theorem dL_law_11 : decode code 11 = .ok (.dup, 1) := by decide +kernel
theorem dL_law_12 : decode code 12 = .ok (.invokespecial 12, 3) := by decide +kernel
theorem dL_law_15 : decode code 15 = .ok (.astore_n 2, 1) := by decide +kernel
theorem dL_law_16 : decode code 16 = .ok (.iconst 0, 1) := by decide +kernel
theorem dL_law_17 : decode code 17 = .ok (.istore_n 3, 1) := by decide +kernel
end
section
def m_X0_add (br_c : Int32) (br_o : Int32) (br_b : Nat → Int32) (p0 : Int32) : Option (Int32 × Int32 × (Nat → Int32)) :=
  if br_c < (4000 : Int32) then (o_in br_c 4000 (o_let (upd br_b br_c.toNatClampNeg (vp_nar .byte p0.toInt8.toInt32)) (fun f_3 =>
  o_let (br_c + (1 : Int32)) (fun t_4 =>
  some (t_4, br_o, f_3)))))
  else (some (br_c, (1 : Int32), br_b))
def m_X0_cutTo (br_c : Int32) (br_o : Int32) (p0 : Int32) : Option (Int32 × Int32) :=
  some (p0, (0 : Int32))
def m_X0_byteAt (br_c : Int32) (br_b : Nat → Int32) (p0 : Int32) : Option Int32 :=
  if p0 < 0 then (some (-1 : Int32))
  else (if p0 < br_c then (o_in p0 4000 (o_let (br_b p0.toNatClampNeg) (fun t_4 =>
  some (t_4 &&& (255 : Int32)))))
  else (some (-1 : Int32)))
def m_X0_copy (br_c : Int32) (br_o : Int32) (br_b : Nat → Int32) (ot_c : Int32) (ot_b : Nat → Int32) : Option (Int32 × Int32 × (Nat → Int32)) :=
  o_cpy ot_b (0 : Int32) (0 : Int32) ot_c 4000 4000 (o_let (va_cpy ot_b br_b (0 : Int32).toNatClampNeg (0 : Int32).toNatClampNeg ot_c.toNatClampNeg) (fun f_2 =>
  o_b (m_X0_cutTo br_c br_o ot_c) (fun r_3 =>
  some (r_3.1, r_3.2, f_2))))
def m_X1_clear (ln_c : Int32) (ln_m : Int32) : Option (Int32 × Int32) :=
  some ((0 : Int32), (0 : Int32))
def m_X1_has (ln_c : Int32) (p0 : Int32) : Option Int32 :=
  if p0 < 0 then (some (0 : Int32))
  else (if ln_c ≤ p0 then (some (0 : Int32))
  else (some (1 : Int32)))
def m_X1_sizeOf (ln_c : Int32) (ln_s : Nat → Int32) (p0 : Int32) : Option Int32 :=
  o_b (m_X1_has ln_c p0) (fun r_1 =>
  if r_1 = 0 then (some (0 : Int32))
  else (o_in p0 64 (o_let (ln_s p0.toNatClampNeg) (fun t_4 =>
  some t_4))))
def m_X1_kindOf (ln_c : Int32) (ln_k : Nat → Int32) (p0 : Int32) : Option Int32 :=
  o_b (m_X1_has ln_c p0) (fun r_1 =>
  if r_1 = 0 then (some (0 : Int32))
  else (o_in p0 64 (o_let (ln_k p0.toNatClampNeg) (fun t_4 =>
  some t_4))))
def m_X1_placeOf (ln_c : Int32) (ln_p : Nat → Int32) (p0 : Int32) : Option Int32 :=
  o_b (m_X1_has ln_c p0) (fun r_1 =>
  if r_1 = 0 then (some (-1 : Int32))
  else (o_in p0 64 (o_let (ln_p p0.toNatClampNeg) (fun t_4 =>
  some t_4))))
def m_X1_storedAt (ln_c : Int32) (ln_f : Nat → Int32) (ln_s : Nat → Int32) (ln_n : Nat → Int64) (p0 : Int32) (p1 : Int32) : Option Int64 :=
  if p1 < 0 then (some (0 : Int64))
  else (o_b (m_X1_sizeOf ln_c ln_s p0) (fun r_2 =>
  if p1 < r_2 then (o_in p0 64 (o_let (ln_f p0.toNatClampNeg) (fun t_5 =>
  o_let (t_5 + p1) (fun t_6 =>
  if (4000 : Int32) ≤ t_6 then (some (0 : Int64))
  else (o_in t_6 4000 (o_let (ln_n t_6.toNatClampNeg) (fun t_9 =>
  some t_9)))))))
  else (some (0 : Int64))))
def m_X2_begin_J19  (tk_e : Int32) (tk_s : Int32) (tk_p : Int32) (tk_h : Int32) (tk_v : Int64) (tk_f : Int32) (s0 : Int32) : Option (Int32 × Int32 × Int32 × Int32 × Int64 × Int32) :=
  some (s0, (0 : Int32), (0 : Int32), (0 : Int32), (0 : Int64), (0 : Int32))
def m_X2_begin_J18  (tk_e : Int32) (tk_s : Int32) (tk_p : Int32) (tk_h : Int32) (tk_v : Int64) (tk_f : Int32) : Option (Int32 × Int32 × Int32 × Int32 × Int64 × Int32) :=
  m_X2_begin_J19  tk_e tk_s tk_p tk_h tk_v tk_f (0 : Int32)
def m_X2_begin (tk_e : Int32) (tk_s : Int32) (tk_p : Int32) (tk_h : Int32) (tk_v : Int64) (tk_f : Int32) (p0 : Int32) : Option (Int32 × Int32 × Int32 × Int32 × Int64 × Int32) :=
  if p0 < 0 then (m_X2_begin_J18  tk_e tk_s tk_p tk_h tk_v tk_f)
  else (if (4000 : Int32) < p0 then (m_X2_begin_J18  tk_e tk_s tk_p tk_h tk_v tk_f)
  else (m_X2_begin_J19  tk_e tk_s tk_p tk_h tk_v tk_f p0))
def m_X2_isLineEnd (tk_s : Int32) : Option Int32 :=
  if tk_s = 0 then (some (1 : Int32))
  else (some (0 : Int32))
def m_X2_isTextEnd (tk_e : Int32) (tk_s : Int32) (tk_p : Int32) : Option Int32 :=
  if tk_s = 0 then (if tk_p < tk_e then (some (0 : Int32))
  else (some (1 : Int32)))
  else (some (0 : Int32))
def m_X3_begin (rd_f : Int32) (rd_p : Int32) (tk_e : Int32) (tk_s : Int32) (tk_p : Int32) (tk_h : Int32) (tk_v : Int64) (tk_f : Int32) (ln_c : Int32) (ln_m : Int32) (p0 : Int32) : Option (Int32 × Int32 × Int32 × Int32 × Int32 × Int32 × Int64 × Int32 × Int32 × Int32) :=
  o_b (m_X2_begin tk_e tk_s tk_p tk_h tk_v tk_f p0) (fun r_1 =>
  o_b (m_X1_clear ln_c ln_m) (fun r_2 =>
  some ((0 : Int32), (-1 : Int32), r_1.1, r_1.2.1, r_1.2.2.1, r_1.2.2.2.1, r_1.2.2.2.2.1, r_1.2.2.2.2.2, r_2.1, r_2.2)))
def m_X3_findLine_J52  (rd_f : Int32) (tk_e : Int32) (tk_s : Int32) (tk_p : Int32) : Option Int32 :=
  o_b (m_X2_isLineEnd tk_s) (fun r_1 =>
  if r_1 = 0 then (some (1 : Int32))
  else (some (0 : Int32)))
def m_X3_findLine_L11  : Nat → Int32 → Int32 → Int32 → Int32 → Int32 → Option Int32
  | 0, _, _, _, _, _ => none
  | n + 1, rd_f, tk_e, tk_s, tk_p, x1 =>
    if (4000 : Int32) < x1 then (m_X3_findLine_J52  rd_f tk_e tk_s tk_p)
    else (o_b (m_X2_isLineEnd tk_s) (fun r_4 =>
    if r_4 = 0 then (m_X3_findLine_J52  rd_f tk_e tk_s tk_p)
    else (o_b (m_X2_isTextEnd tk_e tk_s tk_p) (fun r_6 =>
    if r_6 = 0 then (none)
    else (m_X3_findLine_J52  rd_f tk_e tk_s tk_p)))))
def m_X3_findLine (rd_f : Int32) (tk_e : Int32) (tk_s : Int32) (tk_p : Int32) : Option Int32 :=
  if rd_f = 0 then (m_X3_findLine_L11  fu rd_f tk_e tk_s tk_p (0 : Int32))
  else (some (0 : Int32))
def m_X5_valueOf (p0 : Int64) : Option Int64 :=
  if (lg_cmp p0 (-1000000000000000000 : Int64)) = 0 then (some (0 : Int64))
  else (some p0)
def m_X5_feedFour_L3  : Nat → Int32 → Int32 → (Nat → Int32) → Int32 → Int32 → Option (Int32 × Int32 × (Nat → Int32))
  | 0, _, _, _, _, _ => none
  | n + 1, tp_c, tp_o, tp_b, x1, x2 =>
    if x2 < 0 then (some (tp_c, tp_o, tp_b))
    else (o_let (x1 >>> (x2 &&& 31)) (fun t_2 =>
    o_b (m_X0_add tp_c tp_o tp_b t_2) (fun r_3 =>
    o_let (x2 + (-8)) (fun t_4 =>
    m_X5_feedFour_L3  n r_3.1 r_3.2.1 r_3.2.2 x1 t_4))))
def m_X5_feedFour (tp_c : Int32) (tp_o : Int32) (tp_b : Nat → Int32) (p0 : Int32) : Option (Int32 × Int32 × (Nat → Int32)) :=
  m_X5_feedFour_L3  fu tp_c tp_o tp_b p0 (24 : Int32)
def m_X5_feed (tp_c : Int32) (tp_o : Int32) (tp_b : Nat → Int32) (p0 : Int32) (p1 : Int32) (p2 : Int32) (p3 : Int32) (p4 : Int32) : Option (Int32 × Int32 × Int32 × (Nat → Int32)) :=
  if tp_c ≤ (3980 : Int32) then (o_b (m_X5_feedFour tp_c tp_o tp_b p0) (fun r_2 =>
  o_b (m_X5_feedFour r_2.1 r_2.2.1 r_2.2.2 p1) (fun r_3 =>
  o_b (m_X5_feedFour r_3.1 r_3.2.1 r_3.2.2 p2) (fun r_4 =>
  o_b (m_X5_feedFour r_4.1 r_4.2.1 r_4.2.2 p3) (fun r_5 =>
  o_b (m_X5_feedFour r_5.1 r_5.2.1 r_5.2.2 p4) (fun r_6 =>
  some (r_6.1, r_6.1, r_6.2.1, r_6.2.2)))))))
  else (some ((-1 : Int32), tp_c, tp_o, tp_b))
def m_X5_read_J62  (xx_e : Int32) (tp_c : Int32) (tp_o : Int32) (ln_c : Int32) (ln_m : Int32) (rd_f : Int32) (rd_p : Int32) (tk_e : Int32) (tk_s : Int32) (tk_p : Int32) (tk_h : Int32) (tk_v : Int64) (tk_f : Int32) : Option (Int32 × Int32 × Int32 × Int32 × Int32 × Int32 × Int32 × Int32 × Int32 × Int32 × Int32 × Int32 × Int64 × Int32) :=
  o_b (m_X0_cutTo tp_c tp_o (0 : Int32)) (fun r_1 =>
  if rd_f = 0 then (some (ln_c, xx_e, r_1.1, r_1.2, ln_c, ln_m, rd_f, rd_p, tk_e, tk_s, tk_p, tk_h, tk_v, tk_f))
  else (o_b (m_X1_clear ln_c ln_m) (fun r_3 =>
  some ((-1 : Int32), xx_e, r_1.1, r_1.2, r_3.1, r_3.2, rd_f, rd_p, tk_e, tk_s, tk_p, tk_h, tk_v, tk_f))))
def m_X5_read_L33  : Nat → Int32 → Int32 → Int32 → Int32 → Int32 → Int32 → Int32 → Int32 → Int32 → Int32 → Int32 → Int64 → Int32 → Int32 → Option (Int32 × Int32 × Int32 × Int32 × Int32 × Int32 × Int32 × Int32 × Int32 × Int32 × Int32 × Int32 × Int64 × Int32)
  | 0, _, _, _, _, _, _, _, _, _, _, _, _, _, _ => none
  | n + 1, xx_e, tp_c, tp_o, ln_c, ln_m, rd_f, rd_p, tk_e, tk_s, tk_p, tk_h, tk_v, tk_f, x2 =>
    if (64 : Int32) < x2 then (m_X5_read_J62  xx_e tp_c tp_o ln_c ln_m rd_f rd_p tk_e tk_s tk_p tk_h tk_v tk_f)
    else (o_b (m_X3_findLine rd_f tk_e tk_s tk_p) (fun r_5 =>
    if r_5 = 0 then (m_X5_read_J62  xx_e tp_c tp_o ln_c ln_m rd_f rd_p tk_e tk_s tk_p tk_h tk_v tk_f)
    else (none)))
def m_X5_read (xx_e : Int32) (tp_c : Int32) (tp_o : Int32) (ln_c : Int32) (ln_m : Int32) (rd_f : Int32) (rd_p : Int32) (tk_e : Int32) (tk_s : Int32) (tk_p : Int32) (tk_h : Int32) (tk_v : Int64) (tk_f : Int32) (p0 : Int32) : Option (Int32 × Int32 × Int32 × Int32 × Int32 × Int32 × Int32 × Int32 × Int32 × Int32 × Int32 × Int32 × Int64 × Int32) :=
  if p0 < 0 then (some ((-2 : Int32), xx_e, tp_c, tp_o, ln_c, ln_m, rd_f, rd_p, tk_e, tk_s, tk_p, tk_h, tk_v, tk_f))
  else (if p0 ≤ tp_c then (o_b (m_X3_begin rd_f rd_p tk_e tk_s tk_p tk_h tk_v tk_f ln_c ln_m p0) (fun r_9 =>
  m_X5_read_L33  fu (1 : Int32) tp_c tp_o r_9.2.2.2.2.2.2.2.2.1 r_9.2.2.2.2.2.2.2.2.2 r_9.1 r_9.2.1 r_9.2.2.1 r_9.2.2.2.1 r_9.2.2.2.2.1 r_9.2.2.2.2.2.1 r_9.2.2.2.2.2.2.1 r_9.2.2.2.2.2.2.2.1 (0 : Int32)))
  else (some ((-2 : Int32), xx_e, tp_c, tp_o, ln_c, ln_m, rd_f, rd_p, tk_e, tk_s, tk_p, tk_h, tk_v, tk_f)))
def m_X5_fault (xx_e : Int32) (rd_f : Int32) (rd_p : Int32) (p0 : Int32) : Option Int32 :=
  if xx_e = 0 then (some (-1 : Int32))
  else (if p0 = (0 : Int32) then (some rd_f)
  else if p0 = (1 : Int32) then (some rd_p)
  else (some (-1 : Int32)))
def m_X5_line (ln_c : Int32) (ln_k : Nat → Int32) (ln_p : Nat → Int32) (ln_s : Nat → Int32) (p0 : Int32) (p1 : Int32) : Option Int32 :=
  o_b (m_X1_has ln_c p0) (fun r_1 =>
  if r_1 = 0 then (some (-1 : Int32))
  else (if p1 = (0 : Int32) then (o_b (m_X1_kindOf ln_c ln_k p0) (fun r_4 =>
  some r_4))
  else if p1 = (1 : Int32) then (o_b (m_X1_sizeOf ln_c ln_s p0) (fun r_6 =>
  some r_6))
  else if p1 = (2 : Int32) then (o_b (m_X1_placeOf ln_c ln_p p0) (fun r_8 =>
  some r_8))
  else (some (-1 : Int32))))
def m_X5_number (ln_c : Int32) (ln_f : Nat → Int32) (ln_s : Nat → Int32) (ln_n : Nat → Int64) (p0 : Int32) (p1 : Int32) : Option Int64 :=
  o_b (m_X1_storedAt ln_c ln_f ln_s ln_n p0 p1) (fun r_1 =>
  o_b (m_X5_valueOf r_1) (fun r_2 =>
  some r_2))
def m_X5_print (pp_c : Int32) (ln_c : Int32) (p0 : Int32) : Option Int32 :=
  o_b (m_X1_has ln_c p0) (fun r_1 =>
  if r_1 = 0 then (some (-1 : Int32))
  else (none))
def m_X5_printed (pp_c : Int32) (pp_b : Nat → Int32) (p0 : Int32) : Option Int32 :=
  o_b (m_X0_byteAt pp_c pp_b p0) (fun r_1 =>
  some r_1)
def m_X5_wipe_J23  (tp_c : Int32) (tp_o : Int32) (tp_b : Nat → Int32) (pp_c : Int32) (pp_o : Int32) (pp_b : Nat → Int32) (x2 : Int32) : Option (Int32 × Int32 × Int32 × (Nat → Int32) × Int32 × Int32) :=
  o_b (m_X0_cutTo pp_c pp_o (0 : Int32)) (fun r_1 =>
  some (x2, tp_c, tp_o, tp_b, r_1.1, r_1.2))
def m_X5_wipe (tp_c : Int32) (tp_o : Int32) (tp_b : Nat → Int32) (pp_c : Int32) (pp_o : Int32) (pp_b : Nat → Int32) (p0 : Int32) : Option (Int32 × Int32 × Int32 × (Nat → Int32) × Int32 × Int32) :=
  if p0 = 0 then (m_X5_wipe_J23  tp_c tp_o tp_b pp_c pp_o pp_b pp_c)
  else (o_b (m_X0_copy tp_c tp_o tp_b pp_c pp_b) (fun r_3 =>
  m_X5_wipe_J23  r_3.1 r_3.2.1 r_3.2.2 pp_c pp_o pp_b pp_c))
def m_X6_put_L3  : Nat → Int32 → (Nat → Int32) → Int32 → Int32 → Option (Int32 × (Nat → Int32))
  | 0, _, _, _, _ => none
  | n + 1, mo_taped, mo_tapeA, x1, x2 =>
    if x2 < 0 then (some (mo_taped, mo_tapeA))
    else (o_let (x1 >>> (x2 &&& 31)) (fun t_2 =>
    o_let (t_2 &&& (255 : Int32)) (fun t_3 =>
    o_in mo_taped 4000 (o_let (upd mo_tapeA mo_taped.toNatClampNeg t_3) (fun f_5 =>
    o_let (mo_taped + (1 : Int32)) (fun t_6 =>
    o_let (x2 + (-8)) (fun t_7 =>
    m_X6_put_L3  n t_6 f_5 x1 t_7)))))))
def m_X6_put (mo_taped : Int32) (mo_tapeA : Nat → Int32) (p0 : Int32) : Option (Int32 × (Nat → Int32)) :=
  m_X6_put_L3  fu mo_taped mo_tapeA p0 (24 : Int32)
def m_X6_feed (mo_taped : Int32) (mo_tapeA : Nat → Int32) (p0 : Int32) (p1 : Int32) (p2 : Int32) (p3 : Int32) (p4 : Int32) : Option (Int32 × Int32 × (Nat → Int32)) :=
  o_let (mo_taped + (20 : Int32)) (fun t_1 =>
  if t_1 ≤ (4000 : Int32) then (o_b (m_X6_put mo_taped mo_tapeA p0) (fun r_3 =>
  o_b (m_X6_put r_3.1 r_3.2 p1) (fun r_4 =>
  o_b (m_X6_put r_4.1 r_4.2 p2) (fun r_5 =>
  o_b (m_X6_put r_5.1 r_5.2 p3) (fun r_6 =>
  o_b (m_X6_put r_6.1 r_6.2 p4) (fun r_7 =>
  some (r_7.1, r_7.1, r_7.2)))))))
  else (some ((-1 : Int32), mo_taped, mo_tapeA)))
def m_X6_isLine (mo_lines : Int32) (p0 : Int32) : Option Int32 :=
  if p0 < 0 then (some (0 : Int32))
  else (if mo_lines ≤ p0 then (some (0 : Int32))
  else (some (1 : Int32)))
def m_X6_stop (mo_fault : Int32) (mo_place : Int32) (p0 : Int32) (p1 : Int32) : Option (Int32 × Int32) :=
  if mo_fault = 0 then (some (p0, p1))
  else (some (mo_fault, mo_place))
def m_X6_mayEnd (mo_state : Int32) : Option Int32 :=
  if mo_state = (1 : Int32) then (some (1 : Int32))
  else (if mo_state = (6 : Int32) then (some (1 : Int32))
  else (if mo_state = (8 : Int32) then (some (1 : Int32))
  else (if mo_state = (19 : Int32) then (some (1 : Int32))
  else (if mo_state = (22 : Int32) then (some (1 : Int32))
  else (if mo_state = (23 : Int32) then (some (1 : Int32))
  else (if mo_state = (26 : Int32) then (some (1 : Int32))
  else (some (0 : Int32))))))))
def m_X6_finish_J84  (mo_fault : Int32) (mo_place : Int32) (mo_lines : Int32) (mo_state : Int32) (mo_kindA : Nat → Int32) : Option (Int32 × Int32 × Int32 × Int32) :=
  o_let (mo_lines + (1 : Int32)) (fun t_1 =>
  some (mo_fault, mo_place, t_1, (0 : Int32)))
def m_X6_finish_J81  (mo_fault : Int32) (mo_place : Int32) (mo_lines : Int32) (mo_state : Int32) (mo_kindA : Nat → Int32) (s0 : Int32) : Option (Int32 × Int32 × Int32 × Int32) :=
  none
def m_X6_finish_J66  (mo_fault : Int32) (mo_place : Int32) (mo_lines : Int32) (mo_state : Int32) (mo_kindA : Nat → Int32) : Option (Int32 × Int32 × Int32 × Int32) :=
  if mo_state = (23 : Int32) then (m_X6_finish_J81  mo_fault mo_place mo_lines mo_state mo_kindA (1 : Int32))
  else (m_X6_finish_J81  mo_fault mo_place mo_lines mo_state mo_kindA (0 : Int32))
def m_X6_finish_J48  (mo_fault : Int32) (mo_place : Int32) (mo_lines : Int32) (mo_state : Int32) (mo_kindA : Nat → Int32) : Option (Int32 × Int32 × Int32 × Int32) :=
  if mo_state = (22 : Int32) then (m_X6_finish_J66  mo_fault mo_place mo_lines mo_state mo_kindA)
  else (if mo_state = (23 : Int32) then (m_X6_finish_J66  mo_fault mo_place mo_lines mo_state mo_kindA)
  else (m_X6_finish_J84  mo_fault mo_place mo_lines mo_state mo_kindA))
def m_X6_finish (mo_fault : Int32) (mo_place : Int32) (mo_lines : Int32) (mo_state : Int32) (mo_kindA : Nat → Int32) (p0 : Int32) : Option (Int32 × Int32 × Int32 × Int32) :=
  if mo_state = 0 then (some (mo_fault, mo_place, mo_lines, mo_state))
  else (o_b (m_X6_mayEnd mo_state) (fun r_6 =>
  if r_6 = 0 then (o_b (m_X6_stop mo_fault mo_place (4 : Int32) p0) (fun r_12 =>
  some (r_12.1, r_12.2, mo_lines, mo_state)))
  else (o_in mo_lines 64 (o_let (mo_kindA mo_lines.toNatClampNeg) (fun t_9 =>
  if t_9 = (1 : Int32) then (if mo_state = (1 : Int32) then (none)
  else (m_X6_finish_J48  mo_fault mo_place mo_lines mo_state mo_kindA))
  else (m_X6_finish_J48  mo_fault mo_place mo_lines mo_state mo_kindA))))))
def m_X6_read_J202  (mo_taped : Int32) (mo_fault : Int32) (mo_place : Int32) (mo_lines : Int32) (mo_used : Int32) (mo_state : Int32) (mo_at : Int32) (mo_from : Int32) (mo_tapeA : Nat → Int32) (mo_kindA : Nat → Int32) : Option (Int32 × Int32 × Int32 × Int32 × Int32 × Int32 × Int32 × Int32 × Int32) :=
  if mo_fault = 0 then (some (mo_lines, mo_taped, mo_fault, mo_place, mo_lines, mo_used, mo_state, mo_at, mo_from))
  else (some ((-1 : Int32), mo_taped, mo_fault, mo_place, mo_lines, mo_used, mo_state, mo_at, mo_from))
def m_X6_read_J185  (mo_taped : Int32) (mo_fault : Int32) (mo_place : Int32) (mo_lines : Int32) (mo_used : Int32) (mo_state : Int32) (mo_at : Int32) (mo_from : Int32) (mo_tapeA : Nat → Int32) (mo_kindA : Nat → Int32) : Option (Int32 × Int32 × Int32 × Int32 × Int32 × Int32 × Int32 × Int32 × Int32) :=
  if mo_fault = 0 then (m_X6_read_J202  (0 : Int32) mo_fault mo_place mo_lines mo_used mo_state mo_at mo_from mo_tapeA mo_kindA)
  else (m_X6_read_J202  (0 : Int32) mo_fault mo_place (0 : Int32) mo_used mo_state mo_at mo_from mo_tapeA mo_kindA)
def m_X6_read_J173  (mo_taped : Int32) (mo_fault : Int32) (mo_place : Int32) (mo_lines : Int32) (mo_used : Int32) (mo_state : Int32) (mo_at : Int32) (mo_from : Int32) (mo_tapeA : Nat → Int32) (mo_kindA : Nat → Int32) (x1 : Int32) : Option (Int32 × Int32 × Int32 × Int32 × Int32 × Int32 × Int32 × Int32 × Int32) :=
  if mo_fault = 0 then (o_b (m_X6_finish mo_fault mo_place mo_lines mo_state mo_kindA x1) (fun r_4 =>
  m_X6_read_J185  mo_taped r_4.1 r_4.2.1 r_4.2.2.1 mo_used r_4.2.2.2 mo_at mo_from mo_tapeA mo_kindA))
  else (m_X6_read_J185  mo_taped mo_fault mo_place mo_lines mo_used mo_state mo_at mo_from mo_tapeA mo_kindA)
def m_X6_read_J170 (b_47 : Int32 → Int32 → Int32 → Int32 → Int32 → Int32 → Int32 → Int32 → (Nat → Int32) → (Nat → Int32) → Int32 → Int32 → Option (Int32 × Int32 × Int32 × Int32 × Int32 × Int32 × Int32 × Int32 × Int32)) (mo_taped : Int32) (mo_fault : Int32) (mo_place : Int32) (mo_lines : Int32) (mo_used : Int32) (mo_state : Int32) (mo_at : Int32) (mo_from : Int32) (mo_tapeA : Nat → Int32) (mo_kindA : Nat → Int32) (x1 : Int32) (x2 : Int32) : Option (Int32 × Int32 × Int32 × Int32 × Int32 × Int32 × Int32 × Int32 × Int32) :=
  b_47 mo_taped mo_fault mo_place mo_lines mo_used mo_state mo_at mo_from mo_tapeA mo_kindA x1 x2
def m_X6_read_J154 (b_47 : Int32 → Int32 → Int32 → Int32 → Int32 → Int32 → Int32 → Int32 → (Nat → Int32) → (Nat → Int32) → Int32 → Int32 → Option (Int32 × Int32 × Int32 × Int32 × Int32 × Int32 × Int32 × Int32 × Int32)) (mo_taped : Int32) (mo_fault : Int32) (mo_place : Int32) (mo_lines : Int32) (mo_used : Int32) (mo_state : Int32) (mo_at : Int32) (mo_from : Int32) (mo_tapeA : Nat → Int32) (mo_kindA : Nat → Int32) (x1 : Int32) (x2 : Int32) (x3 : Int32) : Option (Int32 × Int32 × Int32 × Int32 × Int32 × Int32 × Int32 × Int32 × Int32) :=
  if x2 = 0 then (if x3 = (32 : Int32) then (m_X6_read_J170 b_47 mo_taped mo_fault mo_place mo_lines mo_used mo_state mo_at mo_from mo_tapeA mo_kindA x1 x2)
  else (none))
  else (m_X6_read_J170 b_47 mo_taped mo_fault mo_place mo_lines mo_used mo_state mo_at mo_from mo_tapeA mo_kindA x1 x2)
def m_X6_read_J120 (b_47 : Int32 → Int32 → Int32 → Int32 → Int32 → Int32 → Int32 → Int32 → (Nat → Int32) → (Nat → Int32) → Int32 → Int32 → Option (Int32 × Int32 × Int32 × Int32 × Int32 × Int32 × Int32 × Int32 × Int32)) (mo_taped : Int32) (mo_fault : Int32) (mo_place : Int32) (mo_lines : Int32) (mo_used : Int32) (mo_state : Int32) (mo_at : Int32) (mo_from : Int32) (mo_tapeA : Nat → Int32) (mo_kindA : Nat → Int32) (x1 : Int32) (x2 : Int32) (x3 : Int32) : Option (Int32 × Int32 × Int32 × Int32 × Int32 × Int32 × Int32 × Int32 × Int32) :=
  if x3 = (10 : Int32) then (o_b (m_X6_finish mo_fault mo_place mo_lines mo_state mo_kindA mo_from) (fun r_10 =>
  m_X6_read_J170 b_47 mo_taped r_10.1 r_10.2.1 r_10.2.2.1 mo_used r_10.2.2.2 mo_at mo_from mo_tapeA mo_kindA x1 (0 : Int32)))
  else (if x2 = 0 then (if x3 = (35 : Int32) then (m_X6_read_J170 b_47 mo_taped mo_fault mo_place mo_lines mo_used mo_state mo_at mo_from mo_tapeA mo_kindA x1 (1 : Int32))
  else (m_X6_read_J154 b_47 mo_taped mo_fault mo_place mo_lines mo_used mo_state mo_at mo_from mo_tapeA mo_kindA x1 x2 x3))
  else (m_X6_read_J154 b_47 mo_taped mo_fault mo_place mo_lines mo_used mo_state mo_at mo_from mo_tapeA mo_kindA x1 x2 x3))
def m_X6_read_J108 (b_47 : Int32 → Int32 → Int32 → Int32 → Int32 → Int32 → Int32 → Int32 → (Nat → Int32) → (Nat → Int32) → Int32 → Int32 → Option (Int32 × Int32 × Int32 × Int32 × Int32 × Int32 × Int32 × Int32 × Int32)) (mo_taped : Int32) (mo_fault : Int32) (mo_place : Int32) (mo_lines : Int32) (mo_used : Int32) (mo_state : Int32) (mo_at : Int32) (mo_from : Int32) (mo_tapeA : Nat → Int32) (mo_kindA : Nat → Int32) (x1 : Int32) (x2 : Int32) : Option (Int32 × Int32 × Int32 × Int32 × Int32 × Int32 × Int32 × Int32 × Int32) :=
  o_b (m_X6_stop mo_fault mo_place (1 : Int32) mo_from) (fun r_11 =>
  m_X6_read_J170 b_47 mo_taped r_11.1 r_11.2 mo_lines mo_used mo_state mo_at mo_from mo_tapeA mo_kindA x1 x2)
def m_X6_read_L47  : Nat → Int32 → Int32 → Int32 → Int32 → Int32 → Int32 → Int32 → Int32 → (Nat → Int32) → (Nat → Int32) → Int32 → Int32 → Option (Int32 × Int32 × Int32 × Int32 × Int32 × Int32 × Int32 × Int32 × Int32)
  | 0, _, _, _, _, _, _, _, _, _, _, _, _ => none
  | n + 1, mo_taped, mo_fault, mo_place, mo_lines, mo_used, mo_state, mo_at, mo_from, mo_tapeA, mo_kindA, x1, x2 =>
    if x1 ≤ mo_at then (m_X6_read_J173  mo_taped mo_fault mo_place mo_lines mo_used mo_state mo_at mo_from mo_tapeA mo_kindA x1)
    else (if mo_fault = 0 then (o_in mo_at 4000 (o_let (mo_tapeA mo_at.toNatClampNeg) (fun t_15 =>
    o_let (mo_at + (1 : Int32)) (fun t_16 =>
    if t_15 = (10 : Int32) then (m_X6_read_J120 (m_X6_read_L47 n) mo_taped mo_fault mo_place mo_lines mo_used mo_state t_16 mo_at mo_tapeA mo_kindA x1 x2 t_15)
    else (if t_15 < (32 : Int32) then (m_X6_read_J108 (m_X6_read_L47 n) mo_taped mo_fault mo_place mo_lines mo_used mo_state t_16 mo_at mo_tapeA mo_kindA x1 x2)
    else (if t_15 ≤ (126 : Int32) then (m_X6_read_J120 (m_X6_read_L47 n) mo_taped mo_fault mo_place mo_lines mo_used mo_state t_16 mo_at mo_tapeA mo_kindA x1 x2 t_15)
    else (m_X6_read_J108 (m_X6_read_L47 n) mo_taped mo_fault mo_place mo_lines mo_used mo_state t_16 mo_at mo_tapeA mo_kindA x1 x2)))))))
    else (m_X6_read_J173  mo_taped mo_fault mo_place mo_lines mo_used mo_state mo_at mo_from mo_tapeA mo_kindA x1))
def m_X6_read (mo_taped : Int32) (mo_fault : Int32) (mo_place : Int32) (mo_lines : Int32) (mo_used : Int32) (mo_state : Int32) (mo_at : Int32) (mo_from : Int32) (mo_tapeA : Nat → Int32) (mo_kindA : Nat → Int32) (p0 : Int32) : Option (Int32 × Int32 × Int32 × Int32 × Int32 × Int32 × Int32 × Int32 × Int32) :=
  if p0 < 0 then (some ((-2 : Int32), mo_taped, mo_fault, mo_place, mo_lines, mo_used, mo_state, mo_at, mo_from))
  else (if p0 ≤ mo_taped then (m_X6_read_L47  fu mo_taped (0 : Int32) (-1 : Int32) (0 : Int32) (0 : Int32) (0 : Int32) (0 : Int32) mo_from mo_tapeA mo_kindA p0 (0 : Int32))
  else (some ((-2 : Int32), mo_taped, mo_fault, mo_place, mo_lines, mo_used, mo_state, mo_at, mo_from)))
def m_X6_fault (mo_fault : Int32) (mo_place : Int32) (p0 : Int32) : Option Int32 :=
  if p0 = 0 then (some mo_fault)
  else (if p0 = (1 : Int32) then (if mo_fault ≤ 0 then (some (-1 : Int32))
  else (some mo_place))
  else (some (-1 : Int32)))
def m_X6_line (mo_lines : Int32) (mo_kindA : Nat → Int32) (mo_countA : Nat → Int32) (mo_beginsA : Nat → Int32) (p0 : Int32) (p1 : Int32) : Option Int32 :=
  o_b (m_X6_isLine mo_lines p0) (fun r_1 =>
  if r_1 = 0 then (some (-1 : Int32))
  else (if p1 = 0 then (o_in p0 64 (o_let (mo_kindA p0.toNatClampNeg) (fun t_11 =>
  some t_11)))
  else (if p1 = (1 : Int32) then (o_in p0 64 (o_let (mo_countA p0.toNatClampNeg) (fun t_9 =>
  some t_9)))
  else (if p1 = (2 : Int32) then (o_in p0 64 (o_let (mo_beginsA p0.toNatClampNeg) (fun t_7 =>
  some t_7)))
  else (some (-1 : Int32))))))
def m_X6_number1 (mo_lines : Int32) (mo_firstA : Nat → Int32) (mo_countA : Nat → Int32) (mo_numbersA : Nat → Int64) (p0 : Int32) (p1 : Int32) : Option Int64 :=
  o_b (m_X6_isLine mo_lines p0) (fun r_1 =>
  if r_1 = 0 then (some (0 : Int64))
  else (if p1 < 0 then (some (0 : Int64))
  else (o_in p0 64 (if p1 < (mo_countA p0.toNatClampNeg) then (o_in p0 64 (o_let (mo_firstA p0.toNatClampNeg) (fun t_7 =>
  o_let (t_7 + p1) (fun t_8 =>
  o_in t_8 4200 (some (mo_numbersA t_8.toNatClampNeg))))))
  else (some (0 : Int64))))))
def m_X6_print (mo_lines : Int32) (mo_written : Int32) (mo_over : Int32) (mo_kindA : Nat → Int32) (p0 : Int32) : Option (Int32 × Int32 × Int32) :=
  o_b (m_X6_isLine mo_lines p0) (fun r_1 =>
  if r_1 = 0 then (some ((-1 : Int32), mo_written, mo_over))
  else (o_in p0 64 (o_let (mo_kindA p0.toNatClampNeg) (fun t_4 =>
  none))))
def m_X6_printed (mo_printed : Int32) (mo_outA : Nat → Int32) (p0 : Int32) : Option Int32 :=
  if p0 < 0 then (some (-1 : Int32))
  else (if p0 < mo_printed then (o_in p0 4000 (some (mo_outA p0.toNatClampNeg)))
  else (some (-1 : Int32)))
def m_X6_wipe_J45  (mo_taped : Int32) (mo_printed : Int32) (mo_tapeA : Nat → Int32) (mo_outA : Nat → Int32) (x2 : Int32) : Option (Int32 × Int32 × Int32 × (Nat → Int32)) :=
  some (x2, mo_taped, (0 : Int32), mo_tapeA)
def m_X6_wipe_J37  (mo_taped : Int32) (mo_printed : Int32) (mo_tapeA : Nat → Int32) (mo_outA : Nat → Int32) (x2 : Int32) : Option (Int32 × Int32 × Int32 × (Nat → Int32)) :=
  m_X6_wipe_J45  mo_printed mo_printed mo_tapeA mo_outA x2
def m_X6_wipe_L11  : Nat → Int32 → Int32 → (Nat → Int32) → (Nat → Int32) → Int32 → Int32 → Option (Int32 × Int32 × Int32 × (Nat → Int32))
  | 0, _, _, _, _, _, _ => none
  | n + 1, mo_taped, mo_printed, mo_tapeA, mo_outA, x2, x3 =>
    if mo_printed ≤ x3 then (m_X6_wipe_J37  mo_taped mo_printed mo_tapeA mo_outA x2)
    else (o_in x3 4000 (o_let (mo_outA x3.toNatClampNeg) (fun t_3 =>
    o_in x3 4000 (o_let (upd mo_tapeA x3.toNatClampNeg t_3) (fun f_5 =>
    o_let (x3 + 1) (fun t_6 =>
    m_X6_wipe_L11  n mo_taped mo_printed f_5 mo_outA x2 t_6))))))
def m_X6_wipe (mo_taped : Int32) (mo_printed : Int32) (mo_tapeA : Nat → Int32) (mo_outA : Nat → Int32) (p0 : Int32) : Option (Int32 × Int32 × Int32 × (Nat → Int32)) :=
  if p0 = 0 then (m_X6_wipe_J45  mo_taped mo_printed mo_tapeA mo_outA mo_printed)
  else (m_X6_wipe_L11  fu mo_taped mo_printed mo_tapeA mo_outA mo_printed (0 : Int32))
end
section
set_option maxHeartbeats 4000000 in
set_option maxRecDepth 100000 in
theorem c_X0_add {l : Launch} {D : va_G} {cB cI cL : ClassId} {a_br a_brb : Nat} {br_c : Int32} {br_o : Int32} {br_b : Nat → Int32} {p0 : Int32} {res : Int32 × Int32 × (Nat → Int32)} (h : m_X0_add br_c br_o br_b p0 = some res) : KMet l (⟨"LinkText$ByteRow", "add", "(I)V"⟩ : MethodName) (.code (⟨"LinkText$ByteRow", "add", "(I)V"⟩ : MethodName) prog_2_method_2_code 2 none :: k_tbl) ({ frames := 0, cells := 0, slots := 0, locals := 0 } : Room) (ev D cB cI cL) D vwCl [.ref a_br, .int p0] [(a_br, .inr (0, [.ref a_brb, .int br_c, .int br_o])), (a_brb, .inl (cB, 4000, .inl br_b))] (kQv D vwCl [(a_br, .inr (0, [.ref a_brb, .int res.1, .int res.2.1])), (a_brb, .inl (cB, 4000, .inl res.2.2))]) := by
  unfold m_X0_add at h
  refine kMet (cc := prog_2_method_2_code) (mL := 2) (ret := none) (own := "LinkText$ByteRow") (by decide) rfl rfl (Nat.le_of_ble_eq_true rfl) ?_
  intro p e s m below meth c A C hnm hE hA hP hD ls hl
  generalize ([.ref a_br, .int p0] : List Value).toArray = args at C ⊢
  obtain ⟨hx, hb, hr, hml, hown, hts, hlocks⟩ := id C
  have ht : ∀ w ∈ k_tbl, w.before args s = true := fun w h => hts w (List.mem_cons_of_mem _ h)
  have hS : va_S A s.heap s.heap [] := va_S.rf
  have hl : lv_has ls 2 [(0, .ref a_br), (1, .int p0)] := hl
  refine lv_aload_n hx hb dX0_add_0 rfl (lv_at hl 0 rfl) ?_
  refine va_get (D := D) (ci := 0) (v := .int br_c) (C := RX0) (T := TX0) (N := 3) hx hb ht inX0 hown hE.1 hP 0 rfl rfl 1 (by decide) (ht _ kw_30) (fun _ h9 => h9) rfl dX0_add_1 ?_
  refine lv_aload_n hx hb dX0_add_4 rfl (lv_at hl 0 rfl) ?_
  refine va_get (D := D) (ci := 0) (v := .ref a_brb) (C := RX0) (T := TX0) (N := 3) hx hb ht inX0 hown hE.1 hP 0 rfl rfl 0 (by decide) (ht _ kw_28) (fun _ h9 => h9) rfl dX0_add_5 ?_
  refine va_alen (v := 4000) hx hb hE.1 hP 1 0 rfl rfl rfl dX0_add_8 ?_
  refine lv_icmp_lt (tgt := 18) hx hb dX0_add_9 (by decide) (fun c_1 => ?_) (fun c_1 => ?_)
  · replace h := o_t c_1 h
    refine lv_aload_n hx hb dX0_add_18 rfl (lv_at hl 0 rfl) ?_
    refine va_get (D := D) (ci := 0) (v := .ref a_brb) (C := RX0) (T := TX0) (N := 3) hx hb ht inX0 hown hE.1 hP 0 rfl rfl 0 (by decide) (ht _ kw_28) (fun _ h9 => h9) rfl dX0_add_19 ?_
    refine lv_aload_n hx hb dX0_add_22 rfl (lv_at hl 0 rfl) ?_
    refine va_get (D := D) (ci := 0) (v := .int br_c) (C := RX0) (T := TX0) (N := 3) hx hb ht inX0 hown hE.1 hP 0 rfl rfl 1 (by decide) (ht _ kw_30) (fun _ h9 => h9) rfl dX0_add_23 ?_
    refine lv_iload_n hx hb dX0_add_26 rfl (lv_at hl 1 rfl) ?_
    refine lv_i2b hx hb dX0_add_27 rfl ?_
    obtain ⟨hz_2, h⟩ := o_in_s h
    obtain ⟨f_3, ef_3⟩ : ∃ y, y = upd br_b br_c.toNatClampNeg (vp_nar .byte p0.toInt8.toInt32) := ⟨_, rfl⟩
    replace h := o_let_s ef_3 h
    refine va_bast hx hb hE.1 hP hD hS 1 0 rfl rfl hz_2 dX0_add_28 (fun H locs hP hD hS => ?_)
    rw [← ef_3] at hP hD
    have hP : va_P D vwCl [(a_br, .inr (0, [.ref a_brb, .int br_c, .int br_o])), (a_brb, .inl (cB, 4000, .inl f_3))] H := hP
    have hD : va_D A [(a_br, .inr (0, [.ref a_brb, .int br_c, .int br_o])), (a_brb, .inl (cB, 4000, .inl f_3))] := hD
    refine lv_aload_n hx hb dX0_add_29 rfl (lv_at hl 0 rfl) ?_
    refine lv_dup hx hb dX0_add_30 rfl ?_
    refine va_get (D := D) (ci := 0) (v := .int br_c) (C := RX0) (T := TX0) (N := 3) hx hb ht inX0 hown hE.1 hP 0 rfl rfl 1 (by decide) (ht _ kw_30) (fun _ h9 => h9) rfl dX0_add_31 ?_
    refine lv_iconst (v := 1) hx hb dX0_add_34 (by decide) ?_
    refine lv_iadd hx hb dX0_add_35 ?_
    refine lv_topi (fun t_4 et_4 => ?_)
    replace h := o_let_s et_4 h
    refine va_put (D := D) (ci := 0) (v := .int t_4) (ty := .int) (C := RX0) (T := TX0) (N := 3) hx hb ht inX0 tyX0 tyX0_ok nmX0 hown hE.1 hP hD hS 0 rfl rfl 1 (by decide) (ht _ kw_30) (fun _ h9 => h9) rfl (by decide +kernel) rfl rfl (Nat.le_of_ble_eq_true rfl) dX0_add_36 (fun H locs hP hD hS => ?_)
    have hP : va_P D vwCl [(a_br, .inr (0, [.ref a_brb, .int t_4, .int br_o])), (a_brb, .inl (cB, 4000, .inl f_3))] H := hP
    have hD : va_D A [(a_br, .inr (0, [.ref a_brb, .int t_4, .int br_o])), (a_brb, .inl (cB, 4000, .inl f_3))] := hD
    obtain rfl := Option.some.inj h
    exact kRet_v C hP hD hS dX0_add_39
  · replace h := o_f c_1 h
    refine lv_aload_n hx hb dX0_add_12 rfl (lv_at hl 0 rfl) ?_
    refine lv_iconst (v := 1) hx hb dX0_add_13 (by decide) ?_
    refine va_put (D := D) (ci := 0) (v := .int (1 : Int32)) (ty := .boolean) (C := RX0) (T := TX0) (N := 3) hx hb ht inX0 tyX0 tyX0_ok nmX0 hown hE.1 hP hD hS 0 rfl rfl 2 (by decide) (ht _ kw_32) (fun _ h9 => h9) rfl (by decide +kernel) rfl rfl (Nat.le_of_ble_eq_true rfl) dX0_add_14 (fun H locs hP hD hS => ?_)
    have hP : va_P D vwCl [(a_br, .inr (0, [.ref a_brb, .int br_c, .int (1 : Int32)])), (a_brb, .inl (cB, 4000, .inl br_b))] H := hP
    have hD : va_D A [(a_br, .inr (0, [.ref a_brb, .int br_c, .int (1 : Int32)])), (a_brb, .inl (cB, 4000, .inl br_b))] := hD
    obtain rfl := Option.some.inj h
    exact kRet_v C hP hD hS dX0_add_17
set_option maxHeartbeats 4000000 in
set_option maxRecDepth 100000 in
theorem c_X0_cutTo {l : Launch} {D : va_G} {cB cI cL : ClassId} {a_br a_brb : Nat} {br_c : Int32} {br_o : Int32} {br_b : Nat → Int32} {p0 : Int32} {res : Int32 × Int32} (h : m_X0_cutTo br_c br_o p0 = some res) : KMet l (⟨"LinkText$ByteRow", "cutTo", "(I)V"⟩ : MethodName) (.code (⟨"LinkText$ByteRow", "cutTo", "(I)V"⟩ : MethodName) prog_2_method_3_code 2 none :: k_tbl) ({ frames := 0, cells := 0, slots := 0, locals := 0 } : Room) (ev D cB cI cL) D vwCl [.ref a_br, .int p0] [(a_br, .inr (0, [.ref a_brb, .int br_c, .int br_o])), (a_brb, .inl (cB, 4000, .inl br_b))] (kQv D vwCl [(a_br, .inr (0, [.ref a_brb, .int res.1, .int res.2])), (a_brb, .inl (cB, 4000, .inl br_b))]) := by
  unfold m_X0_cutTo at h
  refine kMet (cc := prog_2_method_3_code) (mL := 2) (ret := none) (own := "LinkText$ByteRow") (by decide) rfl rfl (Nat.le_of_ble_eq_true rfl) ?_
  intro p e s m below meth c A C hnm hE hA hP hD ls hl
  generalize ([.ref a_br, .int p0] : List Value).toArray = args at C ⊢
  obtain ⟨hx, hb, hr, hml, hown, hts, hlocks⟩ := id C
  have ht : ∀ w ∈ k_tbl, w.before args s = true := fun w h => hts w (List.mem_cons_of_mem _ h)
  have hS : va_S A s.heap s.heap [] := va_S.rf
  have hl : lv_has ls 2 [(0, .ref a_br), (1, .int p0)] := hl
  refine lv_aload_n hx hb dX0_cutTo_0 rfl (lv_at hl 0 rfl) ?_
  refine lv_iload_n hx hb dX0_cutTo_1 rfl (lv_at hl 1 rfl) ?_
  refine va_put (D := D) (ci := 0) (v := .int p0) (ty := .int) (C := RX0) (T := TX0) (N := 3) hx hb ht inX0 tyX0 tyX0_ok nmX0 hown hE.1 hP hD hS 0 rfl rfl 1 (by decide) (ht _ kw_30) (fun _ h9 => h9) rfl (by decide +kernel) rfl rfl (Nat.le_of_ble_eq_true rfl) dX0_cutTo_2 (fun H locs hP hD hS => ?_)
  have hP : va_P D vwCl [(a_br, .inr (0, [.ref a_brb, .int p0, .int br_o])), (a_brb, .inl (cB, 4000, .inl br_b))] H := hP
  have hD : va_D A [(a_br, .inr (0, [.ref a_brb, .int p0, .int br_o])), (a_brb, .inl (cB, 4000, .inl br_b))] := hD
  refine lv_aload_n hx hb dX0_cutTo_5 rfl (lv_at hl 0 rfl) ?_
  refine lv_iconst (v := 0) hx hb dX0_cutTo_6 (by decide) ?_
  refine va_put (D := D) (ci := 0) (v := .int (0 : Int32)) (ty := .boolean) (C := RX0) (T := TX0) (N := 3) hx hb ht inX0 tyX0 tyX0_ok nmX0 hown hE.1 hP hD hS 0 rfl rfl 2 (by decide) (ht _ kw_32) (fun _ h9 => h9) rfl (by decide +kernel) rfl rfl (Nat.le_of_ble_eq_true rfl) dX0_cutTo_7 (fun H locs hP hD hS => ?_)
  have hP : va_P D vwCl [(a_br, .inr (0, [.ref a_brb, .int p0, .int (0 : Int32)])), (a_brb, .inl (cB, 4000, .inl br_b))] H := hP
  have hD : va_D A [(a_br, .inr (0, [.ref a_brb, .int p0, .int (0 : Int32)])), (a_brb, .inl (cB, 4000, .inl br_b))] := hD
  obtain rfl := Option.some.inj h
  exact kRet_v C hP hD hS dX0_cutTo_10
set_option maxHeartbeats 4000000 in
set_option maxRecDepth 100000 in
theorem c_X0_byteAt {l : Launch} {D : va_G} {cB cI cL : ClassId} {a_br a_brb : Nat} {br_c : Int32} {br_o : Int32} {br_b : Nat → Int32} {p0 : Int32} {res : Int32} (h : m_X0_byteAt br_c br_b p0 = some res) : KMet l (⟨"LinkText$ByteRow", "byteAt", "(I)I"⟩ : MethodName) (.code (⟨"LinkText$ByteRow", "byteAt", "(I)I"⟩ : MethodName) prog_2_method_4_code 2 (some .int) :: k_tbl) ({ frames := 0, cells := 0, slots := 0, locals := 0 } : Room) (ev D cB cI cL) D vwCl [.ref a_br, .int p0] [(a_br, .inr (0, [.ref a_brb, .int br_c, .int br_o])), (a_brb, .inl (cB, 4000, .inl br_b))] (kQi D vwCl [(a_br, .inr (0, [.ref a_brb, .int br_c, .int br_o])), (a_brb, .inl (cB, 4000, .inl br_b))] res) := by
  unfold m_X0_byteAt at h
  refine kMet (cc := prog_2_method_4_code) (mL := 2) (ret := (some .int)) (own := "LinkText$ByteRow") (by decide) rfl rfl (Nat.le_of_ble_eq_true rfl) ?_
  intro p e s m below meth c A C hnm hE hA hP hD ls hl
  generalize ([.ref a_br, .int p0] : List Value).toArray = args at C ⊢
  obtain ⟨hx, hb, hr, hml, hown, hts, hlocks⟩ := id C
  have ht : ∀ w ∈ k_tbl, w.before args s = true := fun w h => hts w (List.mem_cons_of_mem _ h)
  have hS : va_S A s.heap s.heap [] := va_S.rf
  have hl : lv_has ls 2 [(0, .ref a_br), (1, .int p0)] := hl
  refine lv_iload_n hx hb dX0_byteAt_0 rfl (lv_at hl 1 rfl) ?_
  refine lv_if_lt (tgt := 12) hx hb dX0_byteAt_1 (by decide) (fun c_1 => ?_) (fun c_1 => ?_)
  · replace h := o_t c_1 h
    refine lv_iconst (v := -1) hx hb dX0_byteAt_12 (by decide) ?_
    refine lv_goto (tgt := 26) hx hb dX0_byteAt_13 (by decide) ?_
    obtain rfl := Option.some.inj h
    exact kRet_i C hP hD hS dX0_byteAt_26
  · replace h := o_f c_1 h
    refine lv_iload_n hx hb dX0_byteAt_4 rfl (lv_at hl 1 rfl) ?_
    refine lv_aload_n hx hb dX0_byteAt_5 rfl (lv_at hl 0 rfl) ?_
    refine va_get (D := D) (ci := 0) (v := .int br_c) (C := RX0) (T := TX0) (N := 3) hx hb ht inX0 hown hE.1 hP 0 rfl rfl 1 (by decide) (ht _ kw_30) (fun _ h9 => h9) rfl dX0_byteAt_6 ?_
    refine lv_icmp_lt (tgt := 16) hx hb dX0_byteAt_9 (by decide) (fun c_2 => ?_) (fun c_2 => ?_)
    · replace h := o_t c_2 h
      refine lv_aload_n hx hb dX0_byteAt_16 rfl (lv_at hl 0 rfl) ?_
      refine va_get (D := D) (ci := 0) (v := .ref a_brb) (C := RX0) (T := TX0) (N := 3) hx hb ht inX0 hown hE.1 hP 0 rfl rfl 0 (by decide) (ht _ kw_28) (fun _ h9 => h9) rfl dX0_byteAt_17 ?_
      refine lv_iload_n hx hb dX0_byteAt_20 rfl (lv_at hl 1 rfl) ?_
      obtain ⟨hz_3, h⟩ := o_in_s h
      refine va_bald hx hb hE.1 hP 1 0 rfl rfl hz_3 dX0_byteAt_21 ?_
      refine lv_topi (fun t_4 et_4 => ?_)
      replace h := o_let_s et_4 h
      refine lv_sipush (v := 255) hx hb dX0_byteAt_22 (by decide) ?_
      refine lv_iand hx hb dX0_byteAt_25 ?_
      obtain rfl := Option.some.inj h
      exact kRet_i C hP hD hS dX0_byteAt_26
    · replace h := o_f c_2 h
      refine lv_iconst (v := -1) hx hb dX0_byteAt_12 (by decide) ?_
      refine lv_goto (tgt := 26) hx hb dX0_byteAt_13 (by decide) ?_
      obtain rfl := Option.some.inj h
      exact kRet_i C hP hD hS dX0_byteAt_26
set_option maxHeartbeats 4000000 in
set_option maxRecDepth 100000 in
theorem c_X0_copy {l : Launch} {D : va_G} {cB cI cL : ClassId} {a_br a_brb a_ot a_otb : Nat} {br_c : Int32} {br_o : Int32} {br_b : Nat → Int32} {ot_c : Int32} {ot_o : Int32} {ot_b : Nat → Int32} {res : Int32 × Int32 × (Nat → Int32)} (h : m_X0_copy br_c br_o br_b ot_c ot_b = some res) : KMet l (⟨"LinkText$ByteRow", "copy", "(LLinkText$ByteRow;)V"⟩ : MethodName) (.code (⟨"LinkText$ByteRow", "copy", "(LLinkText$ByteRow;)V"⟩ : MethodName) prog_2_method_5_code 2 none :: k_tbl) ({ frames := 1, cells := 0, slots := 0, locals := 40 } : Room) (ev D cB cI cL) D vwCl [.ref a_br, .ref a_ot] [(a_br, .inr (0, [.ref a_brb, .int br_c, .int br_o])), (a_brb, .inl (cB, 4000, .inl br_b)), (a_ot, .inr (0, [.ref a_otb, .int ot_c, .int ot_o])), (a_otb, .inl (cB, 4000, .inl ot_b))] (kQv D vwCl [(a_br, .inr (0, [.ref a_brb, .int res.1, .int res.2.1])), (a_brb, .inl (cB, 4000, .inl res.2.2)), (a_ot, .inr (0, [.ref a_otb, .int ot_c, .int ot_o])), (a_otb, .inl (cB, 4000, .inl ot_b))]) := by
  unfold m_X0_copy at h
  refine kMet (cc := prog_2_method_5_code) (mL := 2) (ret := none) (own := "LinkText$ByteRow") (by decide) rfl rfl (Nat.le_of_ble_eq_true rfl) ?_
  intro p e s m below meth c A C hnm hE hA hP hD ls hl
  generalize ([.ref a_br, .ref a_ot] : List Value).toArray = args at C ⊢
  obtain ⟨hx, hb, hr, hml, hown, hts, hlocks⟩ := id C
  have ht : ∀ w ∈ k_tbl, w.before args s = true := fun w h => hts w (List.mem_cons_of_mem _ h)
  have hS : va_S A s.heap s.heap [] := va_S.rf
  have hl : lv_has ls 2 [(0, .ref a_br), (1, .ref a_ot)] := hl
  refine lv_aload_n hx hb dX0_copy_0 rfl (lv_at hl 1 rfl) ?_
  refine va_get (D := D) (ci := 0) (v := .ref a_otb) (C := RX0) (T := TX0) (N := 3) hx hb ht inX0 hown hE.1 hP 2 rfl rfl 0 (by decide) (ht _ kw_28) (fun _ h9 => h9) rfl dX0_copy_1 ?_
  refine lv_iconst (v := 0) hx hb dX0_copy_4 (by decide) ?_
  refine lv_aload_n hx hb dX0_copy_5 rfl (lv_at hl 0 rfl) ?_
  refine va_get (D := D) (ci := 0) (v := .ref a_brb) (C := RX0) (T := TX0) (N := 3) hx hb ht inX0 hown hE.1 hP 0 rfl rfl 0 (by decide) (ht _ kw_28) (fun _ h9 => h9) rfl dX0_copy_6 ?_
  refine lv_iconst (v := 0) hx hb dX0_copy_9 (by decide) ?_
  refine lv_aload_n hx hb dX0_copy_10 rfl (lv_at hl 1 rfl) ?_
  refine va_get (D := D) (ci := 0) (v := .int ot_c) (C := RX0) (T := TX0) (N := 3) hx hb ht inX0 hown hE.1 hP 2 rfl rfl 1 (by decide) (ht _ kw_30) (fun _ h9 => h9) rfl dX0_copy_11 ?_
  obtain ⟨hz_1, h⟩ := o_cpy_s h
  obtain ⟨f_2, ef_2⟩ : ∃ y, y = va_cpy ot_b br_b (0 : Int32).toNatClampNeg (0 : Int32).toNatClampNeg ot_c.toNatClampNeg := ⟨_, rfl⟩
  replace h := o_let_s ef_2 h
  refine va_copyi (ty := .byte) hx hb (hml.trans hl.1.symm) hown (ht _ kw_505) (ht _ kw_507) (ht _ kw_506) (ht _ kw_13) hE.1 hP hD hS 3 1 0 0 rfl rfl rfl rfl rfl hz_1.1 hz_1.2.1 hz_1.2.2.1 hz_1.2.2.2.1 hz_1.2.2.2.2.1 hz_1.2.2.2.2.2 (by decide) (by decide) dX0_copy_14 (fun H locs hP hD hS => ?_)
  rw [← ef_2] at hP hD
  have hP : va_P D vwCl [(a_br, .inr (0, [.ref a_brb, .int br_c, .int br_o])), (a_brb, .inl (cB, 4000, .inl f_2)), (a_ot, .inr (0, [.ref a_otb, .int ot_c, .int ot_o])), (a_otb, .inl (cB, 4000, .inl ot_b))] H := hP
  have hD : va_D A [(a_br, .inr (0, [.ref a_brb, .int br_c, .int br_o])), (a_brb, .inl (cB, 4000, .inl f_2)), (a_ot, .inr (0, [.ref a_otb, .int ot_c, .int ot_o])), (a_otb, .inl (cB, 4000, .inl ot_b))] := hD
  refine lv_aload_n hx hb dX0_copy_17 rfl (lv_at hl 0 rfl) ?_
  refine lv_aload_n hx hb dX0_copy_18 rfl (lv_at hl 1 rfl) ?_
  refine va_get (D := D) (ci := 0) (v := .int ot_c) (C := RX0) (T := TX0) (N := 3) hx hb ht inX0 hown hE.1 hP 2 rfl rfl 1 (by decide) (ht _ kw_30) (fun _ h9 => h9) rfl dX0_copy_19 ?_
  obtain ⟨r_3, hr_3, h⟩ := o_b_s h
  refine kCv (w' := [(a_br, .inr (0, [.ref a_brb, .int r_3.1, .int r_3.2])), (a_brb, .inl (cB, 4000, .inl f_2)), (a_ot, .inr (0, [.ref a_otb, .int ot_c, .int ot_o])), (a_otb, .inl (cB, 4000, .inl ot_b))]) hP hD hS hA [0, 1] [2, 3] [2, 3, 0, 1] (kRunV (rest := []) C ev_ok hE hA hP hD hS [0, 1] rfl rfl rfl (c_X0_cutTo hr_3) hE.1 0 0 rfl rfl (cwV 1 ht (gV kw_508 kw_377 kw_378 kw_2 kw_379) rfl rfl rfl (by decide +kernel) ⟨Nat.le_of_ble_eq_true rfl, Nat.le_of_ble_eq_true rfl⟩) rfl hl.1 rfl (Nat.le_of_ble_eq_true rfl) dX0_copy_22 ⟨Nat.le_of_ble_eq_true rfl, Nat.le_of_ble_eq_true rfl⟩) rfl rfl rfl (by decide) rfl rfl rfl (fun H locs hP hD hS => ?_)
  obtain rfl := Option.some.inj h
  exact kRet_v C hP hD hS dX0_copy_25
set_option maxHeartbeats 4000000 in
set_option maxRecDepth 100000 in
theorem c_X1_clear {l : Launch} {D : va_G} {cB cI cL : ClassId} {a_ln a_lnk a_lnp a_lnf a_lns a_lnn : Nat} {ln_c : Int32} {ln_m : Int32} {ln_k : Nat → Int32} {ln_p : Nat → Int32} {ln_f : Nat → Int32} {ln_s : Nat → Int32} {ln_n : Nat → Int64} {res : Int32 × Int32} (h : m_X1_clear ln_c ln_m = some res) : KMet l (⟨"LinkText$Lines", "clear", "()V"⟩ : MethodName) (.code (⟨"LinkText$Lines", "clear", "()V"⟩ : MethodName) prog_3_method_2_code 1 none :: k_tbl) ({ frames := 0, cells := 0, slots := 0, locals := 0 } : Room) (ev D cB cI cL) D vwCl [.ref a_ln] [(a_ln, .inr (1, [.ref a_lnk, .ref a_lnp, .ref a_lnf, .ref a_lns, .ref a_lnn, .int ln_c, .int ln_m])), (a_lnk, .inl (cI, 64, .inl ln_k)), (a_lnp, .inl (cI, 64, .inl ln_p)), (a_lnf, .inl (cI, 64, .inl ln_f)), (a_lns, .inl (cI, 64, .inl ln_s)), (a_lnn, .inl (cL, 4000, .inr (.inl ln_n)))] (kQv D vwCl [(a_ln, .inr (1, [.ref a_lnk, .ref a_lnp, .ref a_lnf, .ref a_lns, .ref a_lnn, .int res.1, .int res.2])), (a_lnk, .inl (cI, 64, .inl ln_k)), (a_lnp, .inl (cI, 64, .inl ln_p)), (a_lnf, .inl (cI, 64, .inl ln_f)), (a_lns, .inl (cI, 64, .inl ln_s)), (a_lnn, .inl (cL, 4000, .inr (.inl ln_n)))]) := by
  unfold m_X1_clear at h
  refine kMet (cc := prog_3_method_2_code) (mL := 1) (ret := none) (own := "LinkText$Lines") (by decide) rfl rfl (Nat.le_of_ble_eq_true rfl) ?_
  intro p e s m below meth c A C hnm hE hA hP hD ls hl
  generalize ([.ref a_ln] : List Value).toArray = args at C ⊢
  obtain ⟨hx, hb, hr, hml, hown, hts, hlocks⟩ := id C
  have ht : ∀ w ∈ k_tbl, w.before args s = true := fun w h => hts w (List.mem_cons_of_mem _ h)
  have hS : va_S A s.heap s.heap [] := va_S.rf
  have hl : lv_has ls 1 [(0, .ref a_ln)] := hl
  refine lv_aload_n hx hb dX1_clear_0 rfl (lv_at hl 0 rfl) ?_
  refine lv_iconst (v := 0) hx hb dX1_clear_1 (by decide) ?_
  refine va_put (D := D) (ci := 1) (v := .int (0 : Int32)) (ty := .int) (C := RX1) (T := TX1) (N := 7) hx hb ht inX1 tyX1 tyX1_ok nmX1 hown hE.1 hP hD hS 0 rfl rfl 5 (by decide) (ht _ kw_53) (fun _ h9 => h9) rfl (by decide +kernel) rfl rfl (Nat.le_of_ble_eq_true rfl) dX1_clear_2 (fun H locs hP hD hS => ?_)
  have hP : va_P D vwCl [(a_ln, .inr (1, [.ref a_lnk, .ref a_lnp, .ref a_lnf, .ref a_lns, .ref a_lnn, .int (0 : Int32), .int ln_m])), (a_lnk, .inl (cI, 64, .inl ln_k)), (a_lnp, .inl (cI, 64, .inl ln_p)), (a_lnf, .inl (cI, 64, .inl ln_f)), (a_lns, .inl (cI, 64, .inl ln_s)), (a_lnn, .inl (cL, 4000, .inr (.inl ln_n)))] H := hP
  have hD : va_D A [(a_ln, .inr (1, [.ref a_lnk, .ref a_lnp, .ref a_lnf, .ref a_lns, .ref a_lnn, .int (0 : Int32), .int ln_m])), (a_lnk, .inl (cI, 64, .inl ln_k)), (a_lnp, .inl (cI, 64, .inl ln_p)), (a_lnf, .inl (cI, 64, .inl ln_f)), (a_lns, .inl (cI, 64, .inl ln_s)), (a_lnn, .inl (cL, 4000, .inr (.inl ln_n)))] := hD
  refine lv_aload_n hx hb dX1_clear_5 rfl (lv_at hl 0 rfl) ?_
  refine lv_iconst (v := 0) hx hb dX1_clear_6 (by decide) ?_
  refine va_put (D := D) (ci := 1) (v := .int (0 : Int32)) (ty := .int) (C := RX1) (T := TX1) (N := 7) hx hb ht inX1 tyX1 tyX1_ok nmX1 hown hE.1 hP hD hS 0 rfl rfl 6 (by decide) (ht _ kw_56) (fun _ h9 => h9) rfl (by decide +kernel) rfl rfl (Nat.le_of_ble_eq_true rfl) dX1_clear_7 (fun H locs hP hD hS => ?_)
  have hP : va_P D vwCl [(a_ln, .inr (1, [.ref a_lnk, .ref a_lnp, .ref a_lnf, .ref a_lns, .ref a_lnn, .int (0 : Int32), .int (0 : Int32)])), (a_lnk, .inl (cI, 64, .inl ln_k)), (a_lnp, .inl (cI, 64, .inl ln_p)), (a_lnf, .inl (cI, 64, .inl ln_f)), (a_lns, .inl (cI, 64, .inl ln_s)), (a_lnn, .inl (cL, 4000, .inr (.inl ln_n)))] H := hP
  have hD : va_D A [(a_ln, .inr (1, [.ref a_lnk, .ref a_lnp, .ref a_lnf, .ref a_lns, .ref a_lnn, .int (0 : Int32), .int (0 : Int32)])), (a_lnk, .inl (cI, 64, .inl ln_k)), (a_lnp, .inl (cI, 64, .inl ln_p)), (a_lnf, .inl (cI, 64, .inl ln_f)), (a_lns, .inl (cI, 64, .inl ln_s)), (a_lnn, .inl (cL, 4000, .inr (.inl ln_n)))] := hD
  obtain rfl := Option.some.inj h
  exact kRet_v C hP hD hS dX1_clear_10
set_option maxHeartbeats 4000000 in
set_option maxRecDepth 100000 in
theorem c_X1_has {l : Launch} {D : va_G} {cB cI cL : ClassId} {a_ln a_lnk a_lnp a_lnf a_lns a_lnn : Nat} {ln_c : Int32} {ln_m : Int32} {ln_k : Nat → Int32} {ln_p : Nat → Int32} {ln_f : Nat → Int32} {ln_s : Nat → Int32} {ln_n : Nat → Int64} {p0 : Int32} {res : Int32} (h : m_X1_has ln_c p0 = some res) : KMet l (⟨"LinkText$Lines", "has", "(I)Z"⟩ : MethodName) (.code (⟨"LinkText$Lines", "has", "(I)Z"⟩ : MethodName) prog_3_method_5_code 2 (some .boolean) :: k_tbl) ({ frames := 0, cells := 0, slots := 0, locals := 0 } : Room) (ev D cB cI cL) D vwCl [.ref a_ln, .int p0] [(a_ln, .inr (1, [.ref a_lnk, .ref a_lnp, .ref a_lnf, .ref a_lns, .ref a_lnn, .int ln_c, .int ln_m])), (a_lnk, .inl (cI, 64, .inl ln_k)), (a_lnp, .inl (cI, 64, .inl ln_p)), (a_lnf, .inl (cI, 64, .inl ln_f)), (a_lns, .inl (cI, 64, .inl ln_s)), (a_lnn, .inl (cL, 4000, .inr (.inl ln_n)))] (kQi D vwCl [(a_ln, .inr (1, [.ref a_lnk, .ref a_lnp, .ref a_lnf, .ref a_lns, .ref a_lnn, .int ln_c, .int ln_m])), (a_lnk, .inl (cI, 64, .inl ln_k)), (a_lnp, .inl (cI, 64, .inl ln_p)), (a_lnf, .inl (cI, 64, .inl ln_f)), (a_lns, .inl (cI, 64, .inl ln_s)), (a_lnn, .inl (cL, 4000, .inr (.inl ln_n)))] res) := by
  unfold m_X1_has at h
  refine kMet (cc := prog_3_method_5_code) (mL := 2) (ret := (some .boolean)) (own := "LinkText$Lines") (by decide) rfl rfl (Nat.le_of_ble_eq_true rfl) ?_
  intro p e s m below meth c A C hnm hE hA hP hD ls hl
  generalize ([.ref a_ln, .int p0] : List Value).toArray = args at C ⊢
  obtain ⟨hx, hb, hr, hml, hown, hts, hlocks⟩ := id C
  have ht : ∀ w ∈ k_tbl, w.before args s = true := fun w h => hts w (List.mem_cons_of_mem _ h)
  have hS : va_S A s.heap s.heap [] := va_S.rf
  have hl : lv_has ls 2 [(0, .ref a_ln), (1, .int p0)] := hl
  refine lv_iload_n hx hb dX1_has_0 rfl (lv_at hl 1 rfl) ?_
  refine lv_if_lt (tgt := 16) hx hb dX1_has_1 (by decide) (fun c_1 => ?_) (fun c_1 => ?_)
  · replace h := o_t c_1 h
    refine lv_iconst (v := 0) hx hb dX1_has_16 (by decide) ?_
    obtain rfl := Option.some.inj h
    exact kRet_z C (by decide) hP hD hS dX1_has_17
  · replace h := o_f c_1 h
    refine lv_iload_n hx hb dX1_has_4 rfl (lv_at hl 1 rfl) ?_
    refine lv_aload_n hx hb dX1_has_5 rfl (lv_at hl 0 rfl) ?_
    refine va_get (D := D) (ci := 1) (v := .int ln_c) (C := RX1) (T := TX1) (N := 7) hx hb ht inX1 hown hE.1 hP 0 rfl rfl 5 (by decide) (ht _ kw_53) (fun _ h9 => h9) rfl dX1_has_6 ?_
    refine lv_icmp_ge (tgt := 16) hx hb dX1_has_9 (by decide) (fun c_2 => ?_) (fun c_2 => ?_)
    · replace h := o_t c_2 h
      refine lv_iconst (v := 0) hx hb dX1_has_16 (by decide) ?_
      obtain rfl := Option.some.inj h
      exact kRet_z C (by decide) hP hD hS dX1_has_17
    · replace h := o_f c_2 h
      refine lv_iconst (v := 1) hx hb dX1_has_12 (by decide) ?_
      refine lv_goto (tgt := 17) hx hb dX1_has_13 (by decide) ?_
      obtain rfl := Option.some.inj h
      exact kRet_z C (by decide) hP hD hS dX1_has_17
set_option maxHeartbeats 4000000 in
set_option maxRecDepth 100000 in
theorem c_X1_sizeOf {l : Launch} {D : va_G} {cB cI cL : ClassId} {a_ln a_lnk a_lnp a_lnf a_lns a_lnn : Nat} {ln_c : Int32} {ln_m : Int32} {ln_k : Nat → Int32} {ln_p : Nat → Int32} {ln_f : Nat → Int32} {ln_s : Nat → Int32} {ln_n : Nat → Int64} {p0 : Int32} {res : Int32} (h : m_X1_sizeOf ln_c ln_s p0 = some res) : KMet l (⟨"LinkText$Lines", "sizeOf", "(I)I"⟩ : MethodName) (.code (⟨"LinkText$Lines", "sizeOf", "(I)I"⟩ : MethodName) prog_3_method_7_code 2 (some .int) :: k_tbl) ({ frames := 1, cells := 0, slots := 0, locals := 21 } : Room) (ev D cB cI cL) D vwCl [.ref a_ln, .int p0] [(a_ln, .inr (1, [.ref a_lnk, .ref a_lnp, .ref a_lnf, .ref a_lns, .ref a_lnn, .int ln_c, .int ln_m])), (a_lnk, .inl (cI, 64, .inl ln_k)), (a_lnp, .inl (cI, 64, .inl ln_p)), (a_lnf, .inl (cI, 64, .inl ln_f)), (a_lns, .inl (cI, 64, .inl ln_s)), (a_lnn, .inl (cL, 4000, .inr (.inl ln_n)))] (kQi D vwCl [(a_ln, .inr (1, [.ref a_lnk, .ref a_lnp, .ref a_lnf, .ref a_lns, .ref a_lnn, .int ln_c, .int ln_m])), (a_lnk, .inl (cI, 64, .inl ln_k)), (a_lnp, .inl (cI, 64, .inl ln_p)), (a_lnf, .inl (cI, 64, .inl ln_f)), (a_lns, .inl (cI, 64, .inl ln_s)), (a_lnn, .inl (cL, 4000, .inr (.inl ln_n)))] res) := by
  unfold m_X1_sizeOf at h
  refine kMet (cc := prog_3_method_7_code) (mL := 2) (ret := (some .int)) (own := "LinkText$Lines") (by decide) rfl rfl (Nat.le_of_ble_eq_true rfl) ?_
  intro p e s m below meth c A C hnm hE hA hP hD ls hl
  generalize ([.ref a_ln, .int p0] : List Value).toArray = args at C ⊢
  obtain ⟨hx, hb, hr, hml, hown, hts, hlocks⟩ := id C
  have ht : ∀ w ∈ k_tbl, w.before args s = true := fun w h => hts w (List.mem_cons_of_mem _ h)
  have hS : va_S A s.heap s.heap [] := va_S.rf
  have hl : lv_has ls 2 [(0, .ref a_ln), (1, .int p0)] := hl
  refine lv_aload_n hx hb dX1_sizeOf_0 rfl (lv_at hl 0 rfl) ?_
  refine lv_iload_n hx hb dX1_sizeOf_1 rfl (lv_at hl 1 rfl) ?_
  obtain ⟨r_1, hr_1, h⟩ := o_b_s h
  refine kCi (w' := [(a_ln, .inr (1, [.ref a_lnk, .ref a_lnp, .ref a_lnf, .ref a_lns, .ref a_lnn, .int ln_c, .int ln_m])), (a_lnk, .inl (cI, 64, .inl ln_k)), (a_lnp, .inl (cI, 64, .inl ln_p)), (a_lnf, .inl (cI, 64, .inl ln_f)), (a_lns, .inl (cI, 64, .inl ln_s)), (a_lnn, .inl (cL, 4000, .inr (.inl ln_n)))]) hP hD hS hA [0, 1, 2, 3, 4, 5] [] [0, 1, 2, 3, 4, 5] (kRunV (rest := []) C ev_ok hE hA hP hD hS [0, 1, 2, 3, 4, 5] rfl rfl rfl (c_X1_has hr_1) hE.1 0 1 rfl rfl (cwV 1 ht (gV kw_397 kw_390 kw_391 kw_3 kw_392) rfl rfl rfl (by decide +kernel) ⟨Nat.le_of_ble_eq_true rfl, Nat.le_of_ble_eq_true rfl⟩) rfl hl.1 rfl (Nat.le_of_ble_eq_true rfl) dX1_sizeOf_2 ⟨Nat.le_of_ble_eq_true rfl, Nat.le_of_ble_eq_true rfl⟩) rfl rfl rfl (by decide) rfl rfl rfl (fun H locs hP hD hS => ?_)
  refine lv_if_eq (tgt := 17) hx hb dX1_sizeOf_5 (by decide) (fun c_2 => ?_) (fun c_2 => ?_)
  · replace h := o_t c_2 h
    refine lv_iconst (v := 0) hx hb dX1_sizeOf_17 (by decide) ?_
    obtain rfl := Option.some.inj h
    exact kRet_i C hP hD hS dX1_sizeOf_18
  · replace h := o_f c_2 h
    refine lv_aload_n hx hb dX1_sizeOf_8 rfl (lv_at hl 0 rfl) ?_
    refine va_get (D := D) (ci := 1) (v := .ref a_lns) (C := RX1) (T := TX1) (N := 7) hx hb ht inX1 hown hE.1 hP 0 rfl rfl 3 (by decide) (ht _ kw_51) (fun _ h9 => h9) rfl dX1_sizeOf_9 ?_
    refine lv_iload_n hx hb dX1_sizeOf_12 rfl (lv_at hl 1 rfl) ?_
    obtain ⟨hz_3, h⟩ := o_in_s h
    refine va_iald hx hb hE.1 hP 4 1 rfl rfl hz_3 dX1_sizeOf_13 ?_
    refine lv_topi (fun t_4 et_4 => ?_)
    replace h := o_let_s et_4 h
    refine lv_goto (tgt := 18) hx hb dX1_sizeOf_14 (by decide) ?_
    obtain rfl := Option.some.inj h
    exact kRet_i C hP hD hS dX1_sizeOf_18
set_option maxHeartbeats 4000000 in
set_option maxRecDepth 100000 in
theorem c_X1_kindOf {l : Launch} {D : va_G} {cB cI cL : ClassId} {a_ln a_lnk a_lnp a_lnf a_lns a_lnn : Nat} {ln_c : Int32} {ln_m : Int32} {ln_k : Nat → Int32} {ln_p : Nat → Int32} {ln_f : Nat → Int32} {ln_s : Nat → Int32} {ln_n : Nat → Int64} {p0 : Int32} {res : Int32} (h : m_X1_kindOf ln_c ln_k p0 = some res) : KMet l (⟨"LinkText$Lines", "kindOf", "(I)I"⟩ : MethodName) (.code (⟨"LinkText$Lines", "kindOf", "(I)I"⟩ : MethodName) prog_3_method_6_code 2 (some .int) :: k_tbl) ({ frames := 1, cells := 0, slots := 0, locals := 21 } : Room) (ev D cB cI cL) D vwCl [.ref a_ln, .int p0] [(a_ln, .inr (1, [.ref a_lnk, .ref a_lnp, .ref a_lnf, .ref a_lns, .ref a_lnn, .int ln_c, .int ln_m])), (a_lnk, .inl (cI, 64, .inl ln_k)), (a_lnp, .inl (cI, 64, .inl ln_p)), (a_lnf, .inl (cI, 64, .inl ln_f)), (a_lns, .inl (cI, 64, .inl ln_s)), (a_lnn, .inl (cL, 4000, .inr (.inl ln_n)))] (kQi D vwCl [(a_ln, .inr (1, [.ref a_lnk, .ref a_lnp, .ref a_lnf, .ref a_lns, .ref a_lnn, .int ln_c, .int ln_m])), (a_lnk, .inl (cI, 64, .inl ln_k)), (a_lnp, .inl (cI, 64, .inl ln_p)), (a_lnf, .inl (cI, 64, .inl ln_f)), (a_lns, .inl (cI, 64, .inl ln_s)), (a_lnn, .inl (cL, 4000, .inr (.inl ln_n)))] res) := by
  unfold m_X1_kindOf at h
  refine kMet (cc := prog_3_method_6_code) (mL := 2) (ret := (some .int)) (own := "LinkText$Lines") (by decide) rfl rfl (Nat.le_of_ble_eq_true rfl) ?_
  intro p e s m below meth c A C hnm hE hA hP hD ls hl
  generalize ([.ref a_ln, .int p0] : List Value).toArray = args at C ⊢
  obtain ⟨hx, hb, hr, hml, hown, hts, hlocks⟩ := id C
  have ht : ∀ w ∈ k_tbl, w.before args s = true := fun w h => hts w (List.mem_cons_of_mem _ h)
  have hS : va_S A s.heap s.heap [] := va_S.rf
  have hl : lv_has ls 2 [(0, .ref a_ln), (1, .int p0)] := hl
  refine lv_aload_n hx hb dX1_kindOf_0 rfl (lv_at hl 0 rfl) ?_
  refine lv_iload_n hx hb dX1_kindOf_1 rfl (lv_at hl 1 rfl) ?_
  obtain ⟨r_1, hr_1, h⟩ := o_b_s h
  refine kCi (w' := [(a_ln, .inr (1, [.ref a_lnk, .ref a_lnp, .ref a_lnf, .ref a_lns, .ref a_lnn, .int ln_c, .int ln_m])), (a_lnk, .inl (cI, 64, .inl ln_k)), (a_lnp, .inl (cI, 64, .inl ln_p)), (a_lnf, .inl (cI, 64, .inl ln_f)), (a_lns, .inl (cI, 64, .inl ln_s)), (a_lnn, .inl (cL, 4000, .inr (.inl ln_n)))]) hP hD hS hA [0, 1, 2, 3, 4, 5] [] [0, 1, 2, 3, 4, 5] (kRunV (rest := []) C ev_ok hE hA hP hD hS [0, 1, 2, 3, 4, 5] rfl rfl rfl (c_X1_has hr_1) hE.1 0 1 rfl rfl (cwV 1 ht (gV kw_397 kw_390 kw_391 kw_3 kw_392) rfl rfl rfl (by decide +kernel) ⟨Nat.le_of_ble_eq_true rfl, Nat.le_of_ble_eq_true rfl⟩) rfl hl.1 rfl (Nat.le_of_ble_eq_true rfl) dX1_kindOf_2 ⟨Nat.le_of_ble_eq_true rfl, Nat.le_of_ble_eq_true rfl⟩) rfl rfl rfl (by decide) rfl rfl rfl (fun H locs hP hD hS => ?_)
  refine lv_if_eq (tgt := 17) hx hb dX1_kindOf_5 (by decide) (fun c_2 => ?_) (fun c_2 => ?_)
  · replace h := o_t c_2 h
    refine lv_iconst (v := 0) hx hb dX1_kindOf_17 (by decide) ?_
    obtain rfl := Option.some.inj h
    exact kRet_i C hP hD hS dX1_kindOf_18
  · replace h := o_f c_2 h
    refine lv_aload_n hx hb dX1_kindOf_8 rfl (lv_at hl 0 rfl) ?_
    refine va_get (D := D) (ci := 1) (v := .ref a_lnk) (C := RX1) (T := TX1) (N := 7) hx hb ht inX1 hown hE.1 hP 0 rfl rfl 0 (by decide) (ht _ kw_48) (fun _ h9 => h9) rfl dX1_kindOf_9 ?_
    refine lv_iload_n hx hb dX1_kindOf_12 rfl (lv_at hl 1 rfl) ?_
    obtain ⟨hz_3, h⟩ := o_in_s h
    refine va_iald hx hb hE.1 hP 1 1 rfl rfl hz_3 dX1_kindOf_13 ?_
    refine lv_topi (fun t_4 et_4 => ?_)
    replace h := o_let_s et_4 h
    refine lv_goto (tgt := 18) hx hb dX1_kindOf_14 (by decide) ?_
    obtain rfl := Option.some.inj h
    exact kRet_i C hP hD hS dX1_kindOf_18
set_option maxHeartbeats 4000000 in
set_option maxRecDepth 100000 in
theorem c_X1_placeOf {l : Launch} {D : va_G} {cB cI cL : ClassId} {a_ln a_lnk a_lnp a_lnf a_lns a_lnn : Nat} {ln_c : Int32} {ln_m : Int32} {ln_k : Nat → Int32} {ln_p : Nat → Int32} {ln_f : Nat → Int32} {ln_s : Nat → Int32} {ln_n : Nat → Int64} {p0 : Int32} {res : Int32} (h : m_X1_placeOf ln_c ln_p p0 = some res) : KMet l (⟨"LinkText$Lines", "placeOf", "(I)I"⟩ : MethodName) (.code (⟨"LinkText$Lines", "placeOf", "(I)I"⟩ : MethodName) prog_3_method_8_code 2 (some .int) :: k_tbl) ({ frames := 1, cells := 0, slots := 0, locals := 21 } : Room) (ev D cB cI cL) D vwCl [.ref a_ln, .int p0] [(a_ln, .inr (1, [.ref a_lnk, .ref a_lnp, .ref a_lnf, .ref a_lns, .ref a_lnn, .int ln_c, .int ln_m])), (a_lnk, .inl (cI, 64, .inl ln_k)), (a_lnp, .inl (cI, 64, .inl ln_p)), (a_lnf, .inl (cI, 64, .inl ln_f)), (a_lns, .inl (cI, 64, .inl ln_s)), (a_lnn, .inl (cL, 4000, .inr (.inl ln_n)))] (kQi D vwCl [(a_ln, .inr (1, [.ref a_lnk, .ref a_lnp, .ref a_lnf, .ref a_lns, .ref a_lnn, .int ln_c, .int ln_m])), (a_lnk, .inl (cI, 64, .inl ln_k)), (a_lnp, .inl (cI, 64, .inl ln_p)), (a_lnf, .inl (cI, 64, .inl ln_f)), (a_lns, .inl (cI, 64, .inl ln_s)), (a_lnn, .inl (cL, 4000, .inr (.inl ln_n)))] res) := by
  unfold m_X1_placeOf at h
  refine kMet (cc := prog_3_method_8_code) (mL := 2) (ret := (some .int)) (own := "LinkText$Lines") (by decide) rfl rfl (Nat.le_of_ble_eq_true rfl) ?_
  intro p e s m below meth c A C hnm hE hA hP hD ls hl
  generalize ([.ref a_ln, .int p0] : List Value).toArray = args at C ⊢
  obtain ⟨hx, hb, hr, hml, hown, hts, hlocks⟩ := id C
  have ht : ∀ w ∈ k_tbl, w.before args s = true := fun w h => hts w (List.mem_cons_of_mem _ h)
  have hS : va_S A s.heap s.heap [] := va_S.rf
  have hl : lv_has ls 2 [(0, .ref a_ln), (1, .int p0)] := hl
  refine lv_aload_n hx hb dX1_placeOf_0 rfl (lv_at hl 0 rfl) ?_
  refine lv_iload_n hx hb dX1_placeOf_1 rfl (lv_at hl 1 rfl) ?_
  obtain ⟨r_1, hr_1, h⟩ := o_b_s h
  refine kCi (w' := [(a_ln, .inr (1, [.ref a_lnk, .ref a_lnp, .ref a_lnf, .ref a_lns, .ref a_lnn, .int ln_c, .int ln_m])), (a_lnk, .inl (cI, 64, .inl ln_k)), (a_lnp, .inl (cI, 64, .inl ln_p)), (a_lnf, .inl (cI, 64, .inl ln_f)), (a_lns, .inl (cI, 64, .inl ln_s)), (a_lnn, .inl (cL, 4000, .inr (.inl ln_n)))]) hP hD hS hA [0, 1, 2, 3, 4, 5] [] [0, 1, 2, 3, 4, 5] (kRunV (rest := []) C ev_ok hE hA hP hD hS [0, 1, 2, 3, 4, 5] rfl rfl rfl (c_X1_has hr_1) hE.1 0 1 rfl rfl (cwV 1 ht (gV kw_397 kw_390 kw_391 kw_3 kw_392) rfl rfl rfl (by decide +kernel) ⟨Nat.le_of_ble_eq_true rfl, Nat.le_of_ble_eq_true rfl⟩) rfl hl.1 rfl (Nat.le_of_ble_eq_true rfl) dX1_placeOf_2 ⟨Nat.le_of_ble_eq_true rfl, Nat.le_of_ble_eq_true rfl⟩) rfl rfl rfl (by decide) rfl rfl rfl (fun H locs hP hD hS => ?_)
  refine lv_if_eq (tgt := 17) hx hb dX1_placeOf_5 (by decide) (fun c_2 => ?_) (fun c_2 => ?_)
  · replace h := o_t c_2 h
    refine lv_iconst (v := -1) hx hb dX1_placeOf_17 (by decide) ?_
    obtain rfl := Option.some.inj h
    exact kRet_i C hP hD hS dX1_placeOf_18
  · replace h := o_f c_2 h
    refine lv_aload_n hx hb dX1_placeOf_8 rfl (lv_at hl 0 rfl) ?_
    refine va_get (D := D) (ci := 1) (v := .ref a_lnp) (C := RX1) (T := TX1) (N := 7) hx hb ht inX1 hown hE.1 hP 0 rfl rfl 1 (by decide) (ht _ kw_49) (fun _ h9 => h9) rfl dX1_placeOf_9 ?_
    refine lv_iload_n hx hb dX1_placeOf_12 rfl (lv_at hl 1 rfl) ?_
    obtain ⟨hz_3, h⟩ := o_in_s h
    refine va_iald hx hb hE.1 hP 2 1 rfl rfl hz_3 dX1_placeOf_13 ?_
    refine lv_topi (fun t_4 et_4 => ?_)
    replace h := o_let_s et_4 h
    refine lv_goto (tgt := 18) hx hb dX1_placeOf_14 (by decide) ?_
    obtain rfl := Option.some.inj h
    exact kRet_i C hP hD hS dX1_placeOf_18
set_option maxHeartbeats 4000000 in
set_option maxRecDepth 100000 in
theorem c_X1_storedAt {l : Launch} {D : va_G} {cB cI cL : ClassId} {a_ln a_lnk a_lnp a_lnf a_lns a_lnn : Nat} {ln_c : Int32} {ln_m : Int32} {ln_k : Nat → Int32} {ln_p : Nat → Int32} {ln_f : Nat → Int32} {ln_s : Nat → Int32} {ln_n : Nat → Int64} {p0 : Int32} {p1 : Int32} {res : Int64} (h : m_X1_storedAt ln_c ln_f ln_s ln_n p0 p1 = some res) : KMet l (⟨"LinkText$Lines", "storedAt", "(II)J"⟩ : MethodName) (.code (⟨"LinkText$Lines", "storedAt", "(II)J"⟩ : MethodName) prog_3_method_9_code 4 (some .long) :: k_tbl) ({ frames := 2, cells := 0, slots := 0, locals := 42 } : Room) (ev D cB cI cL) D vwCl [.ref a_ln, .int p0, .int p1] [(a_ln, .inr (1, [.ref a_lnk, .ref a_lnp, .ref a_lnf, .ref a_lns, .ref a_lnn, .int ln_c, .int ln_m])), (a_lnk, .inl (cI, 64, .inl ln_k)), (a_lnp, .inl (cI, 64, .inl ln_p)), (a_lnf, .inl (cI, 64, .inl ln_f)), (a_lns, .inl (cI, 64, .inl ln_s)), (a_lnn, .inl (cL, 4000, .inr (.inl ln_n)))] (kQl D vwCl [(a_ln, .inr (1, [.ref a_lnk, .ref a_lnp, .ref a_lnf, .ref a_lns, .ref a_lnn, .int ln_c, .int ln_m])), (a_lnk, .inl (cI, 64, .inl ln_k)), (a_lnp, .inl (cI, 64, .inl ln_p)), (a_lnf, .inl (cI, 64, .inl ln_f)), (a_lns, .inl (cI, 64, .inl ln_s)), (a_lnn, .inl (cL, 4000, .inr (.inl ln_n)))] res) := by
  unfold m_X1_storedAt at h
  refine kMet (cc := prog_3_method_9_code) (mL := 4) (ret := (some .long)) (own := "LinkText$Lines") (by decide) rfl rfl (Nat.le_of_ble_eq_true rfl) ?_
  intro p e s m below meth c A C hnm hE hA hP hD ls hl
  generalize ([.ref a_ln, .int p0, .int p1] : List Value).toArray = args at C ⊢
  obtain ⟨hx, hb, hr, hml, hown, hts, hlocks⟩ := id C
  have ht : ∀ w ∈ k_tbl, w.before args s = true := fun w h => hts w (List.mem_cons_of_mem _ h)
  have hS : va_S A s.heap s.heap [] := va_S.rf
  have hl : lv_has ls 4 [(0, .ref a_ln), (1, .int p0), (2, .int p1)] := hl
  refine lv_iload_n hx hb dX1_storedAt_0 rfl (lv_at hl 2 rfl) ?_
  refine lv_if_lt (tgt := 13) hx hb dX1_storedAt_1 (by decide) (fun c_1 => ?_) (fun c_1 => ?_)
  · replace h := o_t c_1 h
    refine lv_lconst (v := 0) hx hb dX1_storedAt_13 (by decide) ?_
    obtain rfl := Option.some.inj h
    exact kRet_l C hP hD hS dX1_storedAt_14
  · replace h := o_f c_1 h
    refine lv_iload_n hx hb dX1_storedAt_4 rfl (lv_at hl 2 rfl) ?_
    refine lv_aload_n hx hb dX1_storedAt_5 rfl (lv_at hl 0 rfl) ?_
    refine lv_iload_n hx hb dX1_storedAt_6 rfl (lv_at hl 1 rfl) ?_
    obtain ⟨r_2, hr_2, h⟩ := o_b_s h
    refine kCi (w' := [(a_ln, .inr (1, [.ref a_lnk, .ref a_lnp, .ref a_lnf, .ref a_lns, .ref a_lnn, .int ln_c, .int ln_m])), (a_lnk, .inl (cI, 64, .inl ln_k)), (a_lnp, .inl (cI, 64, .inl ln_p)), (a_lnf, .inl (cI, 64, .inl ln_f)), (a_lns, .inl (cI, 64, .inl ln_s)), (a_lnn, .inl (cL, 4000, .inr (.inl ln_n)))]) hP hD hS hA [0, 1, 2, 3, 4, 5] [] [0, 1, 2, 3, 4, 5] (kRunV (rest := [.int p1]) C ev_ok hE hA hP hD hS [0, 1, 2, 3, 4, 5] rfl rfl rfl (c_X1_sizeOf hr_2) hE.1 0 1 rfl rfl (cwV 1 ht (gV kw_414 kw_399 kw_400 kw_3 kw_401) rfl rfl rfl (by decide +kernel) ⟨Nat.le_of_ble_eq_true rfl, Nat.le_of_ble_eq_true rfl⟩) rfl hl.1 rfl (Nat.le_of_ble_eq_true rfl) dX1_storedAt_7 ⟨Nat.le_of_ble_eq_true rfl, Nat.le_of_ble_eq_true rfl⟩) rfl rfl rfl (by decide) rfl rfl rfl (fun H locs hP hD hS => ?_)
    refine lv_icmp_lt (tgt := 15) hx hb dX1_storedAt_10 (by decide) (fun c_3 => ?_) (fun c_3 => ?_)
    · replace h := o_t c_3 h
      refine lv_aload_n hx hb dX1_storedAt_15 rfl (lv_at hl 0 rfl) ?_
      refine va_get (D := D) (ci := 1) (v := .ref a_lnf) (C := RX1) (T := TX1) (N := 7) hx hb ht inX1 hown hE.1 hP 0 rfl rfl 2 (by decide) (ht _ kw_50) (fun _ h9 => h9) rfl dX1_storedAt_16 ?_
      refine lv_iload_n hx hb dX1_storedAt_19 rfl (lv_at hl 1 rfl) ?_
      obtain ⟨hz_4, h⟩ := o_in_s h
      refine va_iald hx hb hE.1 hP 3 1 rfl rfl hz_4 dX1_storedAt_20 ?_
      refine lv_topi (fun t_5 et_5 => ?_)
      replace h := o_let_s et_5 h
      refine lv_iload_n hx hb dX1_storedAt_21 rfl (lv_at hl 2 rfl) ?_
      refine lv_iadd hx hb dX1_storedAt_22 ?_
      refine lv_topi (fun t_6 et_6 => ?_)
      replace h := o_let_s et_6 h
      refine lv_istore_n (lv' := [(3, .int t_6), (0, .ref a_ln), (1, .int p0), (2, .int p1)]) hx hb dX1_storedAt_23 rfl hl (by decide) rfl (fun ls hl => ?_)
      refine lv_iload_n hx hb dX1_storedAt_24 rfl (lv_at hl 0 rfl) ?_
      refine lv_aload_n hx hb dX1_storedAt_25 rfl (lv_at hl 1 rfl) ?_
      refine va_get (D := D) (ci := 1) (v := .ref a_lnn) (C := RX1) (T := TX1) (N := 7) hx hb ht inX1 hown hE.1 hP 0 rfl rfl 4 (by decide) (ht _ kw_52) (fun _ h9 => h9) rfl dX1_storedAt_26 ?_
      refine va_alen (v := 4000) hx hb hE.1 hP 5 2 rfl rfl rfl dX1_storedAt_29 ?_
      refine lv_icmp_ge (tgt := 42) hx hb dX1_storedAt_30 (by decide) (fun c_7 => ?_) (fun c_7 => ?_)
      · replace h := o_t c_7 h
        refine lv_lconst (v := 0) hx hb dX1_storedAt_42 (by decide) ?_
        obtain rfl := Option.some.inj h
        exact kRet_l C hP hD hS dX1_storedAt_43
      · replace h := o_f c_7 h
        refine lv_aload_n hx hb dX1_storedAt_33 rfl (lv_at hl 1 rfl) ?_
        refine va_get (D := D) (ci := 1) (v := .ref a_lnn) (C := RX1) (T := TX1) (N := 7) hx hb ht inX1 hown hE.1 hP 0 rfl rfl 4 (by decide) (ht _ kw_52) (fun _ h9 => h9) rfl dX1_storedAt_34 ?_
        refine lv_iload_n hx hb dX1_storedAt_37 rfl (lv_at hl 0 rfl) ?_
        obtain ⟨hz_8, h⟩ := o_in_s h
        refine va_lald hx hb hE.1 hP 5 2 rfl rfl hz_8 dX1_storedAt_38 ?_
        refine lv_topl (fun t_9 et_9 => ?_)
        replace h := o_let_s et_9 h
        refine lv_goto (tgt := 43) hx hb dX1_storedAt_39 (by decide) ?_
        obtain rfl := Option.some.inj h
        exact kRet_l C hP hD hS dX1_storedAt_43
    · replace h := o_f c_3 h
      refine lv_lconst (v := 0) hx hb dX1_storedAt_13 (by decide) ?_
      obtain rfl := Option.some.inj h
      exact kRet_l C hP hD hS dX1_storedAt_14
end
section
set_option maxHeartbeats 4000000 in
set_option maxRecDepth 100000 in
theorem k_X2_begin_J19 {l : Launch} {p : Program} {e : Env} {s : State} {m : MethodId} {args : Array Value} {below : List Frame} {meth : Method} {c : Code} {A : Nat → Prop} {D : va_G} {cB cI cL : ClassId} {a_tk a_tx : Nat} {tx_b : Nat → Int32} {res : Int32 × Int32 × Int32 × Int32 × Int64 × Int32} (C : kx p s m args meth c prog_6_method_2_code 2 none "LinkText$Tokens" (.code (⟨"LinkText$Tokens", "begin", "(I)V"⟩ : MethodName) prog_6_method_2_code 2 none :: k_tbl)) (hE : ev D cB cI cL A s) (hA : ∀ q : Nat, s.heap.size ≤ q → A q) :
    ∀ (tk_e : Int32) (tk_s : Int32) (tk_p : Int32) (tk_h : Int32) (tk_v : Int64) (tk_f : Int32) (s0 : Int32) (H : Heap) (locs : List Loc) (ls : Array Slot), va_P D vwCl [(a_tk, .inr (2, [.ref a_tx, .int tk_e, .int tk_s, .int tk_p, .int tk_h, .long tk_v, .int tk_f])), (a_tx, .inl (cB, 4000, .inl tx_b))] H → va_D A [(a_tk, .inr (2, [.ref a_tx, .int tk_e, .int tk_s, .int tk_p, .int tk_h, .long tk_v, .int tk_f])), (a_tx, .inl (cB, 4000, .inl tx_b))] → va_S A s.heap H locs → lv_has ls 2 [(0, .ref a_tk)] → m_X2_begin_J19  tk_e tk_s tk_p tk_h tk_v tk_f s0 = some res → W p l e ({ frames := 0, cells := 0, slots := 0, locals := 0 } : Room) s m args below meth c H locs 0 0 (MQ below (kQv D vwCl [(a_tk, .inr (2, [.ref a_tx, .int res.1, .int res.2.1, .int res.2.2.1, .int res.2.2.2.1, .long res.2.2.2.2.1, .int res.2.2.2.2.2])), (a_tx, .inl (cB, 4000, .inl tx_b))] A) args s 0 0 A) (F0 m 19 ls [.int s0, .ref a_tk]) := by
  obtain ⟨hx, hb, hr, hml, hown, hts, hlocks⟩ := id C
  have ht : ∀ w ∈ k_tbl, w.before args s = true := fun w h => hts w (List.mem_cons_of_mem _ h)
  intro tk_e tk_s tk_p tk_h tk_v tk_f s0 H locs ls hP hD hS hl h
  unfold m_X2_begin_J19 at h
  refine va_put (D := D) (ci := 2) (v := .int s0) (ty := .int) (C := RX2) (T := TX2) (N := 7) hx hb ht inX2 tyX2 tyX2_ok nmX2 hown hE.1 hP hD hS 0 rfl rfl 1 (by decide) (ht _ kw_87) (fun _ h9 => h9) rfl (by decide +kernel) rfl rfl (Nat.le_of_ble_eq_true rfl) dX2_begin_19 (fun H locs hP hD hS => ?_)
  have hP : va_P D vwCl [(a_tk, .inr (2, [.ref a_tx, .int s0, .int tk_s, .int tk_p, .int tk_h, .long tk_v, .int tk_f])), (a_tx, .inl (cB, 4000, .inl tx_b))] H := hP
  have hD : va_D A [(a_tk, .inr (2, [.ref a_tx, .int s0, .int tk_s, .int tk_p, .int tk_h, .long tk_v, .int tk_f])), (a_tx, .inl (cB, 4000, .inl tx_b))] := hD
  refine lv_aload_n hx hb dX2_begin_22 rfl (lv_at hl 0 rfl) ?_
  refine lv_iconst (v := 0) hx hb dX2_begin_23 (by decide) ?_
  refine va_put (D := D) (ci := 2) (v := .int (0 : Int32)) (ty := .int) (C := RX2) (T := TX2) (N := 7) hx hb ht inX2 tyX2 tyX2_ok nmX2 hown hE.1 hP hD hS 0 rfl rfl 2 (by decide) (ht _ kw_88) (fun _ h9 => h9) rfl (by decide +kernel) rfl rfl (Nat.le_of_ble_eq_true rfl) dX2_begin_24 (fun H locs hP hD hS => ?_)
  have hP : va_P D vwCl [(a_tk, .inr (2, [.ref a_tx, .int s0, .int (0 : Int32), .int tk_p, .int tk_h, .long tk_v, .int tk_f])), (a_tx, .inl (cB, 4000, .inl tx_b))] H := hP
  have hD : va_D A [(a_tk, .inr (2, [.ref a_tx, .int s0, .int (0 : Int32), .int tk_p, .int tk_h, .long tk_v, .int tk_f])), (a_tx, .inl (cB, 4000, .inl tx_b))] := hD
  refine lv_aload_n hx hb dX2_begin_27 rfl (lv_at hl 0 rfl) ?_
  refine lv_iconst (v := 0) hx hb dX2_begin_28 (by decide) ?_
  refine va_put (D := D) (ci := 2) (v := .int (0 : Int32)) (ty := .int) (C := RX2) (T := TX2) (N := 7) hx hb ht inX2 tyX2 tyX2_ok nmX2 hown hE.1 hP hD hS 0 rfl rfl 3 (by decide) (ht _ kw_89) (fun _ h9 => h9) rfl (by decide +kernel) rfl rfl (Nat.le_of_ble_eq_true rfl) dX2_begin_29 (fun H locs hP hD hS => ?_)
  have hP : va_P D vwCl [(a_tk, .inr (2, [.ref a_tx, .int s0, .int (0 : Int32), .int (0 : Int32), .int tk_h, .long tk_v, .int tk_f])), (a_tx, .inl (cB, 4000, .inl tx_b))] H := hP
  have hD : va_D A [(a_tk, .inr (2, [.ref a_tx, .int s0, .int (0 : Int32), .int (0 : Int32), .int tk_h, .long tk_v, .int tk_f])), (a_tx, .inl (cB, 4000, .inl tx_b))] := hD
  refine lv_aload_n hx hb dX2_begin_32 rfl (lv_at hl 0 rfl) ?_
  refine lv_iconst (v := 0) hx hb dX2_begin_33 (by decide) ?_
  refine va_put (D := D) (ci := 2) (v := .int (0 : Int32)) (ty := .int) (C := RX2) (T := TX2) (N := 7) hx hb ht inX2 tyX2 tyX2_ok nmX2 hown hE.1 hP hD hS 0 rfl rfl 4 (by decide) (ht _ kw_91) (fun _ h9 => h9) rfl (by decide +kernel) rfl rfl (Nat.le_of_ble_eq_true rfl) dX2_begin_34 (fun H locs hP hD hS => ?_)
  have hP : va_P D vwCl [(a_tk, .inr (2, [.ref a_tx, .int s0, .int (0 : Int32), .int (0 : Int32), .int (0 : Int32), .long tk_v, .int tk_f])), (a_tx, .inl (cB, 4000, .inl tx_b))] H := hP
  have hD : va_D A [(a_tk, .inr (2, [.ref a_tx, .int s0, .int (0 : Int32), .int (0 : Int32), .int (0 : Int32), .long tk_v, .int tk_f])), (a_tx, .inl (cB, 4000, .inl tx_b))] := hD
  refine lv_aload_n hx hb dX2_begin_37 rfl (lv_at hl 0 rfl) ?_
  refine lv_lconst (v := 0) hx hb dX2_begin_38 (by decide) ?_
  refine va_put (D := D) (ci := 2) (v := .long (0 : Int64)) (ty := .long) (C := RX2) (T := TX2) (N := 7) hx hb ht inX2 tyX2 tyX2_ok nmX2 hown hE.1 hP hD hS 0 rfl rfl 5 (by decide) (ht _ kw_92) (fun _ h9 => h9) rfl (by decide +kernel) rfl rfl (Nat.le_of_ble_eq_true rfl) dX2_begin_39 (fun H locs hP hD hS => ?_)
  have hP : va_P D vwCl [(a_tk, .inr (2, [.ref a_tx, .int s0, .int (0 : Int32), .int (0 : Int32), .int (0 : Int32), .long (0 : Int64), .int tk_f])), (a_tx, .inl (cB, 4000, .inl tx_b))] H := hP
  have hD : va_D A [(a_tk, .inr (2, [.ref a_tx, .int s0, .int (0 : Int32), .int (0 : Int32), .int (0 : Int32), .long (0 : Int64), .int tk_f])), (a_tx, .inl (cB, 4000, .inl tx_b))] := hD
  refine lv_aload_n hx hb dX2_begin_42 rfl (lv_at hl 0 rfl) ?_
  refine lv_iconst (v := 0) hx hb dX2_begin_43 (by decide) ?_
  refine va_put (D := D) (ci := 2) (v := .int (0 : Int32)) (ty := .int) (C := RX2) (T := TX2) (N := 7) hx hb ht inX2 tyX2 tyX2_ok nmX2 hown hE.1 hP hD hS 0 rfl rfl 6 (by decide) (ht _ kw_94) (fun _ h9 => h9) rfl (by decide +kernel) rfl rfl (Nat.le_of_ble_eq_true rfl) dX2_begin_44 (fun H locs hP hD hS => ?_)
  have hP : va_P D vwCl [(a_tk, .inr (2, [.ref a_tx, .int s0, .int (0 : Int32), .int (0 : Int32), .int (0 : Int32), .long (0 : Int64), .int (0 : Int32)])), (a_tx, .inl (cB, 4000, .inl tx_b))] H := hP
  have hD : va_D A [(a_tk, .inr (2, [.ref a_tx, .int s0, .int (0 : Int32), .int (0 : Int32), .int (0 : Int32), .long (0 : Int64), .int (0 : Int32)])), (a_tx, .inl (cB, 4000, .inl tx_b))] := hD
  obtain rfl := Option.some.inj h
  exact kRet_v C hP hD hS dX2_begin_47
set_option maxHeartbeats 4000000 in
set_option maxRecDepth 100000 in
theorem k_X2_begin_J18 {l : Launch} {p : Program} {e : Env} {s : State} {m : MethodId} {args : Array Value} {below : List Frame} {meth : Method} {c : Code} {A : Nat → Prop} {D : va_G} {cB cI cL : ClassId} {a_tk a_tx : Nat} {tx_b : Nat → Int32} {res : Int32 × Int32 × Int32 × Int32 × Int64 × Int32} (C : kx p s m args meth c prog_6_method_2_code 2 none "LinkText$Tokens" (.code (⟨"LinkText$Tokens", "begin", "(I)V"⟩ : MethodName) prog_6_method_2_code 2 none :: k_tbl)) (hE : ev D cB cI cL A s) (hA : ∀ q : Nat, s.heap.size ≤ q → A q) :
    ∀ (tk_e : Int32) (tk_s : Int32) (tk_p : Int32) (tk_h : Int32) (tk_v : Int64) (tk_f : Int32) (H : Heap) (locs : List Loc) (ls : Array Slot), va_P D vwCl [(a_tk, .inr (2, [.ref a_tx, .int tk_e, .int tk_s, .int tk_p, .int tk_h, .long tk_v, .int tk_f])), (a_tx, .inl (cB, 4000, .inl tx_b))] H → va_D A [(a_tk, .inr (2, [.ref a_tx, .int tk_e, .int tk_s, .int tk_p, .int tk_h, .long tk_v, .int tk_f])), (a_tx, .inl (cB, 4000, .inl tx_b))] → va_S A s.heap H locs → lv_has ls 2 [(0, .ref a_tk)] → m_X2_begin_J18  tk_e tk_s tk_p tk_h tk_v tk_f = some res → W p l e ({ frames := 0, cells := 0, slots := 0, locals := 0 } : Room) s m args below meth c H locs 0 0 (MQ below (kQv D vwCl [(a_tk, .inr (2, [.ref a_tx, .int res.1, .int res.2.1, .int res.2.2.1, .int res.2.2.2.1, .long res.2.2.2.2.1, .int res.2.2.2.2.2])), (a_tx, .inl (cB, 4000, .inl tx_b))] A) args s 0 0 A) (F0 m 18 ls [.ref a_tk]) := by
  obtain ⟨hx, hb, hr, hml, hown, hts, hlocks⟩ := id C
  have ht : ∀ w ∈ k_tbl, w.before args s = true := fun w h => hts w (List.mem_cons_of_mem _ h)
  intro tk_e tk_s tk_p tk_h tk_v tk_f H locs ls hP hD hS hl h
  unfold m_X2_begin_J18 at h
  refine lv_iconst (v := 0) hx hb dX2_begin_18 (by decide) ?_
  exact k_X2_begin_J19 C hE hA  tk_e tk_s tk_p tk_h tk_v tk_f (0 : Int32) _ _ _ hP hD hS (lv_sub hl [0] rfl) h
set_option maxHeartbeats 4000000 in
set_option maxRecDepth 100000 in
theorem c_X2_begin {l : Launch} {D : va_G} {cB cI cL : ClassId} {a_tk a_tx : Nat} {tk_e : Int32} {tk_s : Int32} {tk_p : Int32} {tk_h : Int32} {tk_v : Int64} {tk_f : Int32} {tx_b : Nat → Int32} {p0 : Int32} {res : Int32 × Int32 × Int32 × Int32 × Int64 × Int32} (h : m_X2_begin tk_e tk_s tk_p tk_h tk_v tk_f p0 = some res) : KMet l (⟨"LinkText$Tokens", "begin", "(I)V"⟩ : MethodName) (.code (⟨"LinkText$Tokens", "begin", "(I)V"⟩ : MethodName) prog_6_method_2_code 2 none :: k_tbl) ({ frames := 0, cells := 0, slots := 0, locals := 0 } : Room) (ev D cB cI cL) D vwCl [.ref a_tk, .int p0] [(a_tk, .inr (2, [.ref a_tx, .int tk_e, .int tk_s, .int tk_p, .int tk_h, .long tk_v, .int tk_f])), (a_tx, .inl (cB, 4000, .inl tx_b))] (kQv D vwCl [(a_tk, .inr (2, [.ref a_tx, .int res.1, .int res.2.1, .int res.2.2.1, .int res.2.2.2.1, .long res.2.2.2.2.1, .int res.2.2.2.2.2])), (a_tx, .inl (cB, 4000, .inl tx_b))]) := by
  unfold m_X2_begin at h
  refine kMet (cc := prog_6_method_2_code) (mL := 2) (ret := none) (own := "LinkText$Tokens") (by decide) rfl rfl (Nat.le_of_ble_eq_true rfl) ?_
  intro p e s m below meth c A C hnm hE hA hP hD ls hl
  generalize ([.ref a_tk, .int p0] : List Value).toArray = args at C ⊢
  obtain ⟨hx, hb, hr, hml, hown, hts, hlocks⟩ := id C
  have ht : ∀ w ∈ k_tbl, w.before args s = true := fun w h => hts w (List.mem_cons_of_mem _ h)
  have hS : va_S A s.heap s.heap [] := va_S.rf
  have hl : lv_has ls 2 [(0, .ref a_tk), (1, .int p0)] := hl
  refine lv_aload_n hx hb dX2_begin_0 rfl (lv_at hl 0 rfl) ?_
  refine lv_iload_n hx hb dX2_begin_1 rfl (lv_at hl 1 rfl) ?_
  refine lv_if_lt (tgt := 18) hx hb dX2_begin_2 (by decide) (fun c_1 => ?_) (fun c_1 => ?_)
  · replace h := o_t c_1 h
    exact k_X2_begin_J18 C hE hA  tk_e tk_s tk_p tk_h tk_v tk_f _ _ _ hP hD hS (lv_sub hl [0] rfl) h
  · replace h := o_f c_1 h
    refine lv_iload_n hx hb dX2_begin_5 rfl (lv_at hl 1 rfl) ?_
    refine lv_aload_n hx hb dX2_begin_6 rfl (lv_at hl 0 rfl) ?_
    refine va_get (D := D) (ci := 2) (v := .ref a_tx) (C := RX2) (T := TX2) (N := 7) hx hb ht inX2 hown hE.1 hP 0 rfl rfl 0 (by decide) (ht _ kw_86) (fun _ h9 => h9) rfl dX2_begin_7 ?_
    refine va_alen (v := 4000) hx hb hE.1 hP 1 0 rfl rfl rfl dX2_begin_10 ?_
    refine lv_icmp_gt (tgt := 18) hx hb dX2_begin_11 (by decide) (fun c_2 => ?_) (fun c_2 => ?_)
    · replace h := o_t c_2 h
      exact k_X2_begin_J18 C hE hA  tk_e tk_s tk_p tk_h tk_v tk_f _ _ _ hP hD hS (lv_sub hl [0] rfl) h
    · replace h := o_f c_2 h
      refine lv_iload_n hx hb dX2_begin_14 rfl (lv_at hl 1 rfl) ?_
      refine lv_goto (tgt := 19) hx hb dX2_begin_15 (by decide) ?_
      exact k_X2_begin_J19 C hE hA  tk_e tk_s tk_p tk_h tk_v tk_f p0 _ _ _ hP hD hS (lv_sub hl [0] rfl) h
set_option maxHeartbeats 4000000 in
set_option maxRecDepth 100000 in
theorem c_X2_isLineEnd {l : Launch} {D : va_G} {cB cI cL : ClassId} {a_tk a_tx : Nat} {tk_e : Int32} {tk_s : Int32} {tk_p : Int32} {tk_h : Int32} {tk_v : Int64} {tk_f : Int32} {tx_b : Nat → Int32} {res : Int32} (h : m_X2_isLineEnd tk_s = some res) : KMet l (⟨"LinkText$Tokens", "isLineEnd", "()Z"⟩ : MethodName) (.code (⟨"LinkText$Tokens", "isLineEnd", "()Z"⟩ : MethodName) prog_6_method_6_code 1 (some .boolean) :: k_tbl) ({ frames := 0, cells := 0, slots := 0, locals := 0 } : Room) (ev D cB cI cL) D vwCl [.ref a_tk] [(a_tk, .inr (2, [.ref a_tx, .int tk_e, .int tk_s, .int tk_p, .int tk_h, .long tk_v, .int tk_f])), (a_tx, .inl (cB, 4000, .inl tx_b))] (kQi D vwCl [(a_tk, .inr (2, [.ref a_tx, .int tk_e, .int tk_s, .int tk_p, .int tk_h, .long tk_v, .int tk_f])), (a_tx, .inl (cB, 4000, .inl tx_b))] res) := by
  unfold m_X2_isLineEnd at h
  refine kMet (cc := prog_6_method_6_code) (mL := 1) (ret := (some .boolean)) (own := "LinkText$Tokens") (by decide) rfl rfl (Nat.le_of_ble_eq_true rfl) ?_
  intro p e s m below meth c A C hnm hE hA hP hD ls hl
  generalize ([.ref a_tk] : List Value).toArray = args at C ⊢
  obtain ⟨hx, hb, hr, hml, hown, hts, hlocks⟩ := id C
  have ht : ∀ w ∈ k_tbl, w.before args s = true := fun w h => hts w (List.mem_cons_of_mem _ h)
  have hS : va_S A s.heap s.heap [] := va_S.rf
  have hl : lv_has ls 1 [(0, .ref a_tk)] := hl
  refine lv_aload_n hx hb dX2_isLineEnd_0 rfl (lv_at hl 0 rfl) ?_
  refine va_get (D := D) (ci := 2) (v := .int tk_s) (C := RX2) (T := TX2) (N := 7) hx hb ht inX2 hown hE.1 hP 0 rfl rfl 2 (by decide) (ht _ kw_88) (fun _ h9 => h9) rfl dX2_isLineEnd_1 ?_
  refine lv_if_ne (tgt := 11) hx hb dX2_isLineEnd_4 (by decide) (fun c_1 => ?_) (fun c_1 => ?_)
  · replace h := o_f c_1 h
    refine lv_iconst (v := 0) hx hb dX2_isLineEnd_11 (by decide) ?_
    obtain rfl := Option.some.inj h
    exact kRet_z C (by decide) hP hD hS dX2_isLineEnd_12
  · replace h := o_t c_1 h
    refine lv_iconst (v := 1) hx hb dX2_isLineEnd_7 (by decide) ?_
    refine lv_goto (tgt := 12) hx hb dX2_isLineEnd_8 (by decide) ?_
    obtain rfl := Option.some.inj h
    exact kRet_z C (by decide) hP hD hS dX2_isLineEnd_12
set_option maxHeartbeats 4000000 in
set_option maxRecDepth 100000 in
theorem c_X2_isTextEnd {l : Launch} {D : va_G} {cB cI cL : ClassId} {a_tk a_tx : Nat} {tk_e : Int32} {tk_s : Int32} {tk_p : Int32} {tk_h : Int32} {tk_v : Int64} {tk_f : Int32} {tx_b : Nat → Int32} {res : Int32} (h : m_X2_isTextEnd tk_e tk_s tk_p = some res) : KMet l (⟨"LinkText$Tokens", "isTextEnd", "()Z"⟩ : MethodName) (.code (⟨"LinkText$Tokens", "isTextEnd", "()Z"⟩ : MethodName) prog_6_method_7_code 1 (some .boolean) :: k_tbl) ({ frames := 0, cells := 0, slots := 0, locals := 0 } : Room) (ev D cB cI cL) D vwCl [.ref a_tk] [(a_tk, .inr (2, [.ref a_tx, .int tk_e, .int tk_s, .int tk_p, .int tk_h, .long tk_v, .int tk_f])), (a_tx, .inl (cB, 4000, .inl tx_b))] (kQi D vwCl [(a_tk, .inr (2, [.ref a_tx, .int tk_e, .int tk_s, .int tk_p, .int tk_h, .long tk_v, .int tk_f])), (a_tx, .inl (cB, 4000, .inl tx_b))] res) := by
  unfold m_X2_isTextEnd at h
  refine kMet (cc := prog_6_method_7_code) (mL := 1) (ret := (some .boolean)) (own := "LinkText$Tokens") (by decide) rfl rfl (Nat.le_of_ble_eq_true rfl) ?_
  intro p e s m below meth c A C hnm hE hA hP hD ls hl
  generalize ([.ref a_tk] : List Value).toArray = args at C ⊢
  obtain ⟨hx, hb, hr, hml, hown, hts, hlocks⟩ := id C
  have ht : ∀ w ∈ k_tbl, w.before args s = true := fun w h => hts w (List.mem_cons_of_mem _ h)
  have hS : va_S A s.heap s.heap [] := va_S.rf
  have hl : lv_has ls 1 [(0, .ref a_tk)] := hl
  refine lv_aload_n hx hb dX2_isTextEnd_0 rfl (lv_at hl 0 rfl) ?_
  refine va_get (D := D) (ci := 2) (v := .int tk_s) (C := RX2) (T := TX2) (N := 7) hx hb ht inX2 hown hE.1 hP 0 rfl rfl 2 (by decide) (ht _ kw_88) (fun _ h9 => h9) rfl dX2_isTextEnd_1 ?_
  refine lv_if_ne (tgt := 22) hx hb dX2_isTextEnd_4 (by decide) (fun c_1 => ?_) (fun c_1 => ?_)
  · replace h := o_f c_1 h
    refine lv_iconst (v := 0) hx hb dX2_isTextEnd_22 (by decide) ?_
    obtain rfl := Option.some.inj h
    exact kRet_z C (by decide) hP hD hS dX2_isTextEnd_23
  · replace h := o_t c_1 h
    refine lv_aload_n hx hb dX2_isTextEnd_7 rfl (lv_at hl 0 rfl) ?_
    refine va_get (D := D) (ci := 2) (v := .int tk_p) (C := RX2) (T := TX2) (N := 7) hx hb ht inX2 hown hE.1 hP 0 rfl rfl 3 (by decide) (ht _ kw_89) (fun _ h9 => h9) rfl dX2_isTextEnd_8 ?_
    refine lv_aload_n hx hb dX2_isTextEnd_11 rfl (lv_at hl 0 rfl) ?_
    refine va_get (D := D) (ci := 2) (v := .int tk_e) (C := RX2) (T := TX2) (N := 7) hx hb ht inX2 hown hE.1 hP 0 rfl rfl 1 (by decide) (ht _ kw_87) (fun _ h9 => h9) rfl dX2_isTextEnd_12 ?_
    refine lv_icmp_lt (tgt := 22) hx hb dX2_isTextEnd_15 (by decide) (fun c_2 => ?_) (fun c_2 => ?_)
    · replace h := o_t c_2 h
      refine lv_iconst (v := 0) hx hb dX2_isTextEnd_22 (by decide) ?_
      obtain rfl := Option.some.inj h
      exact kRet_z C (by decide) hP hD hS dX2_isTextEnd_23
    · replace h := o_f c_2 h
      refine lv_iconst (v := 1) hx hb dX2_isTextEnd_18 (by decide) ?_
      refine lv_goto (tgt := 23) hx hb dX2_isTextEnd_19 (by decide) ?_
      obtain rfl := Option.some.inj h
      exact kRet_z C (by decide) hP hD hS dX2_isTextEnd_23
set_option maxHeartbeats 4000000 in
set_option maxRecDepth 100000 in
theorem c_X3_begin {l : Launch} {D : va_G} {cB cI cL : ClassId} {a_rd a_tk a_tx a_ln a_lnk a_lnp a_lnf a_lns a_lnn : Nat} {rd_f : Int32} {rd_p : Int32} {tk_e : Int32} {tk_s : Int32} {tk_p : Int32} {tk_h : Int32} {tk_v : Int64} {tk_f : Int32} {tx_b : Nat → Int32} {ln_c : Int32} {ln_m : Int32} {ln_k : Nat → Int32} {ln_p : Nat → Int32} {ln_f : Nat → Int32} {ln_s : Nat → Int32} {ln_n : Nat → Int64} {p0 : Int32} {res : Int32 × Int32 × Int32 × Int32 × Int32 × Int32 × Int64 × Int32 × Int32 × Int32} (h : m_X3_begin rd_f rd_p tk_e tk_s tk_p tk_h tk_v tk_f ln_c ln_m p0 = some res) : KMet l (⟨"LinkText$Reader", "begin", "(I)V"⟩ : MethodName) (.code (⟨"LinkText$Reader", "begin", "(I)V"⟩ : MethodName) prog_5_method_2_code 2 none :: k_tbl) ({ frames := 1, cells := 0, slots := 0, locals := 21 } : Room) (ev D cB cI cL) D vwCl [.ref a_rd, .int p0] [(a_rd, .inr (3, [.ref a_tk, .ref a_ln, .int rd_f, .int rd_p])), (a_tk, .inr (2, [.ref a_tx, .int tk_e, .int tk_s, .int tk_p, .int tk_h, .long tk_v, .int tk_f])), (a_tx, .inl (cB, 4000, .inl tx_b)), (a_ln, .inr (1, [.ref a_lnk, .ref a_lnp, .ref a_lnf, .ref a_lns, .ref a_lnn, .int ln_c, .int ln_m])), (a_lnk, .inl (cI, 64, .inl ln_k)), (a_lnp, .inl (cI, 64, .inl ln_p)), (a_lnf, .inl (cI, 64, .inl ln_f)), (a_lns, .inl (cI, 64, .inl ln_s)), (a_lnn, .inl (cL, 4000, .inr (.inl ln_n)))] (kQv D vwCl [(a_rd, .inr (3, [.ref a_tk, .ref a_ln, .int res.1, .int res.2.1])), (a_tk, .inr (2, [.ref a_tx, .int res.2.2.1, .int res.2.2.2.1, .int res.2.2.2.2.1, .int res.2.2.2.2.2.1, .long res.2.2.2.2.2.2.1, .int res.2.2.2.2.2.2.2.1])), (a_tx, .inl (cB, 4000, .inl tx_b)), (a_ln, .inr (1, [.ref a_lnk, .ref a_lnp, .ref a_lnf, .ref a_lns, .ref a_lnn, .int res.2.2.2.2.2.2.2.2.1, .int res.2.2.2.2.2.2.2.2.2])), (a_lnk, .inl (cI, 64, .inl ln_k)), (a_lnp, .inl (cI, 64, .inl ln_p)), (a_lnf, .inl (cI, 64, .inl ln_f)), (a_lns, .inl (cI, 64, .inl ln_s)), (a_lnn, .inl (cL, 4000, .inr (.inl ln_n)))]) := by
  unfold m_X3_begin at h
  refine kMet (cc := prog_5_method_2_code) (mL := 2) (ret := none) (own := "LinkText$Reader") (by decide) rfl rfl (Nat.le_of_ble_eq_true rfl) ?_
  intro p e s m below meth c A C hnm hE hA hP hD ls hl
  generalize ([.ref a_rd, .int p0] : List Value).toArray = args at C ⊢
  obtain ⟨hx, hb, hr, hml, hown, hts, hlocks⟩ := id C
  have ht : ∀ w ∈ k_tbl, w.before args s = true := fun w h => hts w (List.mem_cons_of_mem _ h)
  have hS : va_S A s.heap s.heap [] := va_S.rf
  have hl : lv_has ls 2 [(0, .ref a_rd), (1, .int p0)] := hl
  refine lv_aload_n hx hb dX3_begin_0 rfl (lv_at hl 0 rfl) ?_
  refine va_get (D := D) (ci := 3) (v := .ref a_tk) (C := RX3) (T := TX3) (N := 4) hx hb ht inX3 hown hE.1 hP 0 rfl rfl 0 (by decide) (ht _ kw_111) (fun _ h9 => h9) rfl dX3_begin_1 ?_
  refine lv_iload_n hx hb dX3_begin_4 rfl (lv_at hl 1 rfl) ?_
  obtain ⟨r_1, hr_1, h⟩ := o_b_s h
  refine kCv (w' := [(a_rd, .inr (3, [.ref a_tk, .ref a_ln, .int rd_f, .int rd_p])), (a_tk, .inr (2, [.ref a_tx, .int r_1.1, .int r_1.2.1, .int r_1.2.2.1, .int r_1.2.2.2.1, .long r_1.2.2.2.2.1, .int r_1.2.2.2.2.2])), (a_tx, .inl (cB, 4000, .inl tx_b)), (a_ln, .inr (1, [.ref a_lnk, .ref a_lnp, .ref a_lnf, .ref a_lns, .ref a_lnn, .int ln_c, .int ln_m])), (a_lnk, .inl (cI, 64, .inl ln_k)), (a_lnp, .inl (cI, 64, .inl ln_p)), (a_lnf, .inl (cI, 64, .inl ln_f)), (a_lns, .inl (cI, 64, .inl ln_s)), (a_lnn, .inl (cL, 4000, .inr (.inl ln_n)))]) hP hD hS hA [1, 2] [0, 3, 4, 5, 6, 7, 8] [0, 7, 8, 1, 2, 3, 4, 5, 6] (kRunV (rest := []) C ev_ok hE hA hP hD hS [1, 2] rfl rfl rfl (c_X2_begin hr_1) hE.1 0 2 rfl rfl (cwV 1 ht (gV kw_178 kw_179 kw_180 kw_5 kw_181) rfl rfl rfl (by decide +kernel) ⟨Nat.le_of_ble_eq_true rfl, Nat.le_of_ble_eq_true rfl⟩) rfl hl.1 rfl (Nat.le_of_ble_eq_true rfl) dX3_begin_5 ⟨Nat.le_of_ble_eq_true rfl, Nat.le_of_ble_eq_true rfl⟩) rfl rfl rfl (by decide) rfl rfl rfl (fun H locs hP hD hS => ?_)
  refine lv_aload_n hx hb dX3_begin_8 rfl (lv_at hl 0 rfl) ?_
  refine va_get (D := D) (ci := 3) (v := .ref a_ln) (C := RX3) (T := TX3) (N := 4) hx hb ht inX3 hown hE.1 hP 0 rfl rfl 1 (by decide) (ht _ kw_112) (fun _ h9 => h9) rfl dX3_begin_9 ?_
  obtain ⟨r_2, hr_2, h⟩ := o_b_s h
  refine kCv (w' := [(a_rd, .inr (3, [.ref a_tk, .ref a_ln, .int rd_f, .int rd_p])), (a_tk, .inr (2, [.ref a_tx, .int r_1.1, .int r_1.2.1, .int r_1.2.2.1, .int r_1.2.2.2.1, .long r_1.2.2.2.2.1, .int r_1.2.2.2.2.2])), (a_tx, .inl (cB, 4000, .inl tx_b)), (a_ln, .inr (1, [.ref a_lnk, .ref a_lnp, .ref a_lnf, .ref a_lns, .ref a_lnn, .int r_2.1, .int r_2.2])), (a_lnk, .inl (cI, 64, .inl ln_k)), (a_lnp, .inl (cI, 64, .inl ln_p)), (a_lnf, .inl (cI, 64, .inl ln_f)), (a_lns, .inl (cI, 64, .inl ln_s)), (a_lnn, .inl (cL, 4000, .inr (.inl ln_n)))]) hP hD hS hA [3, 4, 5, 6, 7, 8] [0, 1, 2] [0, 1, 2, 3, 4, 5, 6, 7, 8] (kRunV (rest := []) C ev_ok hE hA hP hD hS [3, 4, 5, 6, 7, 8] rfl rfl rfl (c_X1_clear hr_2) hE.1 0 1 rfl rfl (cwV 0 ht (gV kw_182 kw_183 kw_184 kw_3 kw_185) rfl rfl rfl (by decide +kernel) ⟨Nat.le_of_ble_eq_true rfl, Nat.le_of_ble_eq_true rfl⟩) rfl hl.1 rfl (Nat.le_of_ble_eq_true rfl) dX3_begin_12 ⟨Nat.le_of_ble_eq_true rfl, Nat.le_of_ble_eq_true rfl⟩) rfl rfl rfl (by decide) rfl rfl rfl (fun H locs hP hD hS => ?_)
  refine lv_aload_n hx hb dX3_begin_15 rfl (lv_at hl 0 rfl) ?_
  refine lv_iconst (v := 0) hx hb dX3_begin_16 (by decide) ?_
  refine va_put (D := D) (ci := 3) (v := .int (0 : Int32)) (ty := .int) (C := RX3) (T := TX3) (N := 4) hx hb ht inX3 tyX3 tyX3_ok nmX3 hown hE.1 hP hD hS 0 rfl rfl 2 (by decide) (ht _ kw_113) (fun _ h9 => h9) rfl (by decide +kernel) rfl rfl (Nat.le_of_ble_eq_true rfl) dX3_begin_17 (fun H locs hP hD hS => ?_)
  have hP : va_P D vwCl [(a_rd, .inr (3, [.ref a_tk, .ref a_ln, .int (0 : Int32), .int rd_p])), (a_tk, .inr (2, [.ref a_tx, .int r_1.1, .int r_1.2.1, .int r_1.2.2.1, .int r_1.2.2.2.1, .long r_1.2.2.2.2.1, .int r_1.2.2.2.2.2])), (a_tx, .inl (cB, 4000, .inl tx_b)), (a_ln, .inr (1, [.ref a_lnk, .ref a_lnp, .ref a_lnf, .ref a_lns, .ref a_lnn, .int r_2.1, .int r_2.2])), (a_lnk, .inl (cI, 64, .inl ln_k)), (a_lnp, .inl (cI, 64, .inl ln_p)), (a_lnf, .inl (cI, 64, .inl ln_f)), (a_lns, .inl (cI, 64, .inl ln_s)), (a_lnn, .inl (cL, 4000, .inr (.inl ln_n)))] H := hP
  have hD : va_D A [(a_rd, .inr (3, [.ref a_tk, .ref a_ln, .int (0 : Int32), .int rd_p])), (a_tk, .inr (2, [.ref a_tx, .int r_1.1, .int r_1.2.1, .int r_1.2.2.1, .int r_1.2.2.2.1, .long r_1.2.2.2.2.1, .int r_1.2.2.2.2.2])), (a_tx, .inl (cB, 4000, .inl tx_b)), (a_ln, .inr (1, [.ref a_lnk, .ref a_lnp, .ref a_lnf, .ref a_lns, .ref a_lnn, .int r_2.1, .int r_2.2])), (a_lnk, .inl (cI, 64, .inl ln_k)), (a_lnp, .inl (cI, 64, .inl ln_p)), (a_lnf, .inl (cI, 64, .inl ln_f)), (a_lns, .inl (cI, 64, .inl ln_s)), (a_lnn, .inl (cL, 4000, .inr (.inl ln_n)))] := hD
  refine lv_aload_n hx hb dX3_begin_20 rfl (lv_at hl 0 rfl) ?_
  refine lv_iconst (v := -1) hx hb dX3_begin_21 (by decide) ?_
  refine va_put (D := D) (ci := 3) (v := .int (-1 : Int32)) (ty := .int) (C := RX3) (T := TX3) (N := 4) hx hb ht inX3 tyX3 tyX3_ok nmX3 hown hE.1 hP hD hS 0 rfl rfl 3 (by decide) (ht _ kw_115) (fun _ h9 => h9) rfl (by decide +kernel) rfl rfl (Nat.le_of_ble_eq_true rfl) dX3_begin_22 (fun H locs hP hD hS => ?_)
  have hP : va_P D vwCl [(a_rd, .inr (3, [.ref a_tk, .ref a_ln, .int (0 : Int32), .int (-1 : Int32)])), (a_tk, .inr (2, [.ref a_tx, .int r_1.1, .int r_1.2.1, .int r_1.2.2.1, .int r_1.2.2.2.1, .long r_1.2.2.2.2.1, .int r_1.2.2.2.2.2])), (a_tx, .inl (cB, 4000, .inl tx_b)), (a_ln, .inr (1, [.ref a_lnk, .ref a_lnp, .ref a_lnf, .ref a_lns, .ref a_lnn, .int r_2.1, .int r_2.2])), (a_lnk, .inl (cI, 64, .inl ln_k)), (a_lnp, .inl (cI, 64, .inl ln_p)), (a_lnf, .inl (cI, 64, .inl ln_f)), (a_lns, .inl (cI, 64, .inl ln_s)), (a_lnn, .inl (cL, 4000, .inr (.inl ln_n)))] H := hP
  have hD : va_D A [(a_rd, .inr (3, [.ref a_tk, .ref a_ln, .int (0 : Int32), .int (-1 : Int32)])), (a_tk, .inr (2, [.ref a_tx, .int r_1.1, .int r_1.2.1, .int r_1.2.2.1, .int r_1.2.2.2.1, .long r_1.2.2.2.2.1, .int r_1.2.2.2.2.2])), (a_tx, .inl (cB, 4000, .inl tx_b)), (a_ln, .inr (1, [.ref a_lnk, .ref a_lnp, .ref a_lnf, .ref a_lns, .ref a_lnn, .int r_2.1, .int r_2.2])), (a_lnk, .inl (cI, 64, .inl ln_k)), (a_lnp, .inl (cI, 64, .inl ln_p)), (a_lnf, .inl (cI, 64, .inl ln_f)), (a_lns, .inl (cI, 64, .inl ln_s)), (a_lnn, .inl (cL, 4000, .inr (.inl ln_n)))] := hD
  obtain rfl := Option.some.inj h
  exact kRet_v C hP hD hS dX3_begin_25
set_option maxHeartbeats 4000000 in
set_option maxRecDepth 100000 in
theorem k_X3_findLine_J52 {l : Launch} {p : Program} {e : Env} {s : State} {m : MethodId} {args : Array Value} {below : List Frame} {meth : Method} {c : Code} {A : Nat → Prop} {D : va_G} {cB cI cL : ClassId} {a_rd a_tk a_tx a_ln a_lnk a_lnp a_lnf a_lns a_lnn : Nat} {rd_p : Int32} {tk_h : Int32} {tk_v : Int64} {tk_f : Int32} {tx_b : Nat → Int32} {ln_c : Int32} {ln_m : Int32} {ln_k : Nat → Int32} {ln_p : Nat → Int32} {ln_f : Nat → Int32} {ln_s : Nat → Int32} {ln_n : Nat → Int64} {res : Int32} (C : kx p s m args meth c prog_5_method_3_code 2 (some .boolean) "LinkText$Reader" (.code (⟨"LinkText$Reader", "findLine", "()Z"⟩ : MethodName) prog_5_method_3_code 2 (some .boolean) :: k_tbl)) (hE : ev D cB cI cL A s) (hA : ∀ q : Nat, s.heap.size ≤ q → A q) :
    ∀ (rd_f : Int32) (tk_e : Int32) (tk_s : Int32) (tk_p : Int32) (H : Heap) (locs : List Loc) (ls : Array Slot), va_P D vwCl [(a_rd, .inr (3, [.ref a_tk, .ref a_ln, .int rd_f, .int rd_p])), (a_tk, .inr (2, [.ref a_tx, .int tk_e, .int tk_s, .int tk_p, .int tk_h, .long tk_v, .int tk_f])), (a_tx, .inl (cB, 4000, .inl tx_b)), (a_ln, .inr (1, [.ref a_lnk, .ref a_lnp, .ref a_lnf, .ref a_lns, .ref a_lnn, .int ln_c, .int ln_m])), (a_lnk, .inl (cI, 64, .inl ln_k)), (a_lnp, .inl (cI, 64, .inl ln_p)), (a_lnf, .inl (cI, 64, .inl ln_f)), (a_lns, .inl (cI, 64, .inl ln_s)), (a_lnn, .inl (cL, 4000, .inr (.inl ln_n)))] H → va_D A [(a_rd, .inr (3, [.ref a_tk, .ref a_ln, .int rd_f, .int rd_p])), (a_tk, .inr (2, [.ref a_tx, .int tk_e, .int tk_s, .int tk_p, .int tk_h, .long tk_v, .int tk_f])), (a_tx, .inl (cB, 4000, .inl tx_b)), (a_ln, .inr (1, [.ref a_lnk, .ref a_lnp, .ref a_lnf, .ref a_lns, .ref a_lnn, .int ln_c, .int ln_m])), (a_lnk, .inl (cI, 64, .inl ln_k)), (a_lnp, .inl (cI, 64, .inl ln_p)), (a_lnf, .inl (cI, 64, .inl ln_f)), (a_lns, .inl (cI, 64, .inl ln_s)), (a_lnn, .inl (cL, 4000, .inr (.inl ln_n)))] → va_S A s.heap H locs → lv_has ls 2 [(0, .ref a_rd)] → m_X3_findLine_J52  rd_f tk_e tk_s tk_p = some res → W p l e ({ frames := 1, cells := 0, slots := 0, locals := 20 } : Room) s m args below meth c H locs 0 0 (MQ below (kQi D vwCl [(a_rd, .inr (3, [.ref a_tk, .ref a_ln, .int rd_f, .int rd_p])), (a_tk, .inr (2, [.ref a_tx, .int tk_e, .int tk_s, .int tk_p, .int tk_h, .long tk_v, .int tk_f])), (a_tx, .inl (cB, 4000, .inl tx_b)), (a_ln, .inr (1, [.ref a_lnk, .ref a_lnp, .ref a_lnf, .ref a_lns, .ref a_lnn, .int ln_c, .int ln_m])), (a_lnk, .inl (cI, 64, .inl ln_k)), (a_lnp, .inl (cI, 64, .inl ln_p)), (a_lnf, .inl (cI, 64, .inl ln_f)), (a_lns, .inl (cI, 64, .inl ln_s)), (a_lnn, .inl (cL, 4000, .inr (.inl ln_n)))] res A) args s 0 0 A) (F0 m 52 ls []) := by
  obtain ⟨hx, hb, hr, hml, hown, hts, hlocks⟩ := id C
  have ht : ∀ w ∈ k_tbl, w.before args s = true := fun w h => hts w (List.mem_cons_of_mem _ h)
  intro rd_f tk_e tk_s tk_p H locs ls hP hD hS hl h
  unfold m_X3_findLine_J52 at h
  refine lv_aload_n hx hb dX3_findLine_52 rfl (lv_at hl 0 rfl) ?_
  refine va_get (D := D) (ci := 3) (v := .ref a_tk) (C := RX3) (T := TX3) (N := 4) hx hb ht inX3 hown hE.1 hP 0 rfl rfl 0 (by decide) (ht _ kw_111) (fun _ h9 => h9) rfl dX3_findLine_53 ?_
  obtain ⟨r_1, hr_1, h⟩ := o_b_s h
  refine kCi (w' := [(a_rd, .inr (3, [.ref a_tk, .ref a_ln, .int rd_f, .int rd_p])), (a_tk, .inr (2, [.ref a_tx, .int tk_e, .int tk_s, .int tk_p, .int tk_h, .long tk_v, .int tk_f])), (a_tx, .inl (cB, 4000, .inl tx_b)), (a_ln, .inr (1, [.ref a_lnk, .ref a_lnp, .ref a_lnf, .ref a_lns, .ref a_lnn, .int ln_c, .int ln_m])), (a_lnk, .inl (cI, 64, .inl ln_k)), (a_lnp, .inl (cI, 64, .inl ln_p)), (a_lnf, .inl (cI, 64, .inl ln_f)), (a_lns, .inl (cI, 64, .inl ln_s)), (a_lnn, .inl (cL, 4000, .inr (.inl ln_n)))]) hP hD hS hA [1, 2] [0, 3, 4, 5, 6, 7, 8] [0, 7, 8, 1, 2, 3, 4, 5, 6] (kRunV (rest := []) C ev_ok hE hA hP hD hS [1, 2] rfl rfl rfl (c_X2_isLineEnd hr_1) hE.1 0 2 rfl rfl (cwV 0 ht (gV kw_190 kw_191 kw_192 kw_5 kw_193) rfl rfl rfl (by decide +kernel) ⟨Nat.le_of_ble_eq_true rfl, Nat.le_of_ble_eq_true rfl⟩) rfl hl.1 rfl (Nat.le_of_ble_eq_true rfl) dX3_findLine_56 ⟨Nat.le_of_ble_eq_true rfl, Nat.le_of_ble_eq_true rfl⟩) rfl rfl rfl (by decide) rfl rfl rfl (fun H locs hP hD hS => ?_)
  refine lv_if_ne (tgt := 66) hx hb dX3_findLine_59 (by decide) (fun c_2 => ?_) (fun c_2 => ?_)
  · replace h := o_f c_2 h
    refine lv_iconst (v := 0) hx hb dX3_findLine_66 (by decide) ?_
    obtain rfl := Option.some.inj h
    exact kRet_z C (by decide) hP hD hS dX3_findLine_67
  · replace h := o_t c_2 h
    refine lv_iconst (v := 1) hx hb dX3_findLine_62 (by decide) ?_
    refine lv_goto (tgt := 67) hx hb dX3_findLine_63 (by decide) ?_
    obtain rfl := Option.some.inj h
    exact kRet_z C (by decide) hP hD hS dX3_findLine_67
set_option maxHeartbeats 4000000 in
set_option maxRecDepth 100000 in
theorem k_X3_findLine_L11 {l : Launch} {p : Program} {e : Env} {s : State} {m : MethodId} {args : Array Value} {below : List Frame} {meth : Method} {c : Code} {A : Nat → Prop} {D : va_G} {cB cI cL : ClassId} {a_rd a_tk a_tx a_ln a_lnk a_lnp a_lnf a_lns a_lnn : Nat} {rd_p : Int32} {tk_h : Int32} {tk_v : Int64} {tk_f : Int32} {tx_b : Nat → Int32} {ln_c : Int32} {ln_m : Int32} {ln_k : Nat → Int32} {ln_p : Nat → Int32} {ln_f : Nat → Int32} {ln_s : Nat → Int32} {ln_n : Nat → Int64} {res : Int32} (C : kx p s m args meth c prog_5_method_3_code 2 (some .boolean) "LinkText$Reader" (.code (⟨"LinkText$Reader", "findLine", "()Z"⟩ : MethodName) prog_5_method_3_code 2 (some .boolean) :: k_tbl)) (hE : ev D cB cI cL A s) (hA : ∀ q : Nat, s.heap.size ≤ q → A q) :
    ∀ (n : Nat) (rd_f : Int32) (tk_e : Int32) (tk_s : Int32) (tk_p : Int32) (x1 : Int32) (H : Heap) (locs : List Loc) (ls : Array Slot), va_P D vwCl [(a_rd, .inr (3, [.ref a_tk, .ref a_ln, .int rd_f, .int rd_p])), (a_tk, .inr (2, [.ref a_tx, .int tk_e, .int tk_s, .int tk_p, .int tk_h, .long tk_v, .int tk_f])), (a_tx, .inl (cB, 4000, .inl tx_b)), (a_ln, .inr (1, [.ref a_lnk, .ref a_lnp, .ref a_lnf, .ref a_lns, .ref a_lnn, .int ln_c, .int ln_m])), (a_lnk, .inl (cI, 64, .inl ln_k)), (a_lnp, .inl (cI, 64, .inl ln_p)), (a_lnf, .inl (cI, 64, .inl ln_f)), (a_lns, .inl (cI, 64, .inl ln_s)), (a_lnn, .inl (cL, 4000, .inr (.inl ln_n)))] H → va_D A [(a_rd, .inr (3, [.ref a_tk, .ref a_ln, .int rd_f, .int rd_p])), (a_tk, .inr (2, [.ref a_tx, .int tk_e, .int tk_s, .int tk_p, .int tk_h, .long tk_v, .int tk_f])), (a_tx, .inl (cB, 4000, .inl tx_b)), (a_ln, .inr (1, [.ref a_lnk, .ref a_lnp, .ref a_lnf, .ref a_lns, .ref a_lnn, .int ln_c, .int ln_m])), (a_lnk, .inl (cI, 64, .inl ln_k)), (a_lnp, .inl (cI, 64, .inl ln_p)), (a_lnf, .inl (cI, 64, .inl ln_f)), (a_lns, .inl (cI, 64, .inl ln_s)), (a_lnn, .inl (cL, 4000, .inr (.inl ln_n)))] → va_S A s.heap H locs → lv_has ls 2 [(0, .ref a_rd), (1, .int x1)] → m_X3_findLine_L11  n rd_f tk_e tk_s tk_p x1 = some res → W p l e ({ frames := 1, cells := 0, slots := 0, locals := 20 } : Room) s m args below meth c H locs 0 0 (MQ below (kQi D vwCl [(a_rd, .inr (3, [.ref a_tk, .ref a_ln, .int rd_f, .int rd_p])), (a_tk, .inr (2, [.ref a_tx, .int tk_e, .int tk_s, .int tk_p, .int tk_h, .long tk_v, .int tk_f])), (a_tx, .inl (cB, 4000, .inl tx_b)), (a_ln, .inr (1, [.ref a_lnk, .ref a_lnp, .ref a_lnf, .ref a_lns, .ref a_lnn, .int ln_c, .int ln_m])), (a_lnk, .inl (cI, 64, .inl ln_k)), (a_lnp, .inl (cI, 64, .inl ln_p)), (a_lnf, .inl (cI, 64, .inl ln_f)), (a_lns, .inl (cI, 64, .inl ln_s)), (a_lnn, .inl (cL, 4000, .inr (.inl ln_n)))] res A) args s 0 0 A) (F0 m 11 ls []) := by
  obtain ⟨hx, hb, hr, hml, hown, hts, hlocks⟩ := id C
  have ht : ∀ w ∈ k_tbl, w.before args s = true := fun w h => hts w (List.mem_cons_of_mem _ h)
  intro n
  induction n with
  | zero =>
    intro _ _ _ _ _ _ _ _ _ _ _ _ h
    cases h
  | succ n ih =>
    intro rd_f tk_e tk_s tk_p x1 H locs ls hP hD hS hl h
    rw [m_X3_findLine_L11] at h
    refine lv_iload_n hx hb dX3_findLine_11 rfl (lv_at hl 1 rfl) ?_
    refine lv_sipush (v := 4000) hx hb dX3_findLine_12 (by decide) ?_
    refine lv_icmp_gt (tgt := 52) hx hb dX3_findLine_15 (by decide) (fun c_3 => ?_) (fun c_3 => ?_)
    · replace h := o_t c_3 h
      exact k_X3_findLine_J52 C hE hA  rd_f tk_e tk_s tk_p _ _ _ hP hD hS (lv_sub hl [0] rfl) h
    · replace h := o_f c_3 h
      refine lv_aload_n hx hb dX3_findLine_18 rfl (lv_at hl 0 rfl) ?_
      refine va_get (D := D) (ci := 3) (v := .ref a_tk) (C := RX3) (T := TX3) (N := 4) hx hb ht inX3 hown hE.1 hP 0 rfl rfl 0 (by decide) (ht _ kw_111) (fun _ h9 => h9) rfl dX3_findLine_19 ?_
      obtain ⟨r_4, hr_4, h⟩ := o_b_s h
      refine kCi (w' := [(a_rd, .inr (3, [.ref a_tk, .ref a_ln, .int rd_f, .int rd_p])), (a_tk, .inr (2, [.ref a_tx, .int tk_e, .int tk_s, .int tk_p, .int tk_h, .long tk_v, .int tk_f])), (a_tx, .inl (cB, 4000, .inl tx_b)), (a_ln, .inr (1, [.ref a_lnk, .ref a_lnp, .ref a_lnf, .ref a_lns, .ref a_lnn, .int ln_c, .int ln_m])), (a_lnk, .inl (cI, 64, .inl ln_k)), (a_lnp, .inl (cI, 64, .inl ln_p)), (a_lnf, .inl (cI, 64, .inl ln_f)), (a_lns, .inl (cI, 64, .inl ln_s)), (a_lnn, .inl (cL, 4000, .inr (.inl ln_n)))]) hP hD hS hA [1, 2] [0, 3, 4, 5, 6, 7, 8] [0, 7, 8, 1, 2, 3, 4, 5, 6] (kRunV (rest := []) C ev_ok hE hA hP hD hS [1, 2] rfl rfl rfl (c_X2_isLineEnd hr_4) hE.1 0 2 rfl rfl (cwV 0 ht (gV kw_190 kw_191 kw_192 kw_5 kw_193) rfl rfl rfl (by decide +kernel) ⟨Nat.le_of_ble_eq_true rfl, Nat.le_of_ble_eq_true rfl⟩) rfl hl.1 rfl (Nat.le_of_ble_eq_true rfl) dX3_findLine_22 ⟨Nat.le_of_ble_eq_true rfl, Nat.le_of_ble_eq_true rfl⟩) rfl rfl rfl (by decide) rfl rfl rfl (fun H locs hP hD hS => ?_)
      refine lv_if_eq (tgt := 52) hx hb dX3_findLine_25 (by decide) (fun c_5 => ?_) (fun c_5 => ?_)
      · replace h := o_t c_5 h
        exact k_X3_findLine_J52 C hE hA  rd_f tk_e tk_s tk_p _ _ _ hP hD hS (lv_sub hl [0] rfl) h
      · replace h := o_f c_5 h
        refine lv_aload_n hx hb dX3_findLine_28 rfl (lv_at hl 0 rfl) ?_
        refine va_get (D := D) (ci := 3) (v := .ref a_tk) (C := RX3) (T := TX3) (N := 4) hx hb ht inX3 hown hE.1 hP 0 rfl rfl 0 (by decide) (ht _ kw_111) (fun _ h9 => h9) rfl dX3_findLine_29 ?_
        obtain ⟨r_6, hr_6, h⟩ := o_b_s h
        refine kCi (w' := [(a_rd, .inr (3, [.ref a_tk, .ref a_ln, .int rd_f, .int rd_p])), (a_tk, .inr (2, [.ref a_tx, .int tk_e, .int tk_s, .int tk_p, .int tk_h, .long tk_v, .int tk_f])), (a_tx, .inl (cB, 4000, .inl tx_b)), (a_ln, .inr (1, [.ref a_lnk, .ref a_lnp, .ref a_lnf, .ref a_lns, .ref a_lnn, .int ln_c, .int ln_m])), (a_lnk, .inl (cI, 64, .inl ln_k)), (a_lnp, .inl (cI, 64, .inl ln_p)), (a_lnf, .inl (cI, 64, .inl ln_f)), (a_lns, .inl (cI, 64, .inl ln_s)), (a_lnn, .inl (cL, 4000, .inr (.inl ln_n)))]) hP hD hS hA [1, 2] [0, 3, 4, 5, 6, 7, 8] [0, 7, 8, 1, 2, 3, 4, 5, 6] (kRunV (rest := []) C ev_ok hE hA hP hD hS [1, 2] rfl rfl rfl (c_X2_isTextEnd hr_6) hE.1 0 2 rfl rfl (cwV 0 ht (gV kw_194 kw_195 kw_196 kw_5 kw_197) rfl rfl rfl (by decide +kernel) ⟨Nat.le_of_ble_eq_true rfl, Nat.le_of_ble_eq_true rfl⟩) rfl hl.1 rfl (Nat.le_of_ble_eq_true rfl) dX3_findLine_32 ⟨Nat.le_of_ble_eq_true rfl, Nat.le_of_ble_eq_true rfl⟩) rfl rfl rfl (by decide) rfl rfl rfl (fun H locs hP hD hS => ?_)
        refine lv_if_ne (tgt := 52) hx hb dX3_findLine_35 (by decide) (fun c_7 => ?_) (fun c_7 => ?_)
        · replace h := o_f c_7 h
          exact k_X3_findLine_J52 C hE hA  rd_f tk_e tk_s tk_p _ _ _ hP hD hS (lv_sub hl [0] rfl) h
        · replace h := o_t c_7 h
          refine lv_aload_n hx hb dX3_findLine_38 rfl (lv_at hl 0 rfl) ?_
          refine va_get (D := D) (ci := 3) (v := .ref a_tk) (C := RX3) (T := TX3) (N := 4) hx hb ht inX3 hown hE.1 hP 0 rfl rfl 0 (by decide) (ht _ kw_111) (fun _ h9 => h9) rfl dX3_findLine_39 ?_
          refine lv_iconst (v := 0) hx hb dX3_findLine_42 (by decide) ?_
          cases h
set_option maxHeartbeats 4000000 in
set_option maxRecDepth 100000 in
theorem c_X3_findLine {l : Launch} {D : va_G} {cB cI cL : ClassId} {a_rd a_tk a_tx a_ln a_lnk a_lnp a_lnf a_lns a_lnn : Nat} {rd_f : Int32} {rd_p : Int32} {tk_e : Int32} {tk_s : Int32} {tk_p : Int32} {tk_h : Int32} {tk_v : Int64} {tk_f : Int32} {tx_b : Nat → Int32} {ln_c : Int32} {ln_m : Int32} {ln_k : Nat → Int32} {ln_p : Nat → Int32} {ln_f : Nat → Int32} {ln_s : Nat → Int32} {ln_n : Nat → Int64} {res : Int32} (h : m_X3_findLine rd_f tk_e tk_s tk_p = some res) : KMet l (⟨"LinkText$Reader", "findLine", "()Z"⟩ : MethodName) (.code (⟨"LinkText$Reader", "findLine", "()Z"⟩ : MethodName) prog_5_method_3_code 2 (some .boolean) :: k_tbl) ({ frames := 1, cells := 0, slots := 0, locals := 20 } : Room) (ev D cB cI cL) D vwCl [.ref a_rd] [(a_rd, .inr (3, [.ref a_tk, .ref a_ln, .int rd_f, .int rd_p])), (a_tk, .inr (2, [.ref a_tx, .int tk_e, .int tk_s, .int tk_p, .int tk_h, .long tk_v, .int tk_f])), (a_tx, .inl (cB, 4000, .inl tx_b)), (a_ln, .inr (1, [.ref a_lnk, .ref a_lnp, .ref a_lnf, .ref a_lns, .ref a_lnn, .int ln_c, .int ln_m])), (a_lnk, .inl (cI, 64, .inl ln_k)), (a_lnp, .inl (cI, 64, .inl ln_p)), (a_lnf, .inl (cI, 64, .inl ln_f)), (a_lns, .inl (cI, 64, .inl ln_s)), (a_lnn, .inl (cL, 4000, .inr (.inl ln_n)))] (kQi D vwCl [(a_rd, .inr (3, [.ref a_tk, .ref a_ln, .int rd_f, .int rd_p])), (a_tk, .inr (2, [.ref a_tx, .int tk_e, .int tk_s, .int tk_p, .int tk_h, .long tk_v, .int tk_f])), (a_tx, .inl (cB, 4000, .inl tx_b)), (a_ln, .inr (1, [.ref a_lnk, .ref a_lnp, .ref a_lnf, .ref a_lns, .ref a_lnn, .int ln_c, .int ln_m])), (a_lnk, .inl (cI, 64, .inl ln_k)), (a_lnp, .inl (cI, 64, .inl ln_p)), (a_lnf, .inl (cI, 64, .inl ln_f)), (a_lns, .inl (cI, 64, .inl ln_s)), (a_lnn, .inl (cL, 4000, .inr (.inl ln_n)))] res) := by
  unfold m_X3_findLine at h
  refine kMet (cc := prog_5_method_3_code) (mL := 2) (ret := (some .boolean)) (own := "LinkText$Reader") (by decide) rfl rfl (Nat.le_of_ble_eq_true rfl) ?_
  intro p e s m below meth c A C hnm hE hA hP hD ls hl
  generalize ([.ref a_rd] : List Value).toArray = args at C ⊢
  obtain ⟨hx, hb, hr, hml, hown, hts, hlocks⟩ := id C
  have ht : ∀ w ∈ k_tbl, w.before args s = true := fun w h => hts w (List.mem_cons_of_mem _ h)
  have hS : va_S A s.heap s.heap [] := va_S.rf
  have hl : lv_has ls 2 [(0, .ref a_rd)] := hl
  refine lv_aload_n hx hb dX3_findLine_0 rfl (lv_at hl 0 rfl) ?_
  refine va_get (D := D) (ci := 3) (v := .int rd_f) (C := RX3) (T := TX3) (N := 4) hx hb ht inX3 hown hE.1 hP 0 rfl rfl 2 (by decide) (ht _ kw_113) (fun _ h9 => h9) rfl dX3_findLine_1 ?_
  refine lv_if_eq (tgt := 9) hx hb dX3_findLine_4 (by decide) (fun c_8 => ?_) (fun c_8 => ?_)
  · replace h := o_t c_8 h
    refine lv_iconst (v := 0) hx hb dX3_findLine_9 (by decide) ?_
    refine lv_istore_n (lv' := [(1, .int (0 : Int32)), (0, .ref a_rd)]) hx hb dX3_findLine_10 rfl hl (by decide) rfl (fun ls hl => ?_)
    exact k_X3_findLine_L11 C hE hA  fu rd_f tk_e tk_s tk_p (0 : Int32) _ _ _ hP hD hS (lv_sub hl [1, 0] rfl) h
  · replace h := o_f c_8 h
    refine lv_iconst (v := 0) hx hb dX3_findLine_7 (by decide) ?_
    obtain rfl := Option.some.inj h
    exact kRet_z C (by decide) hP hD hS dX3_findLine_8
end
section
set_option maxHeartbeats 4000000 in
set_option maxRecDepth 100000 in
theorem c_X5_valueOf {l : Launch} {D : va_G} {cB cI cL : ClassId} {p0 : Int64} {res : Int64} (h : m_X5_valueOf p0 = some res) : KMet l (⟨"LinkText", "valueOf", "(J)J"⟩ : MethodName) (.code (⟨"LinkText", "valueOf", "(J)J"⟩ : MethodName) prog_1_method_14_code 2 (some .long) :: k_tbl) ({ frames := 0, cells := 0, slots := 0, locals := 0 } : Room) (ev D cB cI cL) D vwCl [.long p0] [] (kQl D vwCl [] res) := by
  unfold m_X5_valueOf at h
  refine kMet (cc := prog_1_method_14_code) (mL := 2) (ret := (some .long)) (own := "LinkText") (by decide) rfl rfl (Nat.le_of_ble_eq_true rfl) ?_
  intro p e s m below meth c A C hnm hE hA hP hD ls hl
  generalize ([.long p0] : List Value).toArray = args at C ⊢
  obtain ⟨hx, hb, hr, hml, hown, hts, hlocks⟩ := id C
  have ht : ∀ w ∈ k_tbl, w.before args s = true := fun w h => hts w (List.mem_cons_of_mem _ h)
  have hS : va_S A s.heap s.heap [] := va_S.rf
  have hl : lv_has ls 2 [(0, .long p0)] := hl
  refine lv_lload_n hx hb dX5_valueOf_0 rfl (lv_at hl 0 rfl) ?_
  refine lv_ldc2 (v := -1000000000000000000) hx hb hown (ht _ kw_356) dX5_valueOf_1 ?_
  refine W.lcmp hx hb dX5_valueOf_4 ?_
  refine lv_if_ne (tgt := 12) hx hb dX5_valueOf_5 (by decide) (fun c_1 => ?_) (fun c_1 => ?_)
  · replace h := o_f c_1 h
    refine lv_lload_n hx hb dX5_valueOf_12 rfl (lv_at hl 0 rfl) ?_
    obtain rfl := Option.some.inj h
    exact kRet_l C hP hD hS dX5_valueOf_13
  · replace h := o_t c_1 h
    refine lv_lconst (v := 0) hx hb dX5_valueOf_8 (by decide) ?_
    refine lv_goto (tgt := 13) hx hb dX5_valueOf_9 (by decide) ?_
    obtain rfl := Option.some.inj h
    exact kRet_l C hP hD hS dX5_valueOf_13
set_option maxHeartbeats 4000000 in
set_option maxRecDepth 100000 in
theorem k_X5_feedFour_L3 {l : Launch} {p : Program} {e : Env} {s : State} {m : MethodId} {args : Array Value} {below : List Frame} {meth : Method} {c : Code} {A : Nat → Prop} {D : va_G} {cB cI cL : ClassId} {a_xx a_tp a_tpb a_pp a_ppb a_ln a_lnk a_lnp a_lnf a_lns a_lnn a_rd a_tk a_pr : Nat} {xx_e : Int32} {pp_c : Int32} {pp_o : Int32} {pp_b : Nat → Int32} {ln_c : Int32} {ln_m : Int32} {ln_k : Nat → Int32} {ln_p : Nat → Int32} {ln_f : Nat → Int32} {ln_s : Nat → Int32} {ln_n : Nat → Int64} {rd_f : Int32} {rd_p : Int32} {tk_e : Int32} {tk_s : Int32} {tk_p : Int32} {tk_h : Int32} {tk_v : Int64} {tk_f : Int32} {res : Int32 × Int32 × (Nat → Int32)} (C : kx p s m args meth c prog_1_method_3_code 3 none "LinkText" (.code (⟨"LinkText", "feedFour", "(I)V"⟩ : MethodName) prog_1_method_3_code 3 none :: k_tbl)) (hE : ev D cB cI cL A s) (hA : ∀ q : Nat, s.heap.size ≤ q → A q) :
    ∀ (n : Nat) (tp_c : Int32) (tp_o : Int32) (tp_b : Nat → Int32) (x1 : Int32) (x2 : Int32) (H : Heap) (locs : List Loc) (ls : Array Slot), va_P D vwCl [(a_xx, .inr (5, [.ref a_tp, .ref a_pp, .ref a_ln, .ref a_rd, .ref a_pr, .int xx_e])), (a_tp, .inr (0, [.ref a_tpb, .int tp_c, .int tp_o])), (a_tpb, .inl (cB, 4000, .inl tp_b)), (a_pp, .inr (0, [.ref a_ppb, .int pp_c, .int pp_o])), (a_ppb, .inl (cB, 4000, .inl pp_b)), (a_ln, .inr (1, [.ref a_lnk, .ref a_lnp, .ref a_lnf, .ref a_lns, .ref a_lnn, .int ln_c, .int ln_m])), (a_lnk, .inl (cI, 64, .inl ln_k)), (a_lnp, .inl (cI, 64, .inl ln_p)), (a_lnf, .inl (cI, 64, .inl ln_f)), (a_lns, .inl (cI, 64, .inl ln_s)), (a_lnn, .inl (cL, 4000, .inr (.inl ln_n))), (a_rd, .inr (3, [.ref a_tk, .ref a_ln, .int rd_f, .int rd_p])), (a_tk, .inr (2, [.ref a_tpb, .int tk_e, .int tk_s, .int tk_p, .int tk_h, .long tk_v, .int tk_f])), (a_pr, .inr (4, [.ref a_pp, .ref a_ln]))] H → va_D A [(a_xx, .inr (5, [.ref a_tp, .ref a_pp, .ref a_ln, .ref a_rd, .ref a_pr, .int xx_e])), (a_tp, .inr (0, [.ref a_tpb, .int tp_c, .int tp_o])), (a_tpb, .inl (cB, 4000, .inl tp_b)), (a_pp, .inr (0, [.ref a_ppb, .int pp_c, .int pp_o])), (a_ppb, .inl (cB, 4000, .inl pp_b)), (a_ln, .inr (1, [.ref a_lnk, .ref a_lnp, .ref a_lnf, .ref a_lns, .ref a_lnn, .int ln_c, .int ln_m])), (a_lnk, .inl (cI, 64, .inl ln_k)), (a_lnp, .inl (cI, 64, .inl ln_p)), (a_lnf, .inl (cI, 64, .inl ln_f)), (a_lns, .inl (cI, 64, .inl ln_s)), (a_lnn, .inl (cL, 4000, .inr (.inl ln_n))), (a_rd, .inr (3, [.ref a_tk, .ref a_ln, .int rd_f, .int rd_p])), (a_tk, .inr (2, [.ref a_tpb, .int tk_e, .int tk_s, .int tk_p, .int tk_h, .long tk_v, .int tk_f])), (a_pr, .inr (4, [.ref a_pp, .ref a_ln]))] → va_S A s.heap H locs → lv_has ls 3 [(0, .ref a_xx), (1, .int x1), (2, .int x2)] → m_X5_feedFour_L3  n tp_c tp_o tp_b x1 x2 = some res → W p l e ({ frames := 1, cells := 0, slots := 0, locals := 21 } : Room) s m args below meth c H locs 0 0 (MQ below (kQv D vwCl [(a_xx, .inr (5, [.ref a_tp, .ref a_pp, .ref a_ln, .ref a_rd, .ref a_pr, .int xx_e])), (a_tp, .inr (0, [.ref a_tpb, .int res.1, .int res.2.1])), (a_tpb, .inl (cB, 4000, .inl res.2.2)), (a_pp, .inr (0, [.ref a_ppb, .int pp_c, .int pp_o])), (a_ppb, .inl (cB, 4000, .inl pp_b)), (a_ln, .inr (1, [.ref a_lnk, .ref a_lnp, .ref a_lnf, .ref a_lns, .ref a_lnn, .int ln_c, .int ln_m])), (a_lnk, .inl (cI, 64, .inl ln_k)), (a_lnp, .inl (cI, 64, .inl ln_p)), (a_lnf, .inl (cI, 64, .inl ln_f)), (a_lns, .inl (cI, 64, .inl ln_s)), (a_lnn, .inl (cL, 4000, .inr (.inl ln_n))), (a_rd, .inr (3, [.ref a_tk, .ref a_ln, .int rd_f, .int rd_p])), (a_tk, .inr (2, [.ref a_tpb, .int tk_e, .int tk_s, .int tk_p, .int tk_h, .long tk_v, .int tk_f])), (a_pr, .inr (4, [.ref a_pp, .ref a_ln]))] A) args s 0 0 A) (F0 m 3 ls []) := by
  obtain ⟨hx, hb, hr, hml, hown, hts, hlocks⟩ := id C
  have ht : ∀ w ∈ k_tbl, w.before args s = true := fun w h => hts w (List.mem_cons_of_mem _ h)
  intro n
  induction n with
  | zero =>
    intro _ _ _ _ _ _ _ _ _ _ _ _ h
    cases h
  | succ n ih =>
    intro tp_c tp_o tp_b x1 x2 H locs ls hP hD hS hl h
    rw [m_X5_feedFour_L3] at h
    refine lv_iload_n hx hb dX5_feedFour_3 rfl (lv_at hl 2 rfl) ?_
    refine lv_if_lt (tgt := 23) hx hb dX5_feedFour_4 (by decide) (fun c_1 => ?_) (fun c_1 => ?_)
    · replace h := o_t c_1 h
      obtain rfl := Option.some.inj h
      exact kRet_v C hP hD hS dX5_feedFour_23
    · replace h := o_f c_1 h
      refine lv_aload_n hx hb dX5_feedFour_7 rfl (lv_at hl 0 rfl) ?_
      refine va_get (D := D) (ci := 5) (v := .ref a_tp) (C := RX5) (T := TX5) (N := 6) hx hb ht inX5 hown hE.1 hP 0 rfl rfl 0 (by decide) (ht _ kw_139) (fun _ h9 => h9) rfl dX5_feedFour_8 ?_
      refine lv_iload_n hx hb dX5_feedFour_11 rfl (lv_at hl 1 rfl) ?_
      refine lv_iload_n hx hb dX5_feedFour_12 rfl (lv_at hl 2 rfl) ?_
      refine lv_ishr hx hb dX5_feedFour_13 ?_
      refine lv_topi (fun t_2 et_2 => ?_)
      replace h := o_let_s et_2 h
      obtain ⟨r_3, hr_3, h⟩ := o_b_s h
      refine kCv (w' := [(a_xx, .inr (5, [.ref a_tp, .ref a_pp, .ref a_ln, .ref a_rd, .ref a_pr, .int xx_e])), (a_tp, .inr (0, [.ref a_tpb, .int r_3.1, .int r_3.2.1])), (a_tpb, .inl (cB, 4000, .inl r_3.2.2)), (a_pp, .inr (0, [.ref a_ppb, .int pp_c, .int pp_o])), (a_ppb, .inl (cB, 4000, .inl pp_b)), (a_ln, .inr (1, [.ref a_lnk, .ref a_lnp, .ref a_lnf, .ref a_lns, .ref a_lnn, .int ln_c, .int ln_m])), (a_lnk, .inl (cI, 64, .inl ln_k)), (a_lnp, .inl (cI, 64, .inl ln_p)), (a_lnf, .inl (cI, 64, .inl ln_f)), (a_lns, .inl (cI, 64, .inl ln_s)), (a_lnn, .inl (cL, 4000, .inr (.inl ln_n))), (a_rd, .inr (3, [.ref a_tk, .ref a_ln, .int rd_f, .int rd_p])), (a_tk, .inr (2, [.ref a_tpb, .int tk_e, .int tk_s, .int tk_p, .int tk_h, .long tk_v, .int tk_f])), (a_pr, .inr (4, [.ref a_pp, .ref a_ln]))]) hP hD hS hA [1, 2] [0, 3, 4, 5, 6, 7, 8, 9, 10, 11, 12, 13] [0, 12, 13, 1, 2, 3, 4, 5, 6, 7, 8, 9, 10, 11] (kRunV (rest := []) C ev_ok hE hA hP hD hS [1, 2] rfl rfl rfl (c_X0_add hr_3) hE.1 0 0 rfl rfl (cwV 1 ht (gV kw_166 kw_167 kw_168 kw_2 kw_169) rfl rfl rfl (by decide +kernel) ⟨Nat.le_of_ble_eq_true rfl, Nat.le_of_ble_eq_true rfl⟩) rfl hl.1 rfl (Nat.le_of_ble_eq_true rfl) dX5_feedFour_14 ⟨Nat.le_of_ble_eq_true rfl, Nat.le_of_ble_eq_true rfl⟩) rfl rfl rfl (by decide) rfl rfl rfl (fun H locs hP hD hS => ?_)
      obtain ⟨t_4, et_4⟩ : ∃ y : Int32, y = x2 + (-8) := ⟨_, rfl⟩
      replace h := o_let_s et_4 h
      refine lv_iinc (v := t_4) (lv' := [(2, .int t_4), (0, .ref a_xx), (1, .int x1)]) hx hb dX5_feedFour_17 hl (k := 2) rfl (by rw [et_4]; rfl) (by decide) rfl (fun ls hl => ?_)
      refine lv_goto (tgt := 3) hx hb dX5_feedFour_20 (by decide) ?_
      exact ih r_3.1 r_3.2.1 r_3.2.2 x1 t_4 _ _ _ hP hD hS (lv_sub hl [1, 2, 0] rfl) h
set_option maxHeartbeats 4000000 in
set_option maxRecDepth 100000 in
theorem c_X5_feedFour {l : Launch} {D : va_G} {cB cI cL : ClassId} {a_xx a_tp a_tpb a_pp a_ppb a_ln a_lnk a_lnp a_lnf a_lns a_lnn a_rd a_tk a_pr : Nat} {xx_e : Int32} {tp_c : Int32} {tp_o : Int32} {tp_b : Nat → Int32} {pp_c : Int32} {pp_o : Int32} {pp_b : Nat → Int32} {ln_c : Int32} {ln_m : Int32} {ln_k : Nat → Int32} {ln_p : Nat → Int32} {ln_f : Nat → Int32} {ln_s : Nat → Int32} {ln_n : Nat → Int64} {rd_f : Int32} {rd_p : Int32} {tk_e : Int32} {tk_s : Int32} {tk_p : Int32} {tk_h : Int32} {tk_v : Int64} {tk_f : Int32} {p0 : Int32} {res : Int32 × Int32 × (Nat → Int32)} (h : m_X5_feedFour tp_c tp_o tp_b p0 = some res) : KMet l (⟨"LinkText", "feedFour", "(I)V"⟩ : MethodName) (.code (⟨"LinkText", "feedFour", "(I)V"⟩ : MethodName) prog_1_method_3_code 3 none :: k_tbl) ({ frames := 1, cells := 0, slots := 0, locals := 21 } : Room) (ev D cB cI cL) D vwCl [.ref a_xx, .int p0] [(a_xx, .inr (5, [.ref a_tp, .ref a_pp, .ref a_ln, .ref a_rd, .ref a_pr, .int xx_e])), (a_tp, .inr (0, [.ref a_tpb, .int tp_c, .int tp_o])), (a_tpb, .inl (cB, 4000, .inl tp_b)), (a_pp, .inr (0, [.ref a_ppb, .int pp_c, .int pp_o])), (a_ppb, .inl (cB, 4000, .inl pp_b)), (a_ln, .inr (1, [.ref a_lnk, .ref a_lnp, .ref a_lnf, .ref a_lns, .ref a_lnn, .int ln_c, .int ln_m])), (a_lnk, .inl (cI, 64, .inl ln_k)), (a_lnp, .inl (cI, 64, .inl ln_p)), (a_lnf, .inl (cI, 64, .inl ln_f)), (a_lns, .inl (cI, 64, .inl ln_s)), (a_lnn, .inl (cL, 4000, .inr (.inl ln_n))), (a_rd, .inr (3, [.ref a_tk, .ref a_ln, .int rd_f, .int rd_p])), (a_tk, .inr (2, [.ref a_tpb, .int tk_e, .int tk_s, .int tk_p, .int tk_h, .long tk_v, .int tk_f])), (a_pr, .inr (4, [.ref a_pp, .ref a_ln]))] (kQv D vwCl [(a_xx, .inr (5, [.ref a_tp, .ref a_pp, .ref a_ln, .ref a_rd, .ref a_pr, .int xx_e])), (a_tp, .inr (0, [.ref a_tpb, .int res.1, .int res.2.1])), (a_tpb, .inl (cB, 4000, .inl res.2.2)), (a_pp, .inr (0, [.ref a_ppb, .int pp_c, .int pp_o])), (a_ppb, .inl (cB, 4000, .inl pp_b)), (a_ln, .inr (1, [.ref a_lnk, .ref a_lnp, .ref a_lnf, .ref a_lns, .ref a_lnn, .int ln_c, .int ln_m])), (a_lnk, .inl (cI, 64, .inl ln_k)), (a_lnp, .inl (cI, 64, .inl ln_p)), (a_lnf, .inl (cI, 64, .inl ln_f)), (a_lns, .inl (cI, 64, .inl ln_s)), (a_lnn, .inl (cL, 4000, .inr (.inl ln_n))), (a_rd, .inr (3, [.ref a_tk, .ref a_ln, .int rd_f, .int rd_p])), (a_tk, .inr (2, [.ref a_tpb, .int tk_e, .int tk_s, .int tk_p, .int tk_h, .long tk_v, .int tk_f])), (a_pr, .inr (4, [.ref a_pp, .ref a_ln]))]) := by
  unfold m_X5_feedFour at h
  refine kMet (cc := prog_1_method_3_code) (mL := 3) (ret := none) (own := "LinkText") (by decide) rfl rfl (Nat.le_of_ble_eq_true rfl) ?_
  intro p e s m below meth c A C hnm hE hA hP hD ls hl
  generalize ([.ref a_xx, .int p0] : List Value).toArray = args at C ⊢
  obtain ⟨hx, hb, hr, hml, hown, hts, hlocks⟩ := id C
  have ht : ∀ w ∈ k_tbl, w.before args s = true := fun w h => hts w (List.mem_cons_of_mem _ h)
  have hS : va_S A s.heap s.heap [] := va_S.rf
  have hl : lv_has ls 3 [(0, .ref a_xx), (1, .int p0)] := hl
  refine lv_bipush (v := 24) hx hb dX5_feedFour_0 (by decide) ?_
  refine lv_istore_n (lv' := [(2, .int (24 : Int32)), (0, .ref a_xx), (1, .int p0)]) hx hb dX5_feedFour_2 rfl hl (by decide) rfl (fun ls hl => ?_)
  exact k_X5_feedFour_L3 C hE hA  fu tp_c tp_o tp_b p0 (24 : Int32) _ _ _ hP hD hS (lv_sub hl [1, 2, 0] rfl) h
set_option maxHeartbeats 4000000 in
set_option maxRecDepth 100000 in
theorem c_X5_feed {l : Launch} {D : va_G} {cB cI cL : ClassId} {a_xx a_tp a_tpb a_pp a_ppb a_ln a_lnk a_lnp a_lnf a_lns a_lnn a_rd a_tk a_pr : Nat} {xx_e : Int32} {tp_c : Int32} {tp_o : Int32} {tp_b : Nat → Int32} {pp_c : Int32} {pp_o : Int32} {pp_b : Nat → Int32} {ln_c : Int32} {ln_m : Int32} {ln_k : Nat → Int32} {ln_p : Nat → Int32} {ln_f : Nat → Int32} {ln_s : Nat → Int32} {ln_n : Nat → Int64} {rd_f : Int32} {rd_p : Int32} {tk_e : Int32} {tk_s : Int32} {tk_p : Int32} {tk_h : Int32} {tk_v : Int64} {tk_f : Int32} {p0 : Int32} {p1 : Int32} {p2 : Int32} {p3 : Int32} {p4 : Int32} {res : Int32 × Int32 × Int32 × (Nat → Int32)} (h : m_X5_feed tp_c tp_o tp_b p0 p1 p2 p3 p4 = some res) : KMet l (⟨"LinkText", "feed", "(IIIII)I"⟩ : MethodName) (.code (⟨"LinkText", "feed", "(IIIII)I"⟩ : MethodName) prog_1_method_2_code 6 (some .int) :: k_tbl) ({ frames := 2, cells := 0, slots := 0, locals := 43 } : Room) (ev D cB cI cL) D vwCl [.ref a_xx, .int p0, .int p1, .int p2, .int p3, .int p4] [(a_xx, .inr (5, [.ref a_tp, .ref a_pp, .ref a_ln, .ref a_rd, .ref a_pr, .int xx_e])), (a_tp, .inr (0, [.ref a_tpb, .int tp_c, .int tp_o])), (a_tpb, .inl (cB, 4000, .inl tp_b)), (a_pp, .inr (0, [.ref a_ppb, .int pp_c, .int pp_o])), (a_ppb, .inl (cB, 4000, .inl pp_b)), (a_ln, .inr (1, [.ref a_lnk, .ref a_lnp, .ref a_lnf, .ref a_lns, .ref a_lnn, .int ln_c, .int ln_m])), (a_lnk, .inl (cI, 64, .inl ln_k)), (a_lnp, .inl (cI, 64, .inl ln_p)), (a_lnf, .inl (cI, 64, .inl ln_f)), (a_lns, .inl (cI, 64, .inl ln_s)), (a_lnn, .inl (cL, 4000, .inr (.inl ln_n))), (a_rd, .inr (3, [.ref a_tk, .ref a_ln, .int rd_f, .int rd_p])), (a_tk, .inr (2, [.ref a_tpb, .int tk_e, .int tk_s, .int tk_p, .int tk_h, .long tk_v, .int tk_f])), (a_pr, .inr (4, [.ref a_pp, .ref a_ln]))] (kQi D vwCl [(a_xx, .inr (5, [.ref a_tp, .ref a_pp, .ref a_ln, .ref a_rd, .ref a_pr, .int xx_e])), (a_tp, .inr (0, [.ref a_tpb, .int res.2.1, .int res.2.2.1])), (a_tpb, .inl (cB, 4000, .inl res.2.2.2)), (a_pp, .inr (0, [.ref a_ppb, .int pp_c, .int pp_o])), (a_ppb, .inl (cB, 4000, .inl pp_b)), (a_ln, .inr (1, [.ref a_lnk, .ref a_lnp, .ref a_lnf, .ref a_lns, .ref a_lnn, .int ln_c, .int ln_m])), (a_lnk, .inl (cI, 64, .inl ln_k)), (a_lnp, .inl (cI, 64, .inl ln_p)), (a_lnf, .inl (cI, 64, .inl ln_f)), (a_lns, .inl (cI, 64, .inl ln_s)), (a_lnn, .inl (cL, 4000, .inr (.inl ln_n))), (a_rd, .inr (3, [.ref a_tk, .ref a_ln, .int rd_f, .int rd_p])), (a_tk, .inr (2, [.ref a_tpb, .int tk_e, .int tk_s, .int tk_p, .int tk_h, .long tk_v, .int tk_f])), (a_pr, .inr (4, [.ref a_pp, .ref a_ln]))] res.1) := by
  unfold m_X5_feed at h
  refine kMet (cc := prog_1_method_2_code) (mL := 6) (ret := (some .int)) (own := "LinkText") (by decide) rfl rfl (Nat.le_of_ble_eq_true rfl) ?_
  intro p e s m below meth c A C hnm hE hA hP hD ls hl
  generalize ([.ref a_xx, .int p0, .int p1, .int p2, .int p3, .int p4] : List Value).toArray = args at C ⊢
  obtain ⟨hx, hb, hr, hml, hown, hts, hlocks⟩ := id C
  have ht : ∀ w ∈ k_tbl, w.before args s = true := fun w h => hts w (List.mem_cons_of_mem _ h)
  have hS : va_S A s.heap s.heap [] := va_S.rf
  have hl : lv_has ls 6 [(0, .ref a_xx), (1, .int p0), (2, .int p1), (3, .int p2), (4, .int p3), (5, .int p4)] := hl
  refine lv_aload_n hx hb dX5_feed_0 rfl (lv_at hl 0 rfl) ?_
  refine va_get (D := D) (ci := 5) (v := .ref a_tp) (C := RX5) (T := TX5) (N := 6) hx hb ht inX5 hown hE.1 hP 0 rfl rfl 0 (by decide) (ht _ kw_139) (fun _ h9 => h9) rfl dX5_feed_1 ?_
  refine va_getN (D := D) (ci := 0) (v := .int tp_c) (C := RX0) (T := TX0) (N := 3) (host := "LinkText") hx hb ht inX0 hown hE.1 hP 1 rfl rfl 1 (by decide) (va_Nw.use rfl (hE.2.2 _ kw_31 rfl)) (fun _ h9 => h9) rfl dX5_feed_4 ?_
  refine lv_sipush (v := 3980) hx hb dX5_feed_7 (by decide) ?_
  refine lv_icmp_le (tgt := 15) hx hb dX5_feed_10 (by decide) (fun c_1 => ?_) (fun c_1 => ?_)
  · replace h := o_t c_1 h
    refine lv_aload_n hx hb dX5_feed_15 rfl (lv_at hl 0 rfl) ?_
    refine lv_iload_n hx hb dX5_feed_16 rfl (lv_at hl 1 rfl) ?_
    obtain ⟨r_2, hr_2, h⟩ := o_b_s h
    refine kCv (w' := [(a_xx, .inr (5, [.ref a_tp, .ref a_pp, .ref a_ln, .ref a_rd, .ref a_pr, .int xx_e])), (a_tp, .inr (0, [.ref a_tpb, .int r_2.1, .int r_2.2.1])), (a_tpb, .inl (cB, 4000, .inl r_2.2.2)), (a_pp, .inr (0, [.ref a_ppb, .int pp_c, .int pp_o])), (a_ppb, .inl (cB, 4000, .inl pp_b)), (a_ln, .inr (1, [.ref a_lnk, .ref a_lnp, .ref a_lnf, .ref a_lns, .ref a_lnn, .int ln_c, .int ln_m])), (a_lnk, .inl (cI, 64, .inl ln_k)), (a_lnp, .inl (cI, 64, .inl ln_p)), (a_lnf, .inl (cI, 64, .inl ln_f)), (a_lns, .inl (cI, 64, .inl ln_s)), (a_lnn, .inl (cL, 4000, .inr (.inl ln_n))), (a_rd, .inr (3, [.ref a_tk, .ref a_ln, .int rd_f, .int rd_p])), (a_tk, .inr (2, [.ref a_tpb, .int tk_e, .int tk_s, .int tk_p, .int tk_h, .long tk_v, .int tk_f])), (a_pr, .inr (4, [.ref a_pp, .ref a_ln]))]) hP hD hS hA [0, 1, 2, 3, 4, 5, 6, 7, 8, 9, 10, 11, 12, 13] [] [0, 1, 2, 3, 4, 5, 6, 7, 8, 9, 10, 11, 12, 13] (kRunV (rest := []) C ev_ok hE hA hP hD hS [0, 1, 2, 3, 4, 5, 6, 7, 8, 9, 10, 11, 12, 13] rfl rfl rfl (c_X5_feedFour hr_2) hE.1 0 5 rfl rfl (cwV 1 ht (gV kw_162 kw_164 kp_0 kw_1 kw_165) rfl rfl rfl (by decide +kernel) ⟨Nat.le_of_ble_eq_true rfl, Nat.le_of_ble_eq_true rfl⟩) rfl hl.1 rfl (Nat.le_of_ble_eq_true rfl) dX5_feed_17 ⟨Nat.le_of_ble_eq_true rfl, Nat.le_of_ble_eq_true rfl⟩) rfl rfl rfl (by decide) rfl rfl rfl (fun H locs hP hD hS => ?_)
    refine lv_aload_n hx hb dX5_feed_20 rfl (lv_at hl 0 rfl) ?_
    refine lv_iload_n hx hb dX5_feed_21 rfl (lv_at hl 2 rfl) ?_
    obtain ⟨r_3, hr_3, h⟩ := o_b_s h
    refine kCv (w' := [(a_xx, .inr (5, [.ref a_tp, .ref a_pp, .ref a_ln, .ref a_rd, .ref a_pr, .int xx_e])), (a_tp, .inr (0, [.ref a_tpb, .int r_3.1, .int r_3.2.1])), (a_tpb, .inl (cB, 4000, .inl r_3.2.2)), (a_pp, .inr (0, [.ref a_ppb, .int pp_c, .int pp_o])), (a_ppb, .inl (cB, 4000, .inl pp_b)), (a_ln, .inr (1, [.ref a_lnk, .ref a_lnp, .ref a_lnf, .ref a_lns, .ref a_lnn, .int ln_c, .int ln_m])), (a_lnk, .inl (cI, 64, .inl ln_k)), (a_lnp, .inl (cI, 64, .inl ln_p)), (a_lnf, .inl (cI, 64, .inl ln_f)), (a_lns, .inl (cI, 64, .inl ln_s)), (a_lnn, .inl (cL, 4000, .inr (.inl ln_n))), (a_rd, .inr (3, [.ref a_tk, .ref a_ln, .int rd_f, .int rd_p])), (a_tk, .inr (2, [.ref a_tpb, .int tk_e, .int tk_s, .int tk_p, .int tk_h, .long tk_v, .int tk_f])), (a_pr, .inr (4, [.ref a_pp, .ref a_ln]))]) hP hD hS hA [0, 1, 2, 3, 4, 5, 6, 7, 8, 9, 10, 11, 12, 13] [] [0, 1, 2, 3, 4, 5, 6, 7, 8, 9, 10, 11, 12, 13] (kRunV (rest := []) C ev_ok hE hA hP hD hS [0, 1, 2, 3, 4, 5, 6, 7, 8, 9, 10, 11, 12, 13] rfl rfl rfl (c_X5_feedFour hr_3) hE.1 0 5 rfl rfl (cwV 1 ht (gV kw_162 kw_164 kp_0 kw_1 kw_165) rfl rfl rfl (by decide +kernel) ⟨Nat.le_of_ble_eq_true rfl, Nat.le_of_ble_eq_true rfl⟩) rfl hl.1 rfl (Nat.le_of_ble_eq_true rfl) dX5_feed_22 ⟨Nat.le_of_ble_eq_true rfl, Nat.le_of_ble_eq_true rfl⟩) rfl rfl rfl (by decide) rfl rfl rfl (fun H locs hP hD hS => ?_)
    refine lv_aload_n hx hb dX5_feed_25 rfl (lv_at hl 0 rfl) ?_
    refine lv_iload_n hx hb dX5_feed_26 rfl (lv_at hl 3 rfl) ?_
    obtain ⟨r_4, hr_4, h⟩ := o_b_s h
    refine kCv (w' := [(a_xx, .inr (5, [.ref a_tp, .ref a_pp, .ref a_ln, .ref a_rd, .ref a_pr, .int xx_e])), (a_tp, .inr (0, [.ref a_tpb, .int r_4.1, .int r_4.2.1])), (a_tpb, .inl (cB, 4000, .inl r_4.2.2)), (a_pp, .inr (0, [.ref a_ppb, .int pp_c, .int pp_o])), (a_ppb, .inl (cB, 4000, .inl pp_b)), (a_ln, .inr (1, [.ref a_lnk, .ref a_lnp, .ref a_lnf, .ref a_lns, .ref a_lnn, .int ln_c, .int ln_m])), (a_lnk, .inl (cI, 64, .inl ln_k)), (a_lnp, .inl (cI, 64, .inl ln_p)), (a_lnf, .inl (cI, 64, .inl ln_f)), (a_lns, .inl (cI, 64, .inl ln_s)), (a_lnn, .inl (cL, 4000, .inr (.inl ln_n))), (a_rd, .inr (3, [.ref a_tk, .ref a_ln, .int rd_f, .int rd_p])), (a_tk, .inr (2, [.ref a_tpb, .int tk_e, .int tk_s, .int tk_p, .int tk_h, .long tk_v, .int tk_f])), (a_pr, .inr (4, [.ref a_pp, .ref a_ln]))]) hP hD hS hA [0, 1, 2, 3, 4, 5, 6, 7, 8, 9, 10, 11, 12, 13] [] [0, 1, 2, 3, 4, 5, 6, 7, 8, 9, 10, 11, 12, 13] (kRunV (rest := []) C ev_ok hE hA hP hD hS [0, 1, 2, 3, 4, 5, 6, 7, 8, 9, 10, 11, 12, 13] rfl rfl rfl (c_X5_feedFour hr_4) hE.1 0 5 rfl rfl (cwV 1 ht (gV kw_162 kw_164 kp_0 kw_1 kw_165) rfl rfl rfl (by decide +kernel) ⟨Nat.le_of_ble_eq_true rfl, Nat.le_of_ble_eq_true rfl⟩) rfl hl.1 rfl (Nat.le_of_ble_eq_true rfl) dX5_feed_27 ⟨Nat.le_of_ble_eq_true rfl, Nat.le_of_ble_eq_true rfl⟩) rfl rfl rfl (by decide) rfl rfl rfl (fun H locs hP hD hS => ?_)
    refine lv_aload_n hx hb dX5_feed_30 rfl (lv_at hl 0 rfl) ?_
    refine lv_iload hx hb dX5_feed_31 (lv_at hl 4 rfl) ?_
    obtain ⟨r_5, hr_5, h⟩ := o_b_s h
    refine kCv (w' := [(a_xx, .inr (5, [.ref a_tp, .ref a_pp, .ref a_ln, .ref a_rd, .ref a_pr, .int xx_e])), (a_tp, .inr (0, [.ref a_tpb, .int r_5.1, .int r_5.2.1])), (a_tpb, .inl (cB, 4000, .inl r_5.2.2)), (a_pp, .inr (0, [.ref a_ppb, .int pp_c, .int pp_o])), (a_ppb, .inl (cB, 4000, .inl pp_b)), (a_ln, .inr (1, [.ref a_lnk, .ref a_lnp, .ref a_lnf, .ref a_lns, .ref a_lnn, .int ln_c, .int ln_m])), (a_lnk, .inl (cI, 64, .inl ln_k)), (a_lnp, .inl (cI, 64, .inl ln_p)), (a_lnf, .inl (cI, 64, .inl ln_f)), (a_lns, .inl (cI, 64, .inl ln_s)), (a_lnn, .inl (cL, 4000, .inr (.inl ln_n))), (a_rd, .inr (3, [.ref a_tk, .ref a_ln, .int rd_f, .int rd_p])), (a_tk, .inr (2, [.ref a_tpb, .int tk_e, .int tk_s, .int tk_p, .int tk_h, .long tk_v, .int tk_f])), (a_pr, .inr (4, [.ref a_pp, .ref a_ln]))]) hP hD hS hA [0, 1, 2, 3, 4, 5, 6, 7, 8, 9, 10, 11, 12, 13] [] [0, 1, 2, 3, 4, 5, 6, 7, 8, 9, 10, 11, 12, 13] (kRunV (rest := []) C ev_ok hE hA hP hD hS [0, 1, 2, 3, 4, 5, 6, 7, 8, 9, 10, 11, 12, 13] rfl rfl rfl (c_X5_feedFour hr_5) hE.1 0 5 rfl rfl (cwV 1 ht (gV kw_162 kw_164 kp_0 kw_1 kw_165) rfl rfl rfl (by decide +kernel) ⟨Nat.le_of_ble_eq_true rfl, Nat.le_of_ble_eq_true rfl⟩) rfl hl.1 rfl (Nat.le_of_ble_eq_true rfl) dX5_feed_33 ⟨Nat.le_of_ble_eq_true rfl, Nat.le_of_ble_eq_true rfl⟩) rfl rfl rfl (by decide) rfl rfl rfl (fun H locs hP hD hS => ?_)
    refine lv_aload_n hx hb dX5_feed_36 rfl (lv_at hl 0 rfl) ?_
    refine lv_iload hx hb dX5_feed_37 (lv_at hl 5 rfl) ?_
    obtain ⟨r_6, hr_6, h⟩ := o_b_s h
    refine kCv (w' := [(a_xx, .inr (5, [.ref a_tp, .ref a_pp, .ref a_ln, .ref a_rd, .ref a_pr, .int xx_e])), (a_tp, .inr (0, [.ref a_tpb, .int r_6.1, .int r_6.2.1])), (a_tpb, .inl (cB, 4000, .inl r_6.2.2)), (a_pp, .inr (0, [.ref a_ppb, .int pp_c, .int pp_o])), (a_ppb, .inl (cB, 4000, .inl pp_b)), (a_ln, .inr (1, [.ref a_lnk, .ref a_lnp, .ref a_lnf, .ref a_lns, .ref a_lnn, .int ln_c, .int ln_m])), (a_lnk, .inl (cI, 64, .inl ln_k)), (a_lnp, .inl (cI, 64, .inl ln_p)), (a_lnf, .inl (cI, 64, .inl ln_f)), (a_lns, .inl (cI, 64, .inl ln_s)), (a_lnn, .inl (cL, 4000, .inr (.inl ln_n))), (a_rd, .inr (3, [.ref a_tk, .ref a_ln, .int rd_f, .int rd_p])), (a_tk, .inr (2, [.ref a_tpb, .int tk_e, .int tk_s, .int tk_p, .int tk_h, .long tk_v, .int tk_f])), (a_pr, .inr (4, [.ref a_pp, .ref a_ln]))]) hP hD hS hA [0, 1, 2, 3, 4, 5, 6, 7, 8, 9, 10, 11, 12, 13] [] [0, 1, 2, 3, 4, 5, 6, 7, 8, 9, 10, 11, 12, 13] (kRunV (rest := []) C ev_ok hE hA hP hD hS [0, 1, 2, 3, 4, 5, 6, 7, 8, 9, 10, 11, 12, 13] rfl rfl rfl (c_X5_feedFour hr_6) hE.1 0 5 rfl rfl (cwV 1 ht (gV kw_162 kw_164 kp_0 kw_1 kw_165) rfl rfl rfl (by decide +kernel) ⟨Nat.le_of_ble_eq_true rfl, Nat.le_of_ble_eq_true rfl⟩) rfl hl.1 rfl (Nat.le_of_ble_eq_true rfl) dX5_feed_39 ⟨Nat.le_of_ble_eq_true rfl, Nat.le_of_ble_eq_true rfl⟩) rfl rfl rfl (by decide) rfl rfl rfl (fun H locs hP hD hS => ?_)
    refine lv_aload_n hx hb dX5_feed_42 rfl (lv_at hl 0 rfl) ?_
    refine va_get (D := D) (ci := 5) (v := .ref a_tp) (C := RX5) (T := TX5) (N := 6) hx hb ht inX5 hown hE.1 hP 0 rfl rfl 0 (by decide) (ht _ kw_139) (fun _ h9 => h9) rfl dX5_feed_43 ?_
    refine va_getN (D := D) (ci := 0) (v := .int r_6.1) (C := RX0) (T := TX0) (N := 3) (host := "LinkText") hx hb ht inX0 hown hE.1 hP 1 rfl rfl 1 (by decide) (va_Nw.use rfl (hE.2.2 _ kw_31 rfl)) (fun _ h9 => h9) rfl dX5_feed_46 ?_
    obtain rfl := Option.some.inj h
    exact kRet_i C hP hD hS dX5_feed_49
  · replace h := o_f c_1 h
    refine lv_iconst (v := -1) hx hb dX5_feed_13 (by decide) ?_
    obtain rfl := Option.some.inj h
    exact kRet_i C hP hD hS dX5_feed_14
set_option maxHeartbeats 4000000 in
set_option maxRecDepth 100000 in
theorem k_X5_read_J62 {l : Launch} {p : Program} {e : Env} {s : State} {m : MethodId} {args : Array Value} {below : List Frame} {meth : Method} {c : Code} {A : Nat → Prop} {D : va_G} {cB cI cL : ClassId} {a_xx a_tp a_tpb a_pp a_ppb a_ln a_lnk a_lnp a_lnf a_lns a_lnn a_rd a_tk a_pr : Nat} {tp_b : Nat → Int32} {pp_c : Int32} {pp_o : Int32} {pp_b : Nat → Int32} {ln_k : Nat → Int32} {ln_p : Nat → Int32} {ln_f : Nat → Int32} {ln_s : Nat → Int32} {ln_n : Nat → Int64} {res : Int32 × Int32 × Int32 × Int32 × Int32 × Int32 × Int32 × Int32 × Int32 × Int32 × Int32 × Int32 × Int64 × Int32} (C : kx p s m args meth c prog_1_method_4_code 3 (some .int) "LinkText" (.code (⟨"LinkText", "read", "(I)I"⟩ : MethodName) prog_1_method_4_code 3 (some .int) :: k_tbl)) (hE : ev D cB cI cL A s) (hA : ∀ q : Nat, s.heap.size ≤ q → A q) :
    ∀ (xx_e : Int32) (tp_c : Int32) (tp_o : Int32) (ln_c : Int32) (ln_m : Int32) (rd_f : Int32) (rd_p : Int32) (tk_e : Int32) (tk_s : Int32) (tk_p : Int32) (tk_h : Int32) (tk_v : Int64) (tk_f : Int32) (H : Heap) (locs : List Loc) (ls : Array Slot), va_P D vwCl [(a_xx, .inr (5, [.ref a_tp, .ref a_pp, .ref a_ln, .ref a_rd, .ref a_pr, .int xx_e])), (a_tp, .inr (0, [.ref a_tpb, .int tp_c, .int tp_o])), (a_tpb, .inl (cB, 4000, .inl tp_b)), (a_pp, .inr (0, [.ref a_ppb, .int pp_c, .int pp_o])), (a_ppb, .inl (cB, 4000, .inl pp_b)), (a_ln, .inr (1, [.ref a_lnk, .ref a_lnp, .ref a_lnf, .ref a_lns, .ref a_lnn, .int ln_c, .int ln_m])), (a_lnk, .inl (cI, 64, .inl ln_k)), (a_lnp, .inl (cI, 64, .inl ln_p)), (a_lnf, .inl (cI, 64, .inl ln_f)), (a_lns, .inl (cI, 64, .inl ln_s)), (a_lnn, .inl (cL, 4000, .inr (.inl ln_n))), (a_rd, .inr (3, [.ref a_tk, .ref a_ln, .int rd_f, .int rd_p])), (a_tk, .inr (2, [.ref a_tpb, .int tk_e, .int tk_s, .int tk_p, .int tk_h, .long tk_v, .int tk_f])), (a_pr, .inr (4, [.ref a_pp, .ref a_ln]))] H → va_D A [(a_xx, .inr (5, [.ref a_tp, .ref a_pp, .ref a_ln, .ref a_rd, .ref a_pr, .int xx_e])), (a_tp, .inr (0, [.ref a_tpb, .int tp_c, .int tp_o])), (a_tpb, .inl (cB, 4000, .inl tp_b)), (a_pp, .inr (0, [.ref a_ppb, .int pp_c, .int pp_o])), (a_ppb, .inl (cB, 4000, .inl pp_b)), (a_ln, .inr (1, [.ref a_lnk, .ref a_lnp, .ref a_lnf, .ref a_lns, .ref a_lnn, .int ln_c, .int ln_m])), (a_lnk, .inl (cI, 64, .inl ln_k)), (a_lnp, .inl (cI, 64, .inl ln_p)), (a_lnf, .inl (cI, 64, .inl ln_f)), (a_lns, .inl (cI, 64, .inl ln_s)), (a_lnn, .inl (cL, 4000, .inr (.inl ln_n))), (a_rd, .inr (3, [.ref a_tk, .ref a_ln, .int rd_f, .int rd_p])), (a_tk, .inr (2, [.ref a_tpb, .int tk_e, .int tk_s, .int tk_p, .int tk_h, .long tk_v, .int tk_f])), (a_pr, .inr (4, [.ref a_pp, .ref a_ln]))] → va_S A s.heap H locs → lv_has ls 3 [(0, .ref a_xx)] → m_X5_read_J62  xx_e tp_c tp_o ln_c ln_m rd_f rd_p tk_e tk_s tk_p tk_h tk_v tk_f = some res → W p l e ({ frames := 2, cells := 0, slots := 0, locals := 42 } : Room) s m args below meth c H locs 0 0 (MQ below (kQi D vwCl [(a_xx, .inr (5, [.ref a_tp, .ref a_pp, .ref a_ln, .ref a_rd, .ref a_pr, .int res.2.1])), (a_tp, .inr (0, [.ref a_tpb, .int res.2.2.1, .int res.2.2.2.1])), (a_tpb, .inl (cB, 4000, .inl tp_b)), (a_pp, .inr (0, [.ref a_ppb, .int pp_c, .int pp_o])), (a_ppb, .inl (cB, 4000, .inl pp_b)), (a_ln, .inr (1, [.ref a_lnk, .ref a_lnp, .ref a_lnf, .ref a_lns, .ref a_lnn, .int res.2.2.2.2.1, .int res.2.2.2.2.2.1])), (a_lnk, .inl (cI, 64, .inl ln_k)), (a_lnp, .inl (cI, 64, .inl ln_p)), (a_lnf, .inl (cI, 64, .inl ln_f)), (a_lns, .inl (cI, 64, .inl ln_s)), (a_lnn, .inl (cL, 4000, .inr (.inl ln_n))), (a_rd, .inr (3, [.ref a_tk, .ref a_ln, .int res.2.2.2.2.2.2.1, .int res.2.2.2.2.2.2.2.1])), (a_tk, .inr (2, [.ref a_tpb, .int res.2.2.2.2.2.2.2.2.1, .int res.2.2.2.2.2.2.2.2.2.1, .int res.2.2.2.2.2.2.2.2.2.2.1, .int res.2.2.2.2.2.2.2.2.2.2.2.1, .long res.2.2.2.2.2.2.2.2.2.2.2.2.1, .int res.2.2.2.2.2.2.2.2.2.2.2.2.2])), (a_pr, .inr (4, [.ref a_pp, .ref a_ln]))] res.1 A) args s 0 0 A) (F0 m 62 ls []) := by
  obtain ⟨hx, hb, hr, hml, hown, hts, hlocks⟩ := id C
  have ht : ∀ w ∈ k_tbl, w.before args s = true := fun w h => hts w (List.mem_cons_of_mem _ h)
  intro xx_e tp_c tp_o ln_c ln_m rd_f rd_p tk_e tk_s tk_p tk_h tk_v tk_f H locs ls hP hD hS hl h
  unfold m_X5_read_J62 at h
  refine lv_aload_n hx hb dX5_read_62 rfl (lv_at hl 0 rfl) ?_
  refine va_get (D := D) (ci := 5) (v := .ref a_tp) (C := RX5) (T := TX5) (N := 6) hx hb ht inX5 hown hE.1 hP 0 rfl rfl 0 (by decide) (ht _ kw_139) (fun _ h9 => h9) rfl dX5_read_63 ?_
  refine lv_iconst (v := 0) hx hb dX5_read_66 (by decide) ?_
  obtain ⟨r_1, hr_1, h⟩ := o_b_s h
  refine kCv (w' := [(a_xx, .inr (5, [.ref a_tp, .ref a_pp, .ref a_ln, .ref a_rd, .ref a_pr, .int xx_e])), (a_tp, .inr (0, [.ref a_tpb, .int r_1.1, .int r_1.2])), (a_tpb, .inl (cB, 4000, .inl tp_b)), (a_pp, .inr (0, [.ref a_ppb, .int pp_c, .int pp_o])), (a_ppb, .inl (cB, 4000, .inl pp_b)), (a_ln, .inr (1, [.ref a_lnk, .ref a_lnp, .ref a_lnf, .ref a_lns, .ref a_lnn, .int ln_c, .int ln_m])), (a_lnk, .inl (cI, 64, .inl ln_k)), (a_lnp, .inl (cI, 64, .inl ln_p)), (a_lnf, .inl (cI, 64, .inl ln_f)), (a_lns, .inl (cI, 64, .inl ln_s)), (a_lnn, .inl (cL, 4000, .inr (.inl ln_n))), (a_rd, .inr (3, [.ref a_tk, .ref a_ln, .int rd_f, .int rd_p])), (a_tk, .inr (2, [.ref a_tpb, .int tk_e, .int tk_s, .int tk_p, .int tk_h, .long tk_v, .int tk_f])), (a_pr, .inr (4, [.ref a_pp, .ref a_ln]))]) hP hD hS hA [1, 2] [0, 3, 4, 5, 6, 7, 8, 9, 10, 11, 12, 13] [0, 12, 13, 1, 2, 3, 4, 5, 6, 7, 8, 9, 10, 11] (kRunV (rest := []) C ev_ok hE hA hP hD hS [1, 2] rfl rfl rfl (c_X0_cutTo hr_1) hE.1 0 0 rfl rfl (cwV 1 ht (gV kw_376 kw_377 kw_378 kw_2 kw_379) rfl rfl rfl (by decide +kernel) ⟨Nat.le_of_ble_eq_true rfl, Nat.le_of_ble_eq_true rfl⟩) rfl hl.1 rfl (Nat.le_of_ble_eq_true rfl) dX5_read_67 ⟨Nat.le_of_ble_eq_true rfl, Nat.le_of_ble_eq_true rfl⟩) rfl rfl rfl (by decide) rfl rfl rfl (fun H locs hP hD hS => ?_)
  refine lv_aload_n hx hb dX5_read_70 rfl (lv_at hl 0 rfl) ?_
  refine va_get (D := D) (ci := 5) (v := .ref a_rd) (C := RX5) (T := TX5) (N := 6) hx hb ht inX5 hown hE.1 hP 0 rfl rfl 3 (by decide) (ht _ kw_142) (fun _ h9 => h9) rfl dX5_read_71 ?_
  refine va_getN (D := D) (ci := 3) (v := .int rd_f) (C := RX3) (T := TX3) (N := 4) (host := "LinkText") hx hb ht inX3 hown hE.1 hP 11 rfl rfl 2 (by decide) (va_Nw.use rfl (hE.2.2 _ kw_114 rfl)) (fun _ h9 => h9) rfl dX5_read_74 ?_
  refine lv_if_eq (tgt := 89) hx hb dX5_read_77 (by decide) (fun c_2 => ?_) (fun c_2 => ?_)
  · replace h := o_t c_2 h
    refine lv_aload_n hx hb dX5_read_89 rfl (lv_at hl 0 rfl) ?_
    refine va_get (D := D) (ci := 5) (v := .ref a_ln) (C := RX5) (T := TX5) (N := 6) hx hb ht inX5 hown hE.1 hP 0 rfl rfl 2 (by decide) (ht _ kw_141) (fun _ h9 => h9) rfl dX5_read_90 ?_
    refine va_getN (D := D) (ci := 1) (v := .int ln_c) (C := RX1) (T := TX1) (N := 7) (host := "LinkText") hx hb ht inX1 hown hE.1 hP 5 rfl rfl 5 (by decide) (va_Nw.use rfl (hE.2.2 _ kw_54 rfl)) (fun _ h9 => h9) rfl dX5_read_93 ?_
    obtain rfl := Option.some.inj h
    exact kRet_i C hP hD hS dX5_read_96
  · replace h := o_f c_2 h
    refine lv_aload_n hx hb dX5_read_80 rfl (lv_at hl 0 rfl) ?_
    refine va_get (D := D) (ci := 5) (v := .ref a_ln) (C := RX5) (T := TX5) (N := 6) hx hb ht inX5 hown hE.1 hP 0 rfl rfl 2 (by decide) (ht _ kw_141) (fun _ h9 => h9) rfl dX5_read_81 ?_
    obtain ⟨r_3, hr_3, h⟩ := o_b_s h
    refine kCv (w' := [(a_xx, .inr (5, [.ref a_tp, .ref a_pp, .ref a_ln, .ref a_rd, .ref a_pr, .int xx_e])), (a_tp, .inr (0, [.ref a_tpb, .int r_1.1, .int r_1.2])), (a_tpb, .inl (cB, 4000, .inl tp_b)), (a_pp, .inr (0, [.ref a_ppb, .int pp_c, .int pp_o])), (a_ppb, .inl (cB, 4000, .inl pp_b)), (a_ln, .inr (1, [.ref a_lnk, .ref a_lnp, .ref a_lnf, .ref a_lns, .ref a_lnn, .int r_3.1, .int r_3.2])), (a_lnk, .inl (cI, 64, .inl ln_k)), (a_lnp, .inl (cI, 64, .inl ln_p)), (a_lnf, .inl (cI, 64, .inl ln_f)), (a_lns, .inl (cI, 64, .inl ln_s)), (a_lnn, .inl (cL, 4000, .inr (.inl ln_n))), (a_rd, .inr (3, [.ref a_tk, .ref a_ln, .int rd_f, .int rd_p])), (a_tk, .inr (2, [.ref a_tpb, .int tk_e, .int tk_s, .int tk_p, .int tk_h, .long tk_v, .int tk_f])), (a_pr, .inr (4, [.ref a_pp, .ref a_ln]))]) hP hD hS hA [5, 6, 7, 8, 9, 10] [0, 1, 2, 3, 4, 11, 12, 13] [0, 1, 2, 3, 4, 8, 9, 10, 11, 12, 13, 5, 6, 7] (kRunV (rest := []) C ev_ok hE hA hP hD hS [5, 6, 7, 8, 9, 10] rfl rfl rfl (c_X1_clear hr_3) hE.1 0 1 rfl rfl (cwV 0 ht (gV kw_380 kw_183 kw_184 kw_3 kw_185) rfl rfl rfl (by decide +kernel) ⟨Nat.le_of_ble_eq_true rfl, Nat.le_of_ble_eq_true rfl⟩) rfl hl.1 rfl (Nat.le_of_ble_eq_true rfl) dX5_read_84 ⟨Nat.le_of_ble_eq_true rfl, Nat.le_of_ble_eq_true rfl⟩) rfl rfl rfl (by decide) rfl rfl rfl (fun H locs hP hD hS => ?_)
    refine lv_iconst (v := -1) hx hb dX5_read_87 (by decide) ?_
    obtain rfl := Option.some.inj h
    exact kRet_i C hP hD hS dX5_read_88
set_option maxHeartbeats 4000000 in
set_option maxRecDepth 100000 in
theorem k_X5_read_L33 {l : Launch} {p : Program} {e : Env} {s : State} {m : MethodId} {args : Array Value} {below : List Frame} {meth : Method} {c : Code} {A : Nat → Prop} {D : va_G} {cB cI cL : ClassId} {a_xx a_tp a_tpb a_pp a_ppb a_ln a_lnk a_lnp a_lnf a_lns a_lnn a_rd a_tk a_pr : Nat} {tp_b : Nat → Int32} {pp_c : Int32} {pp_o : Int32} {pp_b : Nat → Int32} {ln_k : Nat → Int32} {ln_p : Nat → Int32} {ln_f : Nat → Int32} {ln_s : Nat → Int32} {ln_n : Nat → Int64} {res : Int32 × Int32 × Int32 × Int32 × Int32 × Int32 × Int32 × Int32 × Int32 × Int32 × Int32 × Int32 × Int64 × Int32} (C : kx p s m args meth c prog_1_method_4_code 3 (some .int) "LinkText" (.code (⟨"LinkText", "read", "(I)I"⟩ : MethodName) prog_1_method_4_code 3 (some .int) :: k_tbl)) (hE : ev D cB cI cL A s) (hA : ∀ q : Nat, s.heap.size ≤ q → A q) :
    ∀ (n : Nat) (xx_e : Int32) (tp_c : Int32) (tp_o : Int32) (ln_c : Int32) (ln_m : Int32) (rd_f : Int32) (rd_p : Int32) (tk_e : Int32) (tk_s : Int32) (tk_p : Int32) (tk_h : Int32) (tk_v : Int64) (tk_f : Int32) (x2 : Int32) (H : Heap) (locs : List Loc) (ls : Array Slot), va_P D vwCl [(a_xx, .inr (5, [.ref a_tp, .ref a_pp, .ref a_ln, .ref a_rd, .ref a_pr, .int xx_e])), (a_tp, .inr (0, [.ref a_tpb, .int tp_c, .int tp_o])), (a_tpb, .inl (cB, 4000, .inl tp_b)), (a_pp, .inr (0, [.ref a_ppb, .int pp_c, .int pp_o])), (a_ppb, .inl (cB, 4000, .inl pp_b)), (a_ln, .inr (1, [.ref a_lnk, .ref a_lnp, .ref a_lnf, .ref a_lns, .ref a_lnn, .int ln_c, .int ln_m])), (a_lnk, .inl (cI, 64, .inl ln_k)), (a_lnp, .inl (cI, 64, .inl ln_p)), (a_lnf, .inl (cI, 64, .inl ln_f)), (a_lns, .inl (cI, 64, .inl ln_s)), (a_lnn, .inl (cL, 4000, .inr (.inl ln_n))), (a_rd, .inr (3, [.ref a_tk, .ref a_ln, .int rd_f, .int rd_p])), (a_tk, .inr (2, [.ref a_tpb, .int tk_e, .int tk_s, .int tk_p, .int tk_h, .long tk_v, .int tk_f])), (a_pr, .inr (4, [.ref a_pp, .ref a_ln]))] H → va_D A [(a_xx, .inr (5, [.ref a_tp, .ref a_pp, .ref a_ln, .ref a_rd, .ref a_pr, .int xx_e])), (a_tp, .inr (0, [.ref a_tpb, .int tp_c, .int tp_o])), (a_tpb, .inl (cB, 4000, .inl tp_b)), (a_pp, .inr (0, [.ref a_ppb, .int pp_c, .int pp_o])), (a_ppb, .inl (cB, 4000, .inl pp_b)), (a_ln, .inr (1, [.ref a_lnk, .ref a_lnp, .ref a_lnf, .ref a_lns, .ref a_lnn, .int ln_c, .int ln_m])), (a_lnk, .inl (cI, 64, .inl ln_k)), (a_lnp, .inl (cI, 64, .inl ln_p)), (a_lnf, .inl (cI, 64, .inl ln_f)), (a_lns, .inl (cI, 64, .inl ln_s)), (a_lnn, .inl (cL, 4000, .inr (.inl ln_n))), (a_rd, .inr (3, [.ref a_tk, .ref a_ln, .int rd_f, .int rd_p])), (a_tk, .inr (2, [.ref a_tpb, .int tk_e, .int tk_s, .int tk_p, .int tk_h, .long tk_v, .int tk_f])), (a_pr, .inr (4, [.ref a_pp, .ref a_ln]))] → va_S A s.heap H locs → lv_has ls 3 [(0, .ref a_xx), (2, .int x2)] → m_X5_read_L33  n xx_e tp_c tp_o ln_c ln_m rd_f rd_p tk_e tk_s tk_p tk_h tk_v tk_f x2 = some res → W p l e ({ frames := 2, cells := 0, slots := 0, locals := 42 } : Room) s m args below meth c H locs 0 0 (MQ below (kQi D vwCl [(a_xx, .inr (5, [.ref a_tp, .ref a_pp, .ref a_ln, .ref a_rd, .ref a_pr, .int res.2.1])), (a_tp, .inr (0, [.ref a_tpb, .int res.2.2.1, .int res.2.2.2.1])), (a_tpb, .inl (cB, 4000, .inl tp_b)), (a_pp, .inr (0, [.ref a_ppb, .int pp_c, .int pp_o])), (a_ppb, .inl (cB, 4000, .inl pp_b)), (a_ln, .inr (1, [.ref a_lnk, .ref a_lnp, .ref a_lnf, .ref a_lns, .ref a_lnn, .int res.2.2.2.2.1, .int res.2.2.2.2.2.1])), (a_lnk, .inl (cI, 64, .inl ln_k)), (a_lnp, .inl (cI, 64, .inl ln_p)), (a_lnf, .inl (cI, 64, .inl ln_f)), (a_lns, .inl (cI, 64, .inl ln_s)), (a_lnn, .inl (cL, 4000, .inr (.inl ln_n))), (a_rd, .inr (3, [.ref a_tk, .ref a_ln, .int res.2.2.2.2.2.2.1, .int res.2.2.2.2.2.2.2.1])), (a_tk, .inr (2, [.ref a_tpb, .int res.2.2.2.2.2.2.2.2.1, .int res.2.2.2.2.2.2.2.2.2.1, .int res.2.2.2.2.2.2.2.2.2.2.1, .int res.2.2.2.2.2.2.2.2.2.2.2.1, .long res.2.2.2.2.2.2.2.2.2.2.2.2.1, .int res.2.2.2.2.2.2.2.2.2.2.2.2.2])), (a_pr, .inr (4, [.ref a_pp, .ref a_ln]))] res.1 A) args s 0 0 A) (F0 m 33 ls []) := by
  obtain ⟨hx, hb, hr, hml, hown, hts, hlocks⟩ := id C
  have ht : ∀ w ∈ k_tbl, w.before args s = true := fun w h => hts w (List.mem_cons_of_mem _ h)
  intro n
  induction n with
  | zero =>
    intro _ _ _ _ _ _ _ _ _ _ _ _ _ _ _ _ _ _ _ _ _ h
    cases h
  | succ n ih =>
    intro xx_e tp_c tp_o ln_c ln_m rd_f rd_p tk_e tk_s tk_p tk_h tk_v tk_f x2 H locs ls hP hD hS hl h
    rw [m_X5_read_L33] at h
    refine lv_iload_n hx hb dX5_read_33 rfl (lv_at hl 1 rfl) ?_
    refine lv_bipush (v := 64) hx hb dX5_read_34 (by decide) ?_
    refine lv_icmp_gt (tgt := 62) hx hb dX5_read_36 (by decide) (fun c_4 => ?_) (fun c_4 => ?_)
    · replace h := o_t c_4 h
      exact k_X5_read_J62 C hE hA  xx_e tp_c tp_o ln_c ln_m rd_f rd_p tk_e tk_s tk_p tk_h tk_v tk_f _ _ _ hP hD hS (lv_sub hl [0] rfl) h
    · replace h := o_f c_4 h
      refine lv_aload_n hx hb dX5_read_39 rfl (lv_at hl 0 rfl) ?_
      refine va_get (D := D) (ci := 5) (v := .ref a_rd) (C := RX5) (T := TX5) (N := 6) hx hb ht inX5 hown hE.1 hP 0 rfl rfl 3 (by decide) (ht _ kw_142) (fun _ h9 => h9) rfl dX5_read_40 ?_
      obtain ⟨r_5, hr_5, h⟩ := o_b_s h
      refine kCi (w' := [(a_xx, .inr (5, [.ref a_tp, .ref a_pp, .ref a_ln, .ref a_rd, .ref a_pr, .int xx_e])), (a_tp, .inr (0, [.ref a_tpb, .int tp_c, .int tp_o])), (a_tpb, .inl (cB, 4000, .inl tp_b)), (a_pp, .inr (0, [.ref a_ppb, .int pp_c, .int pp_o])), (a_ppb, .inl (cB, 4000, .inl pp_b)), (a_ln, .inr (1, [.ref a_lnk, .ref a_lnp, .ref a_lnf, .ref a_lns, .ref a_lnn, .int ln_c, .int ln_m])), (a_lnk, .inl (cI, 64, .inl ln_k)), (a_lnp, .inl (cI, 64, .inl ln_p)), (a_lnf, .inl (cI, 64, .inl ln_f)), (a_lns, .inl (cI, 64, .inl ln_s)), (a_lnn, .inl (cL, 4000, .inr (.inl ln_n))), (a_rd, .inr (3, [.ref a_tk, .ref a_ln, .int rd_f, .int rd_p])), (a_tk, .inr (2, [.ref a_tpb, .int tk_e, .int tk_s, .int tk_p, .int tk_h, .long tk_v, .int tk_f])), (a_pr, .inr (4, [.ref a_pp, .ref a_ln]))]) hP hD hS hA [11, 12, 2, 5, 6, 7, 8, 9, 10] [0, 1, 3, 4, 13] [0, 1, 7, 2, 3, 8, 9, 10, 11, 12, 13, 5, 6, 4] (kRunV (rest := []) C ev_ok hE hA hP hD hS [11, 12, 2, 5, 6, 7, 8, 9, 10] rfl rfl rfl (c_X3_findLine hr_5) hE.1 0 3 rfl rfl (cwV 0 ht (gV kw_186 kw_187 kw_188 kw_4 kw_189) rfl rfl rfl (by decide +kernel) ⟨Nat.le_of_ble_eq_true rfl, Nat.le_of_ble_eq_true rfl⟩) rfl hl.1 rfl (Nat.le_of_ble_eq_true rfl) dX5_read_43 ⟨Nat.le_of_ble_eq_true rfl, Nat.le_of_ble_eq_true rfl⟩) rfl rfl rfl (by decide) rfl rfl rfl (fun H locs hP hD hS => ?_)
      refine lv_if_eq (tgt := 62) hx hb dX5_read_46 (by decide) (fun c_6 => ?_) (fun c_6 => ?_)
      · replace h := o_t c_6 h
        exact k_X5_read_J62 C hE hA  xx_e tp_c tp_o ln_c ln_m rd_f rd_p tk_e tk_s tk_p tk_h tk_v tk_f _ _ _ hP hD hS (lv_sub hl [0] rfl) h
      · replace h := o_f c_6 h
        refine lv_aload_n hx hb dX5_read_49 rfl (lv_at hl 0 rfl) ?_
        refine va_get (D := D) (ci := 5) (v := .ref a_rd) (C := RX5) (T := TX5) (N := 6) hx hb ht inX5 hown hE.1 hP 0 rfl rfl 3 (by decide) (ht _ kw_142) (fun _ h9 => h9) rfl dX5_read_50 ?_
        cases h
set_option maxHeartbeats 4000000 in
set_option maxRecDepth 100000 in
theorem c_X5_read {l : Launch} {D : va_G} {cB cI cL : ClassId} {a_xx a_tp a_tpb a_pp a_ppb a_ln a_lnk a_lnp a_lnf a_lns a_lnn a_rd a_tk a_pr : Nat} {xx_e : Int32} {tp_c : Int32} {tp_o : Int32} {tp_b : Nat → Int32} {pp_c : Int32} {pp_o : Int32} {pp_b : Nat → Int32} {ln_c : Int32} {ln_m : Int32} {ln_k : Nat → Int32} {ln_p : Nat → Int32} {ln_f : Nat → Int32} {ln_s : Nat → Int32} {ln_n : Nat → Int64} {rd_f : Int32} {rd_p : Int32} {tk_e : Int32} {tk_s : Int32} {tk_p : Int32} {tk_h : Int32} {tk_v : Int64} {tk_f : Int32} {p0 : Int32} {res : Int32 × Int32 × Int32 × Int32 × Int32 × Int32 × Int32 × Int32 × Int32 × Int32 × Int32 × Int32 × Int64 × Int32} (h : m_X5_read xx_e tp_c tp_o ln_c ln_m rd_f rd_p tk_e tk_s tk_p tk_h tk_v tk_f p0 = some res) : KMet l (⟨"LinkText", "read", "(I)I"⟩ : MethodName) (.code (⟨"LinkText", "read", "(I)I"⟩ : MethodName) prog_1_method_4_code 3 (some .int) :: k_tbl) ({ frames := 2, cells := 0, slots := 0, locals := 42 } : Room) (ev D cB cI cL) D vwCl [.ref a_xx, .int p0] [(a_xx, .inr (5, [.ref a_tp, .ref a_pp, .ref a_ln, .ref a_rd, .ref a_pr, .int xx_e])), (a_tp, .inr (0, [.ref a_tpb, .int tp_c, .int tp_o])), (a_tpb, .inl (cB, 4000, .inl tp_b)), (a_pp, .inr (0, [.ref a_ppb, .int pp_c, .int pp_o])), (a_ppb, .inl (cB, 4000, .inl pp_b)), (a_ln, .inr (1, [.ref a_lnk, .ref a_lnp, .ref a_lnf, .ref a_lns, .ref a_lnn, .int ln_c, .int ln_m])), (a_lnk, .inl (cI, 64, .inl ln_k)), (a_lnp, .inl (cI, 64, .inl ln_p)), (a_lnf, .inl (cI, 64, .inl ln_f)), (a_lns, .inl (cI, 64, .inl ln_s)), (a_lnn, .inl (cL, 4000, .inr (.inl ln_n))), (a_rd, .inr (3, [.ref a_tk, .ref a_ln, .int rd_f, .int rd_p])), (a_tk, .inr (2, [.ref a_tpb, .int tk_e, .int tk_s, .int tk_p, .int tk_h, .long tk_v, .int tk_f])), (a_pr, .inr (4, [.ref a_pp, .ref a_ln]))] (kQi D vwCl [(a_xx, .inr (5, [.ref a_tp, .ref a_pp, .ref a_ln, .ref a_rd, .ref a_pr, .int res.2.1])), (a_tp, .inr (0, [.ref a_tpb, .int res.2.2.1, .int res.2.2.2.1])), (a_tpb, .inl (cB, 4000, .inl tp_b)), (a_pp, .inr (0, [.ref a_ppb, .int pp_c, .int pp_o])), (a_ppb, .inl (cB, 4000, .inl pp_b)), (a_ln, .inr (1, [.ref a_lnk, .ref a_lnp, .ref a_lnf, .ref a_lns, .ref a_lnn, .int res.2.2.2.2.1, .int res.2.2.2.2.2.1])), (a_lnk, .inl (cI, 64, .inl ln_k)), (a_lnp, .inl (cI, 64, .inl ln_p)), (a_lnf, .inl (cI, 64, .inl ln_f)), (a_lns, .inl (cI, 64, .inl ln_s)), (a_lnn, .inl (cL, 4000, .inr (.inl ln_n))), (a_rd, .inr (3, [.ref a_tk, .ref a_ln, .int res.2.2.2.2.2.2.1, .int res.2.2.2.2.2.2.2.1])), (a_tk, .inr (2, [.ref a_tpb, .int res.2.2.2.2.2.2.2.2.1, .int res.2.2.2.2.2.2.2.2.2.1, .int res.2.2.2.2.2.2.2.2.2.2.1, .int res.2.2.2.2.2.2.2.2.2.2.2.1, .long res.2.2.2.2.2.2.2.2.2.2.2.2.1, .int res.2.2.2.2.2.2.2.2.2.2.2.2.2])), (a_pr, .inr (4, [.ref a_pp, .ref a_ln]))] res.1) := by
  unfold m_X5_read at h
  refine kMet (cc := prog_1_method_4_code) (mL := 3) (ret := (some .int)) (own := "LinkText") (by decide) rfl rfl (Nat.le_of_ble_eq_true rfl) ?_
  intro p e s m below meth c A C hnm hE hA hP hD ls hl
  generalize ([.ref a_xx, .int p0] : List Value).toArray = args at C ⊢
  obtain ⟨hx, hb, hr, hml, hown, hts, hlocks⟩ := id C
  have ht : ∀ w ∈ k_tbl, w.before args s = true := fun w h => hts w (List.mem_cons_of_mem _ h)
  have hS : va_S A s.heap s.heap [] := va_S.rf
  have hl : lv_has ls 3 [(0, .ref a_xx), (1, .int p0)] := hl
  refine lv_iload_n hx hb dX5_read_0 rfl (lv_at hl 1 rfl) ?_
  refine lv_if_lt (tgt := 15) hx hb dX5_read_1 (by decide) (fun c_7 => ?_) (fun c_7 => ?_)
  · replace h := o_t c_7 h
    refine lv_bipush (v := -2) hx hb dX5_read_15 (by decide) ?_
    obtain rfl := Option.some.inj h
    exact kRet_i C hP hD hS dX5_read_17
  · replace h := o_f c_7 h
    refine lv_iload_n hx hb dX5_read_4 rfl (lv_at hl 1 rfl) ?_
    refine lv_aload_n hx hb dX5_read_5 rfl (lv_at hl 0 rfl) ?_
    refine va_get (D := D) (ci := 5) (v := .ref a_tp) (C := RX5) (T := TX5) (N := 6) hx hb ht inX5 hown hE.1 hP 0 rfl rfl 0 (by decide) (ht _ kw_139) (fun _ h9 => h9) rfl dX5_read_6 ?_
    refine va_getN (D := D) (ci := 0) (v := .int tp_c) (C := RX0) (T := TX0) (N := 3) (host := "LinkText") hx hb ht inX0 hown hE.1 hP 1 rfl rfl 1 (by decide) (va_Nw.use rfl (hE.2.2 _ kw_31 rfl)) (fun _ h9 => h9) rfl dX5_read_9 ?_
    refine lv_icmp_le (tgt := 18) hx hb dX5_read_12 (by decide) (fun c_8 => ?_) (fun c_8 => ?_)
    · replace h := o_t c_8 h
      refine lv_aload_n hx hb dX5_read_18 rfl (lv_at hl 0 rfl) ?_
      refine lv_iconst (v := 1) hx hb dX5_read_19 (by decide) ?_
      refine va_put (D := D) (ci := 5) (v := .int (1 : Int32)) (ty := .boolean) (C := RX5) (T := TX5) (N := 6) hx hb ht inX5 tyX5 tyX5_ok nmX5 hown hE.1 hP hD hS 0 rfl rfl 5 (by decide) (ht _ kw_144) (fun _ h9 => h9) rfl (by decide +kernel) rfl rfl (Nat.le_of_ble_eq_true rfl) dX5_read_20 (fun H locs hP hD hS => ?_)
      have hP : va_P D vwCl [(a_xx, .inr (5, [.ref a_tp, .ref a_pp, .ref a_ln, .ref a_rd, .ref a_pr, .int (1 : Int32)])), (a_tp, .inr (0, [.ref a_tpb, .int tp_c, .int tp_o])), (a_tpb, .inl (cB, 4000, .inl tp_b)), (a_pp, .inr (0, [.ref a_ppb, .int pp_c, .int pp_o])), (a_ppb, .inl (cB, 4000, .inl pp_b)), (a_ln, .inr (1, [.ref a_lnk, .ref a_lnp, .ref a_lnf, .ref a_lns, .ref a_lnn, .int ln_c, .int ln_m])), (a_lnk, .inl (cI, 64, .inl ln_k)), (a_lnp, .inl (cI, 64, .inl ln_p)), (a_lnf, .inl (cI, 64, .inl ln_f)), (a_lns, .inl (cI, 64, .inl ln_s)), (a_lnn, .inl (cL, 4000, .inr (.inl ln_n))), (a_rd, .inr (3, [.ref a_tk, .ref a_ln, .int rd_f, .int rd_p])), (a_tk, .inr (2, [.ref a_tpb, .int tk_e, .int tk_s, .int tk_p, .int tk_h, .long tk_v, .int tk_f])), (a_pr, .inr (4, [.ref a_pp, .ref a_ln]))] H := hP
      have hD : va_D A [(a_xx, .inr (5, [.ref a_tp, .ref a_pp, .ref a_ln, .ref a_rd, .ref a_pr, .int (1 : Int32)])), (a_tp, .inr (0, [.ref a_tpb, .int tp_c, .int tp_o])), (a_tpb, .inl (cB, 4000, .inl tp_b)), (a_pp, .inr (0, [.ref a_ppb, .int pp_c, .int pp_o])), (a_ppb, .inl (cB, 4000, .inl pp_b)), (a_ln, .inr (1, [.ref a_lnk, .ref a_lnp, .ref a_lnf, .ref a_lns, .ref a_lnn, .int ln_c, .int ln_m])), (a_lnk, .inl (cI, 64, .inl ln_k)), (a_lnp, .inl (cI, 64, .inl ln_p)), (a_lnf, .inl (cI, 64, .inl ln_f)), (a_lns, .inl (cI, 64, .inl ln_s)), (a_lnn, .inl (cL, 4000, .inr (.inl ln_n))), (a_rd, .inr (3, [.ref a_tk, .ref a_ln, .int rd_f, .int rd_p])), (a_tk, .inr (2, [.ref a_tpb, .int tk_e, .int tk_s, .int tk_p, .int tk_h, .long tk_v, .int tk_f])), (a_pr, .inr (4, [.ref a_pp, .ref a_ln]))] := hD
      refine lv_aload_n hx hb dX5_read_23 rfl (lv_at hl 0 rfl) ?_
      refine va_get (D := D) (ci := 5) (v := .ref a_rd) (C := RX5) (T := TX5) (N := 6) hx hb ht inX5 hown hE.1 hP 0 rfl rfl 3 (by decide) (ht _ kw_142) (fun _ h9 => h9) rfl dX5_read_24 ?_
      refine lv_iload_n hx hb dX5_read_27 rfl (lv_at hl 1 rfl) ?_
      obtain ⟨r_9, hr_9, h⟩ := o_b_s h
      refine kCv (w' := [(a_xx, .inr (5, [.ref a_tp, .ref a_pp, .ref a_ln, .ref a_rd, .ref a_pr, .int (1 : Int32)])), (a_tp, .inr (0, [.ref a_tpb, .int tp_c, .int tp_o])), (a_tpb, .inl (cB, 4000, .inl tp_b)), (a_pp, .inr (0, [.ref a_ppb, .int pp_c, .int pp_o])), (a_ppb, .inl (cB, 4000, .inl pp_b)), (a_ln, .inr (1, [.ref a_lnk, .ref a_lnp, .ref a_lnf, .ref a_lns, .ref a_lnn, .int r_9.2.2.2.2.2.2.2.2.1, .int r_9.2.2.2.2.2.2.2.2.2])), (a_lnk, .inl (cI, 64, .inl ln_k)), (a_lnp, .inl (cI, 64, .inl ln_p)), (a_lnf, .inl (cI, 64, .inl ln_f)), (a_lns, .inl (cI, 64, .inl ln_s)), (a_lnn, .inl (cL, 4000, .inr (.inl ln_n))), (a_rd, .inr (3, [.ref a_tk, .ref a_ln, .int r_9.1, .int r_9.2.1])), (a_tk, .inr (2, [.ref a_tpb, .int r_9.2.2.1, .int r_9.2.2.2.1, .int r_9.2.2.2.2.1, .int r_9.2.2.2.2.2.1, .long r_9.2.2.2.2.2.2.1, .int r_9.2.2.2.2.2.2.2.1])), (a_pr, .inr (4, [.ref a_pp, .ref a_ln]))]) hP hD hS hA [11, 12, 2, 5, 6, 7, 8, 9, 10] [0, 1, 3, 4, 13] [0, 1, 7, 2, 3, 8, 9, 10, 11, 12, 13, 5, 6, 4] (kRunV (rest := []) C ev_ok hE hA hP hD hS [11, 12, 2, 5, 6, 7, 8, 9, 10] rfl rfl rfl (c_X3_begin hr_9) hE.1 0 3 rfl rfl (cwV 1 ht (gV kw_174 kw_175 kw_176 kw_4 kw_177) rfl rfl rfl (by decide +kernel) ⟨Nat.le_of_ble_eq_true rfl, Nat.le_of_ble_eq_true rfl⟩) rfl hl.1 rfl (Nat.le_of_ble_eq_true rfl) dX5_read_28 ⟨Nat.le_of_ble_eq_true rfl, Nat.le_of_ble_eq_true rfl⟩) rfl rfl rfl (by decide) rfl rfl rfl (fun H locs hP hD hS => ?_)
      refine lv_iconst (v := 0) hx hb dX5_read_31 (by decide) ?_
      refine lv_istore_n (lv' := [(2, .int (0 : Int32)), (0, .ref a_xx), (1, .int p0)]) hx hb dX5_read_32 rfl hl (by decide) rfl (fun ls hl => ?_)
      exact k_X5_read_L33 C hE hA  fu (1 : Int32) tp_c tp_o r_9.2.2.2.2.2.2.2.2.1 r_9.2.2.2.2.2.2.2.2.2 r_9.1 r_9.2.1 r_9.2.2.1 r_9.2.2.2.1 r_9.2.2.2.2.1 r_9.2.2.2.2.2.1 r_9.2.2.2.2.2.2.1 r_9.2.2.2.2.2.2.2.1 (0 : Int32) _ _ _ hP hD hS (lv_sub hl [1, 0] rfl) h
    · replace h := o_f c_8 h
      refine lv_bipush (v := -2) hx hb dX5_read_15 (by decide) ?_
      obtain rfl := Option.some.inj h
      exact kRet_i C hP hD hS dX5_read_17
set_option maxHeartbeats 4000000 in
set_option maxRecDepth 100000 in
theorem c_X5_fault {l : Launch} {D : va_G} {cB cI cL : ClassId} {a_xx a_tp a_tpb a_pp a_ppb a_ln a_lnk a_lnp a_lnf a_lns a_lnn a_rd a_tk a_pr : Nat} {xx_e : Int32} {tp_c : Int32} {tp_o : Int32} {tp_b : Nat → Int32} {pp_c : Int32} {pp_o : Int32} {pp_b : Nat → Int32} {ln_c : Int32} {ln_m : Int32} {ln_k : Nat → Int32} {ln_p : Nat → Int32} {ln_f : Nat → Int32} {ln_s : Nat → Int32} {ln_n : Nat → Int64} {rd_f : Int32} {rd_p : Int32} {tk_e : Int32} {tk_s : Int32} {tk_p : Int32} {tk_h : Int32} {tk_v : Int64} {tk_f : Int32} {p0 : Int32} {res : Int32} (h : m_X5_fault xx_e rd_f rd_p p0 = some res) : KMet l (⟨"LinkText", "fault", "(I)I"⟩ : MethodName) (.code (⟨"LinkText", "fault", "(I)I"⟩ : MethodName) prog_1_method_5_code 2 (some .int) :: k_tbl) ({ frames := 0, cells := 0, slots := 0, locals := 0 } : Room) (ev D cB cI cL) D vwCl [.ref a_xx, .int p0] [(a_xx, .inr (5, [.ref a_tp, .ref a_pp, .ref a_ln, .ref a_rd, .ref a_pr, .int xx_e])), (a_tp, .inr (0, [.ref a_tpb, .int tp_c, .int tp_o])), (a_tpb, .inl (cB, 4000, .inl tp_b)), (a_pp, .inr (0, [.ref a_ppb, .int pp_c, .int pp_o])), (a_ppb, .inl (cB, 4000, .inl pp_b)), (a_ln, .inr (1, [.ref a_lnk, .ref a_lnp, .ref a_lnf, .ref a_lns, .ref a_lnn, .int ln_c, .int ln_m])), (a_lnk, .inl (cI, 64, .inl ln_k)), (a_lnp, .inl (cI, 64, .inl ln_p)), (a_lnf, .inl (cI, 64, .inl ln_f)), (a_lns, .inl (cI, 64, .inl ln_s)), (a_lnn, .inl (cL, 4000, .inr (.inl ln_n))), (a_rd, .inr (3, [.ref a_tk, .ref a_ln, .int rd_f, .int rd_p])), (a_tk, .inr (2, [.ref a_tpb, .int tk_e, .int tk_s, .int tk_p, .int tk_h, .long tk_v, .int tk_f])), (a_pr, .inr (4, [.ref a_pp, .ref a_ln]))] (kQi D vwCl [(a_xx, .inr (5, [.ref a_tp, .ref a_pp, .ref a_ln, .ref a_rd, .ref a_pr, .int xx_e])), (a_tp, .inr (0, [.ref a_tpb, .int tp_c, .int tp_o])), (a_tpb, .inl (cB, 4000, .inl tp_b)), (a_pp, .inr (0, [.ref a_ppb, .int pp_c, .int pp_o])), (a_ppb, .inl (cB, 4000, .inl pp_b)), (a_ln, .inr (1, [.ref a_lnk, .ref a_lnp, .ref a_lnf, .ref a_lns, .ref a_lnn, .int ln_c, .int ln_m])), (a_lnk, .inl (cI, 64, .inl ln_k)), (a_lnp, .inl (cI, 64, .inl ln_p)), (a_lnf, .inl (cI, 64, .inl ln_f)), (a_lns, .inl (cI, 64, .inl ln_s)), (a_lnn, .inl (cL, 4000, .inr (.inl ln_n))), (a_rd, .inr (3, [.ref a_tk, .ref a_ln, .int rd_f, .int rd_p])), (a_tk, .inr (2, [.ref a_tpb, .int tk_e, .int tk_s, .int tk_p, .int tk_h, .long tk_v, .int tk_f])), (a_pr, .inr (4, [.ref a_pp, .ref a_ln]))] res) := by
  unfold m_X5_fault at h
  refine kMet (cc := prog_1_method_5_code) (mL := 2) (ret := (some .int)) (own := "LinkText") (by decide) rfl rfl (Nat.le_of_ble_eq_true rfl) ?_
  intro p e s m below meth c A C hnm hE hA hP hD ls hl
  generalize ([.ref a_xx, .int p0] : List Value).toArray = args at C ⊢
  obtain ⟨hx, hb, hr, hml, hown, hts, hlocks⟩ := id C
  have ht : ∀ w ∈ k_tbl, w.before args s = true := fun w h => hts w (List.mem_cons_of_mem _ h)
  have hS : va_S A s.heap s.heap [] := va_S.rf
  have hl : lv_has ls 2 [(0, .ref a_xx), (1, .int p0)] := hl
  refine lv_aload_n hx hb dX5_fault_0 rfl (lv_at hl 0 rfl) ?_
  refine va_get (D := D) (ci := 5) (v := .int xx_e) (C := RX5) (T := TX5) (N := 6) hx hb ht inX5 hown hE.1 hP 0 rfl rfl 5 (by decide) (ht _ kw_144) (fun _ h9 => h9) rfl dX5_fault_1 ?_
  refine lv_if_ne (tgt := 9) hx hb dX5_fault_4 (by decide) (fun c_1 => ?_) (fun c_1 => ?_)
  · replace h := o_f c_1 h
    refine lv_iload_n hx hb dX5_fault_9 rfl (lv_at hl 1 rfl) ?_
    by_cases c_2 : p0 = (0 : Int32)
    · replace h := o_t c_2 h
      refine lv_lookup (off := 26) (tgt := 36) hx hb dX5_fault_10 (by decide) (by rw [c_2]; rfl) (by decide) ?_
      refine lv_aload_n hx hb dX5_fault_36 rfl (lv_at hl 0 rfl) ?_
      refine va_get (D := D) (ci := 5) (v := .ref a_rd) (C := RX5) (T := TX5) (N := 6) hx hb ht inX5 hown hE.1 hP 0 rfl rfl 3 (by decide) (ht _ kw_142) (fun _ h9 => h9) rfl dX5_fault_37 ?_
      refine va_getN (D := D) (ci := 3) (v := .int rd_f) (C := RX3) (T := TX3) (N := 4) (host := "LinkText") hx hb ht inX3 hown hE.1 hP 11 rfl rfl 2 (by decide) (va_Nw.use rfl (hE.2.2 _ kw_114 rfl)) (fun _ h9 => h9) rfl dX5_fault_40 ?_
      obtain rfl := Option.some.inj h
      exact kRet_i C hP hD hS dX5_fault_43
    replace h := o_f c_2 h
    by_cases c_3 : p0 = (1 : Int32)
    · replace h := o_t c_3 h
      refine lv_lookup (off := 34) (tgt := 44) hx hb dX5_fault_10 (by decide) (by rw [c_3]; rfl) (by decide) ?_
      refine lv_aload_n hx hb dX5_fault_44 rfl (lv_at hl 0 rfl) ?_
      refine va_get (D := D) (ci := 5) (v := .ref a_rd) (C := RX5) (T := TX5) (N := 6) hx hb ht inX5 hown hE.1 hP 0 rfl rfl 3 (by decide) (ht _ kw_142) (fun _ h9 => h9) rfl dX5_fault_45 ?_
      refine va_getN (D := D) (ci := 3) (v := .int rd_p) (C := RX3) (T := TX3) (N := 4) (host := "LinkText") hx hb ht inX3 hown hE.1 hP 11 rfl rfl 3 (by decide) (va_Nw.use rfl (hE.2.2 _ kw_116 rfl)) (fun _ h9 => h9) rfl dX5_fault_48 ?_
      obtain rfl := Option.some.inj h
      exact kRet_i C hP hD hS dX5_fault_51
    replace h := o_f c_3 h
    refine lv_lookup (off := 42) (tgt := 52) hx hb dX5_fault_10 (by decide) (by rw [lv_osw (a := 0) c_2 (by decide), lv_osw (a := 1) c_3 (by decide)]; rfl) (by decide) ?_
    refine lv_iconst (v := -1) hx hb dX5_fault_52 (by decide) ?_
    obtain rfl := Option.some.inj h
    exact kRet_i C hP hD hS dX5_fault_53
  · replace h := o_t c_1 h
    refine lv_iconst (v := -1) hx hb dX5_fault_7 (by decide) ?_
    obtain rfl := Option.some.inj h
    exact kRet_i C hP hD hS dX5_fault_8
set_option maxHeartbeats 4000000 in
set_option maxRecDepth 100000 in
theorem c_X5_line {l : Launch} {D : va_G} {cB cI cL : ClassId} {a_xx a_tp a_tpb a_pp a_ppb a_ln a_lnk a_lnp a_lnf a_lns a_lnn a_rd a_tk a_pr : Nat} {xx_e : Int32} {tp_c : Int32} {tp_o : Int32} {tp_b : Nat → Int32} {pp_c : Int32} {pp_o : Int32} {pp_b : Nat → Int32} {ln_c : Int32} {ln_m : Int32} {ln_k : Nat → Int32} {ln_p : Nat → Int32} {ln_f : Nat → Int32} {ln_s : Nat → Int32} {ln_n : Nat → Int64} {rd_f : Int32} {rd_p : Int32} {tk_e : Int32} {tk_s : Int32} {tk_p : Int32} {tk_h : Int32} {tk_v : Int64} {tk_f : Int32} {p0 : Int32} {p1 : Int32} {res : Int32} (h : m_X5_line ln_c ln_k ln_p ln_s p0 p1 = some res) : KMet l (⟨"LinkText", "line", "(II)I"⟩ : MethodName) (.code (⟨"LinkText", "line", "(II)I"⟩ : MethodName) prog_1_method_6_code 3 (some .int) :: k_tbl) ({ frames := 2, cells := 0, slots := 0, locals := 42 } : Room) (ev D cB cI cL) D vwCl [.ref a_xx, .int p0, .int p1] [(a_xx, .inr (5, [.ref a_tp, .ref a_pp, .ref a_ln, .ref a_rd, .ref a_pr, .int xx_e])), (a_tp, .inr (0, [.ref a_tpb, .int tp_c, .int tp_o])), (a_tpb, .inl (cB, 4000, .inl tp_b)), (a_pp, .inr (0, [.ref a_ppb, .int pp_c, .int pp_o])), (a_ppb, .inl (cB, 4000, .inl pp_b)), (a_ln, .inr (1, [.ref a_lnk, .ref a_lnp, .ref a_lnf, .ref a_lns, .ref a_lnn, .int ln_c, .int ln_m])), (a_lnk, .inl (cI, 64, .inl ln_k)), (a_lnp, .inl (cI, 64, .inl ln_p)), (a_lnf, .inl (cI, 64, .inl ln_f)), (a_lns, .inl (cI, 64, .inl ln_s)), (a_lnn, .inl (cL, 4000, .inr (.inl ln_n))), (a_rd, .inr (3, [.ref a_tk, .ref a_ln, .int rd_f, .int rd_p])), (a_tk, .inr (2, [.ref a_tpb, .int tk_e, .int tk_s, .int tk_p, .int tk_h, .long tk_v, .int tk_f])), (a_pr, .inr (4, [.ref a_pp, .ref a_ln]))] (kQi D vwCl [(a_xx, .inr (5, [.ref a_tp, .ref a_pp, .ref a_ln, .ref a_rd, .ref a_pr, .int xx_e])), (a_tp, .inr (0, [.ref a_tpb, .int tp_c, .int tp_o])), (a_tpb, .inl (cB, 4000, .inl tp_b)), (a_pp, .inr (0, [.ref a_ppb, .int pp_c, .int pp_o])), (a_ppb, .inl (cB, 4000, .inl pp_b)), (a_ln, .inr (1, [.ref a_lnk, .ref a_lnp, .ref a_lnf, .ref a_lns, .ref a_lnn, .int ln_c, .int ln_m])), (a_lnk, .inl (cI, 64, .inl ln_k)), (a_lnp, .inl (cI, 64, .inl ln_p)), (a_lnf, .inl (cI, 64, .inl ln_f)), (a_lns, .inl (cI, 64, .inl ln_s)), (a_lnn, .inl (cL, 4000, .inr (.inl ln_n))), (a_rd, .inr (3, [.ref a_tk, .ref a_ln, .int rd_f, .int rd_p])), (a_tk, .inr (2, [.ref a_tpb, .int tk_e, .int tk_s, .int tk_p, .int tk_h, .long tk_v, .int tk_f])), (a_pr, .inr (4, [.ref a_pp, .ref a_ln]))] res) := by
  unfold m_X5_line at h
  refine kMet (cc := prog_1_method_6_code) (mL := 3) (ret := (some .int)) (own := "LinkText") (by decide) rfl rfl (Nat.le_of_ble_eq_true rfl) ?_
  intro p e s m below meth c A C hnm hE hA hP hD ls hl
  generalize ([.ref a_xx, .int p0, .int p1] : List Value).toArray = args at C ⊢
  obtain ⟨hx, hb, hr, hml, hown, hts, hlocks⟩ := id C
  have ht : ∀ w ∈ k_tbl, w.before args s = true := fun w h => hts w (List.mem_cons_of_mem _ h)
  have hS : va_S A s.heap s.heap [] := va_S.rf
  have hl : lv_has ls 3 [(0, .ref a_xx), (1, .int p0), (2, .int p1)] := hl
  refine lv_aload_n hx hb dX5_line_0 rfl (lv_at hl 0 rfl) ?_
  refine va_get (D := D) (ci := 5) (v := .ref a_ln) (C := RX5) (T := TX5) (N := 6) hx hb ht inX5 hown hE.1 hP 0 rfl rfl 2 (by decide) (ht _ kw_141) (fun _ h9 => h9) rfl dX5_line_1 ?_
  refine lv_iload_n hx hb dX5_line_4 rfl (lv_at hl 1 rfl) ?_
  obtain ⟨r_1, hr_1, h⟩ := o_b_s h
  refine kCi (w' := [(a_xx, .inr (5, [.ref a_tp, .ref a_pp, .ref a_ln, .ref a_rd, .ref a_pr, .int xx_e])), (a_tp, .inr (0, [.ref a_tpb, .int tp_c, .int tp_o])), (a_tpb, .inl (cB, 4000, .inl tp_b)), (a_pp, .inr (0, [.ref a_ppb, .int pp_c, .int pp_o])), (a_ppb, .inl (cB, 4000, .inl pp_b)), (a_ln, .inr (1, [.ref a_lnk, .ref a_lnp, .ref a_lnf, .ref a_lns, .ref a_lnn, .int ln_c, .int ln_m])), (a_lnk, .inl (cI, 64, .inl ln_k)), (a_lnp, .inl (cI, 64, .inl ln_p)), (a_lnf, .inl (cI, 64, .inl ln_f)), (a_lns, .inl (cI, 64, .inl ln_s)), (a_lnn, .inl (cL, 4000, .inr (.inl ln_n))), (a_rd, .inr (3, [.ref a_tk, .ref a_ln, .int rd_f, .int rd_p])), (a_tk, .inr (2, [.ref a_tpb, .int tk_e, .int tk_s, .int tk_p, .int tk_h, .long tk_v, .int tk_f])), (a_pr, .inr (4, [.ref a_pp, .ref a_ln]))]) hP hD hS hA [5, 6, 7, 8, 9, 10] [0, 1, 2, 3, 4, 11, 12, 13] [0, 1, 2, 3, 4, 8, 9, 10, 11, 12, 13, 5, 6, 7] (kRunV (rest := []) C ev_ok hE hA hP hD hS [5, 6, 7, 8, 9, 10] rfl rfl rfl (c_X1_has hr_1) hE.1 0 1 rfl rfl (cwV 1 ht (gV kw_389 kw_390 kw_391 kw_3 kw_392) rfl rfl rfl (by decide +kernel) ⟨Nat.le_of_ble_eq_true rfl, Nat.le_of_ble_eq_true rfl⟩) rfl hl.1 rfl (Nat.le_of_ble_eq_true rfl) dX5_line_5 ⟨Nat.le_of_ble_eq_true rfl, Nat.le_of_ble_eq_true rfl⟩) rfl rfl rfl (by decide) rfl rfl rfl (fun H locs hP hD hS => ?_)
  refine lv_if_ne (tgt := 13) hx hb dX5_line_8 (by decide) (fun c_2 => ?_) (fun c_2 => ?_)
  · replace h := o_f c_2 h
    refine lv_iload_n hx hb dX5_line_13 rfl (lv_at hl 2 rfl) ?_
    by_cases c_3 : p1 = (0 : Int32)
    · replace h := o_t c_3 h
      refine lv_tableIn (off := 26) (tgt := 40) hx hb dX5_line_14 (by rw [c_3]; decide) (by rw [c_3]; decide) (by rw [c_3]; rfl) (by decide) ?_
      refine lv_aload_n hx hb dX5_line_40 rfl (lv_at hl 0 rfl) ?_
      refine va_get (D := D) (ci := 5) (v := .ref a_ln) (C := RX5) (T := TX5) (N := 6) hx hb ht inX5 hown hE.1 hP 0 rfl rfl 2 (by decide) (ht _ kw_141) (fun _ h9 => h9) rfl dX5_line_41 ?_
      refine lv_iload_n hx hb dX5_line_44 rfl (lv_at hl 1 rfl) ?_
      obtain ⟨r_4, hr_4, h⟩ := o_b_s h
      refine kCi (w' := [(a_xx, .inr (5, [.ref a_tp, .ref a_pp, .ref a_ln, .ref a_rd, .ref a_pr, .int xx_e])), (a_tp, .inr (0, [.ref a_tpb, .int tp_c, .int tp_o])), (a_tpb, .inl (cB, 4000, .inl tp_b)), (a_pp, .inr (0, [.ref a_ppb, .int pp_c, .int pp_o])), (a_ppb, .inl (cB, 4000, .inl pp_b)), (a_ln, .inr (1, [.ref a_lnk, .ref a_lnp, .ref a_lnf, .ref a_lns, .ref a_lnn, .int ln_c, .int ln_m])), (a_lnk, .inl (cI, 64, .inl ln_k)), (a_lnp, .inl (cI, 64, .inl ln_p)), (a_lnf, .inl (cI, 64, .inl ln_f)), (a_lns, .inl (cI, 64, .inl ln_s)), (a_lnn, .inl (cL, 4000, .inr (.inl ln_n))), (a_rd, .inr (3, [.ref a_tk, .ref a_ln, .int rd_f, .int rd_p])), (a_tk, .inr (2, [.ref a_tpb, .int tk_e, .int tk_s, .int tk_p, .int tk_h, .long tk_v, .int tk_f])), (a_pr, .inr (4, [.ref a_pp, .ref a_ln]))]) hP hD hS hA [5, 6, 7, 8, 9, 10] [0, 1, 2, 3, 4, 11, 12, 13] [0, 1, 2, 3, 4, 8, 9, 10, 11, 12, 13, 5, 6, 7] (kRunV (rest := []) C ev_ok hE hA hP hD hS [5, 6, 7, 8, 9, 10] rfl rfl rfl (c_X1_kindOf hr_4) hE.1 0 1 rfl rfl (cwV 1 ht (gV kw_393 kw_394 kw_395 kw_3 kw_396) rfl rfl rfl (by decide +kernel) ⟨Nat.le_of_ble_eq_true rfl, Nat.le_of_ble_eq_true rfl⟩) rfl hl.1 rfl (Nat.le_of_ble_eq_true rfl) dX5_line_45 ⟨Nat.le_of_ble_eq_true rfl, Nat.le_of_ble_eq_true rfl⟩) rfl rfl rfl (by decide) rfl rfl rfl (fun H locs hP hD hS => ?_)
      obtain rfl := Option.some.inj h
      exact kRet_i C hP hD hS dX5_line_48
    replace h := o_f c_3 h
    by_cases c_5 : p1 = (1 : Int32)
    · replace h := o_t c_5 h
      refine lv_tableIn (off := 35) (tgt := 49) hx hb dX5_line_14 (by rw [c_5]; decide) (by rw [c_5]; decide) (by rw [c_5]; rfl) (by decide) ?_
      refine lv_aload_n hx hb dX5_line_49 rfl (lv_at hl 0 rfl) ?_
      refine va_get (D := D) (ci := 5) (v := .ref a_ln) (C := RX5) (T := TX5) (N := 6) hx hb ht inX5 hown hE.1 hP 0 rfl rfl 2 (by decide) (ht _ kw_141) (fun _ h9 => h9) rfl dX5_line_50 ?_
      refine lv_iload_n hx hb dX5_line_53 rfl (lv_at hl 1 rfl) ?_
      obtain ⟨r_6, hr_6, h⟩ := o_b_s h
      refine kCi (w' := [(a_xx, .inr (5, [.ref a_tp, .ref a_pp, .ref a_ln, .ref a_rd, .ref a_pr, .int xx_e])), (a_tp, .inr (0, [.ref a_tpb, .int tp_c, .int tp_o])), (a_tpb, .inl (cB, 4000, .inl tp_b)), (a_pp, .inr (0, [.ref a_ppb, .int pp_c, .int pp_o])), (a_ppb, .inl (cB, 4000, .inl pp_b)), (a_ln, .inr (1, [.ref a_lnk, .ref a_lnp, .ref a_lnf, .ref a_lns, .ref a_lnn, .int ln_c, .int ln_m])), (a_lnk, .inl (cI, 64, .inl ln_k)), (a_lnp, .inl (cI, 64, .inl ln_p)), (a_lnf, .inl (cI, 64, .inl ln_f)), (a_lns, .inl (cI, 64, .inl ln_s)), (a_lnn, .inl (cL, 4000, .inr (.inl ln_n))), (a_rd, .inr (3, [.ref a_tk, .ref a_ln, .int rd_f, .int rd_p])), (a_tk, .inr (2, [.ref a_tpb, .int tk_e, .int tk_s, .int tk_p, .int tk_h, .long tk_v, .int tk_f])), (a_pr, .inr (4, [.ref a_pp, .ref a_ln]))]) hP hD hS hA [5, 6, 7, 8, 9, 10] [0, 1, 2, 3, 4, 11, 12, 13] [0, 1, 2, 3, 4, 8, 9, 10, 11, 12, 13, 5, 6, 7] (kRunV (rest := []) C ev_ok hE hA hP hD hS [5, 6, 7, 8, 9, 10] rfl rfl rfl (c_X1_sizeOf hr_6) hE.1 0 1 rfl rfl (cwV 1 ht (gV kw_398 kw_399 kw_400 kw_3 kw_401) rfl rfl rfl (by decide +kernel) ⟨Nat.le_of_ble_eq_true rfl, Nat.le_of_ble_eq_true rfl⟩) rfl hl.1 rfl (Nat.le_of_ble_eq_true rfl) dX5_line_54 ⟨Nat.le_of_ble_eq_true rfl, Nat.le_of_ble_eq_true rfl⟩) rfl rfl rfl (by decide) rfl rfl rfl (fun H locs hP hD hS => ?_)
      obtain rfl := Option.some.inj h
      exact kRet_i C hP hD hS dX5_line_57
    replace h := o_f c_5 h
    by_cases c_7 : p1 = (2 : Int32)
    · replace h := o_t c_7 h
      refine lv_tableIn (off := 44) (tgt := 58) hx hb dX5_line_14 (by rw [c_7]; decide) (by rw [c_7]; decide) (by rw [c_7]; rfl) (by decide) ?_
      refine lv_aload_n hx hb dX5_line_58 rfl (lv_at hl 0 rfl) ?_
      refine va_get (D := D) (ci := 5) (v := .ref a_ln) (C := RX5) (T := TX5) (N := 6) hx hb ht inX5 hown hE.1 hP 0 rfl rfl 2 (by decide) (ht _ kw_141) (fun _ h9 => h9) rfl dX5_line_59 ?_
      refine lv_iload_n hx hb dX5_line_62 rfl (lv_at hl 1 rfl) ?_
      obtain ⟨r_8, hr_8, h⟩ := o_b_s h
      refine kCi (w' := [(a_xx, .inr (5, [.ref a_tp, .ref a_pp, .ref a_ln, .ref a_rd, .ref a_pr, .int xx_e])), (a_tp, .inr (0, [.ref a_tpb, .int tp_c, .int tp_o])), (a_tpb, .inl (cB, 4000, .inl tp_b)), (a_pp, .inr (0, [.ref a_ppb, .int pp_c, .int pp_o])), (a_ppb, .inl (cB, 4000, .inl pp_b)), (a_ln, .inr (1, [.ref a_lnk, .ref a_lnp, .ref a_lnf, .ref a_lns, .ref a_lnn, .int ln_c, .int ln_m])), (a_lnk, .inl (cI, 64, .inl ln_k)), (a_lnp, .inl (cI, 64, .inl ln_p)), (a_lnf, .inl (cI, 64, .inl ln_f)), (a_lns, .inl (cI, 64, .inl ln_s)), (a_lnn, .inl (cL, 4000, .inr (.inl ln_n))), (a_rd, .inr (3, [.ref a_tk, .ref a_ln, .int rd_f, .int rd_p])), (a_tk, .inr (2, [.ref a_tpb, .int tk_e, .int tk_s, .int tk_p, .int tk_h, .long tk_v, .int tk_f])), (a_pr, .inr (4, [.ref a_pp, .ref a_ln]))]) hP hD hS hA [5, 6, 7, 8, 9, 10] [0, 1, 2, 3, 4, 11, 12, 13] [0, 1, 2, 3, 4, 8, 9, 10, 11, 12, 13, 5, 6, 7] (kRunV (rest := []) C ev_ok hE hA hP hD hS [5, 6, 7, 8, 9, 10] rfl rfl rfl (c_X1_placeOf hr_8) hE.1 0 1 rfl rfl (cwV 1 ht (gV kw_402 kw_403 kw_404 kw_3 kw_405) rfl rfl rfl (by decide +kernel) ⟨Nat.le_of_ble_eq_true rfl, Nat.le_of_ble_eq_true rfl⟩) rfl hl.1 rfl (Nat.le_of_ble_eq_true rfl) dX5_line_63 ⟨Nat.le_of_ble_eq_true rfl, Nat.le_of_ble_eq_true rfl⟩) rfl rfl rfl (by decide) rfl rfl rfl (fun H locs hP hD hS => ?_)
      obtain rfl := Option.some.inj h
      exact kRet_i C hP hD hS dX5_line_66
    replace h := o_f c_7 h
    refine lv_tableOut (tgt := 67) hx hb dX5_line_14 (by have q0 := sw_ne (n := 0) c_3 (by decide); have q1 := sw_ne (n := 1) c_5 (by decide); have q2 := sw_ne (n := 2) c_7 (by decide); omega) (by decide) ?_
    refine lv_iconst (v := -1) hx hb dX5_line_67 (by decide) ?_
    obtain rfl := Option.some.inj h
    exact kRet_i C hP hD hS dX5_line_68
  · replace h := o_t c_2 h
    refine lv_iconst (v := -1) hx hb dX5_line_11 (by decide) ?_
    obtain rfl := Option.some.inj h
    exact kRet_i C hP hD hS dX5_line_12
set_option maxHeartbeats 4000000 in
set_option maxRecDepth 100000 in
theorem c_X5_number {l : Launch} {D : va_G} {cB cI cL : ClassId} {a_xx a_tp a_tpb a_pp a_ppb a_ln a_lnk a_lnp a_lnf a_lns a_lnn a_rd a_tk a_pr : Nat} {xx_e : Int32} {tp_c : Int32} {tp_o : Int32} {tp_b : Nat → Int32} {pp_c : Int32} {pp_o : Int32} {pp_b : Nat → Int32} {ln_c : Int32} {ln_m : Int32} {ln_k : Nat → Int32} {ln_p : Nat → Int32} {ln_f : Nat → Int32} {ln_s : Nat → Int32} {ln_n : Nat → Int64} {rd_f : Int32} {rd_p : Int32} {tk_e : Int32} {tk_s : Int32} {tk_p : Int32} {tk_h : Int32} {tk_v : Int64} {tk_f : Int32} {p0 : Int32} {p1 : Int32} {res : Int64} (h : m_X5_number ln_c ln_f ln_s ln_n p0 p1 = some res) : KMet l (⟨"LinkText", "number", "(II)J"⟩ : MethodName) (.code (⟨"LinkText", "number", "(II)J"⟩ : MethodName) prog_1_method_7_code 3 (some .long) :: k_tbl) ({ frames := 3, cells := 0, slots := 0, locals := 65 } : Room) (ev D cB cI cL) D vwCl [.ref a_xx, .int p0, .int p1] [(a_xx, .inr (5, [.ref a_tp, .ref a_pp, .ref a_ln, .ref a_rd, .ref a_pr, .int xx_e])), (a_tp, .inr (0, [.ref a_tpb, .int tp_c, .int tp_o])), (a_tpb, .inl (cB, 4000, .inl tp_b)), (a_pp, .inr (0, [.ref a_ppb, .int pp_c, .int pp_o])), (a_ppb, .inl (cB, 4000, .inl pp_b)), (a_ln, .inr (1, [.ref a_lnk, .ref a_lnp, .ref a_lnf, .ref a_lns, .ref a_lnn, .int ln_c, .int ln_m])), (a_lnk, .inl (cI, 64, .inl ln_k)), (a_lnp, .inl (cI, 64, .inl ln_p)), (a_lnf, .inl (cI, 64, .inl ln_f)), (a_lns, .inl (cI, 64, .inl ln_s)), (a_lnn, .inl (cL, 4000, .inr (.inl ln_n))), (a_rd, .inr (3, [.ref a_tk, .ref a_ln, .int rd_f, .int rd_p])), (a_tk, .inr (2, [.ref a_tpb, .int tk_e, .int tk_s, .int tk_p, .int tk_h, .long tk_v, .int tk_f])), (a_pr, .inr (4, [.ref a_pp, .ref a_ln]))] (kQl D vwCl [(a_xx, .inr (5, [.ref a_tp, .ref a_pp, .ref a_ln, .ref a_rd, .ref a_pr, .int xx_e])), (a_tp, .inr (0, [.ref a_tpb, .int tp_c, .int tp_o])), (a_tpb, .inl (cB, 4000, .inl tp_b)), (a_pp, .inr (0, [.ref a_ppb, .int pp_c, .int pp_o])), (a_ppb, .inl (cB, 4000, .inl pp_b)), (a_ln, .inr (1, [.ref a_lnk, .ref a_lnp, .ref a_lnf, .ref a_lns, .ref a_lnn, .int ln_c, .int ln_m])), (a_lnk, .inl (cI, 64, .inl ln_k)), (a_lnp, .inl (cI, 64, .inl ln_p)), (a_lnf, .inl (cI, 64, .inl ln_f)), (a_lns, .inl (cI, 64, .inl ln_s)), (a_lnn, .inl (cL, 4000, .inr (.inl ln_n))), (a_rd, .inr (3, [.ref a_tk, .ref a_ln, .int rd_f, .int rd_p])), (a_tk, .inr (2, [.ref a_tpb, .int tk_e, .int tk_s, .int tk_p, .int tk_h, .long tk_v, .int tk_f])), (a_pr, .inr (4, [.ref a_pp, .ref a_ln]))] res) := by
  unfold m_X5_number at h
  refine kMet (cc := prog_1_method_7_code) (mL := 3) (ret := (some .long)) (own := "LinkText") (by decide) rfl rfl (Nat.le_of_ble_eq_true rfl) ?_
  intro p e s m below meth c A C hnm hE hA hP hD ls hl
  generalize ([.ref a_xx, .int p0, .int p1] : List Value).toArray = args at C ⊢
  obtain ⟨hx, hb, hr, hml, hown, hts, hlocks⟩ := id C
  have ht : ∀ w ∈ k_tbl, w.before args s = true := fun w h => hts w (List.mem_cons_of_mem _ h)
  have hS : va_S A s.heap s.heap [] := va_S.rf
  have hl : lv_has ls 3 [(0, .ref a_xx), (1, .int p0), (2, .int p1)] := hl
  refine lv_aload_n hx hb dX5_number_0 rfl (lv_at hl 0 rfl) ?_
  refine va_get (D := D) (ci := 5) (v := .ref a_ln) (C := RX5) (T := TX5) (N := 6) hx hb ht inX5 hown hE.1 hP 0 rfl rfl 2 (by decide) (ht _ kw_141) (fun _ h9 => h9) rfl dX5_number_1 ?_
  refine lv_iload_n hx hb dX5_number_4 rfl (lv_at hl 1 rfl) ?_
  refine lv_iload_n hx hb dX5_number_5 rfl (lv_at hl 2 rfl) ?_
  obtain ⟨r_1, hr_1, h⟩ := o_b_s h
  refine kCl (w' := [(a_xx, .inr (5, [.ref a_tp, .ref a_pp, .ref a_ln, .ref a_rd, .ref a_pr, .int xx_e])), (a_tp, .inr (0, [.ref a_tpb, .int tp_c, .int tp_o])), (a_tpb, .inl (cB, 4000, .inl tp_b)), (a_pp, .inr (0, [.ref a_ppb, .int pp_c, .int pp_o])), (a_ppb, .inl (cB, 4000, .inl pp_b)), (a_ln, .inr (1, [.ref a_lnk, .ref a_lnp, .ref a_lnf, .ref a_lns, .ref a_lnn, .int ln_c, .int ln_m])), (a_lnk, .inl (cI, 64, .inl ln_k)), (a_lnp, .inl (cI, 64, .inl ln_p)), (a_lnf, .inl (cI, 64, .inl ln_f)), (a_lns, .inl (cI, 64, .inl ln_s)), (a_lnn, .inl (cL, 4000, .inr (.inl ln_n))), (a_rd, .inr (3, [.ref a_tk, .ref a_ln, .int rd_f, .int rd_p])), (a_tk, .inr (2, [.ref a_tpb, .int tk_e, .int tk_s, .int tk_p, .int tk_h, .long tk_v, .int tk_f])), (a_pr, .inr (4, [.ref a_pp, .ref a_ln]))]) hP hD hS hA [5, 6, 7, 8, 9, 10] [0, 1, 2, 3, 4, 11, 12, 13] [0, 1, 2, 3, 4, 8, 9, 10, 11, 12, 13, 5, 6, 7] (kRunV (rest := []) C ev_ok hE hA hP hD hS [5, 6, 7, 8, 9, 10] rfl rfl rfl (c_X1_storedAt hr_1) hE.1 0 1 rfl rfl (cwV 2 ht (gV kw_410 kw_411 kw_412 kw_3 kw_413) rfl rfl rfl (by decide +kernel) ⟨Nat.le_of_ble_eq_true rfl, Nat.le_of_ble_eq_true rfl⟩) rfl hl.1 rfl (Nat.le_of_ble_eq_true rfl) dX5_number_6 ⟨Nat.le_of_ble_eq_true rfl, Nat.le_of_ble_eq_true rfl⟩) rfl rfl rfl (by decide) rfl rfl rfl (fun H locs hP hD hS => ?_)
  obtain ⟨r_2, hr_2, h⟩ := o_b_s h
  refine kCl (w' := [(a_xx, .inr (5, [.ref a_tp, .ref a_pp, .ref a_ln, .ref a_rd, .ref a_pr, .int xx_e])), (a_tp, .inr (0, [.ref a_tpb, .int tp_c, .int tp_o])), (a_tpb, .inl (cB, 4000, .inl tp_b)), (a_pp, .inr (0, [.ref a_ppb, .int pp_c, .int pp_o])), (a_ppb, .inl (cB, 4000, .inl pp_b)), (a_ln, .inr (1, [.ref a_lnk, .ref a_lnp, .ref a_lnf, .ref a_lns, .ref a_lnn, .int ln_c, .int ln_m])), (a_lnk, .inl (cI, 64, .inl ln_k)), (a_lnp, .inl (cI, 64, .inl ln_p)), (a_lnf, .inl (cI, 64, .inl ln_f)), (a_lns, .inl (cI, 64, .inl ln_s)), (a_lnn, .inl (cL, 4000, .inr (.inl ln_n))), (a_rd, .inr (3, [.ref a_tk, .ref a_ln, .int rd_f, .int rd_p])), (a_tk, .inr (2, [.ref a_tpb, .int tk_e, .int tk_s, .int tk_p, .int tk_h, .long tk_v, .int tk_f])), (a_pr, .inr (4, [.ref a_pp, .ref a_ln]))]) hP hD hS hA [] [0, 1, 2, 3, 4, 5, 6, 7, 8, 9, 10, 11, 12, 13] [0, 1, 2, 3, 4, 5, 6, 7, 8, 9, 10, 11, 12, 13] (kRunS (rest := []) C ev_ok hE hA hP hD hS [] rfl rfl rfl (c_X5_valueOf hr_2) (va_cwS 1 ht (gS kw_415 kw_416 kw_1 kw_417) rfl rfl rfl (by decide +kernel) ⟨Nat.le_of_ble_eq_true rfl, Nat.le_of_ble_eq_true rfl⟩) rfl hl.1 rfl (Nat.le_of_ble_eq_true rfl) dX5_number_9 ⟨Nat.le_of_ble_eq_true rfl, Nat.le_of_ble_eq_true rfl⟩) rfl rfl rfl (by decide) rfl rfl rfl (fun H locs hP hD hS => ?_)
  obtain rfl := Option.some.inj h
  exact kRet_l C hP hD hS dX5_number_12
set_option maxHeartbeats 4000000 in
set_option maxRecDepth 100000 in
theorem c_X5_print {l : Launch} {D : va_G} {cB cI cL : ClassId} {a_xx a_tp a_tpb a_pp a_ppb a_ln a_lnk a_lnp a_lnf a_lns a_lnn a_rd a_tk a_pr : Nat} {xx_e : Int32} {tp_c : Int32} {tp_o : Int32} {tp_b : Nat → Int32} {pp_c : Int32} {pp_o : Int32} {pp_b : Nat → Int32} {ln_c : Int32} {ln_m : Int32} {ln_k : Nat → Int32} {ln_p : Nat → Int32} {ln_f : Nat → Int32} {ln_s : Nat → Int32} {ln_n : Nat → Int64} {rd_f : Int32} {rd_p : Int32} {tk_e : Int32} {tk_s : Int32} {tk_p : Int32} {tk_h : Int32} {tk_v : Int64} {tk_f : Int32} {p0 : Int32} {res : Int32} (h : m_X5_print pp_c ln_c p0 = some res) : KMet l (⟨"LinkText", "print", "(I)I"⟩ : MethodName) (.code (⟨"LinkText", "print", "(I)I"⟩ : MethodName) prog_1_method_8_code 3 (some .int) :: k_tbl) ({ frames := 1, cells := 0, slots := 0, locals := 21 } : Room) (ev D cB cI cL) D vwCl [.ref a_xx, .int p0] [(a_xx, .inr (5, [.ref a_tp, .ref a_pp, .ref a_ln, .ref a_rd, .ref a_pr, .int xx_e])), (a_tp, .inr (0, [.ref a_tpb, .int tp_c, .int tp_o])), (a_tpb, .inl (cB, 4000, .inl tp_b)), (a_pp, .inr (0, [.ref a_ppb, .int pp_c, .int pp_o])), (a_ppb, .inl (cB, 4000, .inl pp_b)), (a_ln, .inr (1, [.ref a_lnk, .ref a_lnp, .ref a_lnf, .ref a_lns, .ref a_lnn, .int ln_c, .int ln_m])), (a_lnk, .inl (cI, 64, .inl ln_k)), (a_lnp, .inl (cI, 64, .inl ln_p)), (a_lnf, .inl (cI, 64, .inl ln_f)), (a_lns, .inl (cI, 64, .inl ln_s)), (a_lnn, .inl (cL, 4000, .inr (.inl ln_n))), (a_rd, .inr (3, [.ref a_tk, .ref a_ln, .int rd_f, .int rd_p])), (a_tk, .inr (2, [.ref a_tpb, .int tk_e, .int tk_s, .int tk_p, .int tk_h, .long tk_v, .int tk_f])), (a_pr, .inr (4, [.ref a_pp, .ref a_ln]))] (kQi D vwCl [(a_xx, .inr (5, [.ref a_tp, .ref a_pp, .ref a_ln, .ref a_rd, .ref a_pr, .int xx_e])), (a_tp, .inr (0, [.ref a_tpb, .int tp_c, .int tp_o])), (a_tpb, .inl (cB, 4000, .inl tp_b)), (a_pp, .inr (0, [.ref a_ppb, .int pp_c, .int pp_o])), (a_ppb, .inl (cB, 4000, .inl pp_b)), (a_ln, .inr (1, [.ref a_lnk, .ref a_lnp, .ref a_lnf, .ref a_lns, .ref a_lnn, .int ln_c, .int ln_m])), (a_lnk, .inl (cI, 64, .inl ln_k)), (a_lnp, .inl (cI, 64, .inl ln_p)), (a_lnf, .inl (cI, 64, .inl ln_f)), (a_lns, .inl (cI, 64, .inl ln_s)), (a_lnn, .inl (cL, 4000, .inr (.inl ln_n))), (a_rd, .inr (3, [.ref a_tk, .ref a_ln, .int rd_f, .int rd_p])), (a_tk, .inr (2, [.ref a_tpb, .int tk_e, .int tk_s, .int tk_p, .int tk_h, .long tk_v, .int tk_f])), (a_pr, .inr (4, [.ref a_pp, .ref a_ln]))] res) := by
  unfold m_X5_print at h
  refine kMet (cc := prog_1_method_8_code) (mL := 3) (ret := (some .int)) (own := "LinkText") (by decide) rfl rfl (Nat.le_of_ble_eq_true rfl) ?_
  intro p e s m below meth c A C hnm hE hA hP hD ls hl
  generalize ([.ref a_xx, .int p0] : List Value).toArray = args at C ⊢
  obtain ⟨hx, hb, hr, hml, hown, hts, hlocks⟩ := id C
  have ht : ∀ w ∈ k_tbl, w.before args s = true := fun w h => hts w (List.mem_cons_of_mem _ h)
  have hS : va_S A s.heap s.heap [] := va_S.rf
  have hl : lv_has ls 3 [(0, .ref a_xx), (1, .int p0)] := hl
  refine lv_aload_n hx hb dX5_print_0 rfl (lv_at hl 0 rfl) ?_
  refine va_get (D := D) (ci := 5) (v := .ref a_ln) (C := RX5) (T := TX5) (N := 6) hx hb ht inX5 hown hE.1 hP 0 rfl rfl 2 (by decide) (ht _ kw_141) (fun _ h9 => h9) rfl dX5_print_1 ?_
  refine lv_iload_n hx hb dX5_print_4 rfl (lv_at hl 1 rfl) ?_
  obtain ⟨r_1, hr_1, h⟩ := o_b_s h
  refine kCi (w' := [(a_xx, .inr (5, [.ref a_tp, .ref a_pp, .ref a_ln, .ref a_rd, .ref a_pr, .int xx_e])), (a_tp, .inr (0, [.ref a_tpb, .int tp_c, .int tp_o])), (a_tpb, .inl (cB, 4000, .inl tp_b)), (a_pp, .inr (0, [.ref a_ppb, .int pp_c, .int pp_o])), (a_ppb, .inl (cB, 4000, .inl pp_b)), (a_ln, .inr (1, [.ref a_lnk, .ref a_lnp, .ref a_lnf, .ref a_lns, .ref a_lnn, .int ln_c, .int ln_m])), (a_lnk, .inl (cI, 64, .inl ln_k)), (a_lnp, .inl (cI, 64, .inl ln_p)), (a_lnf, .inl (cI, 64, .inl ln_f)), (a_lns, .inl (cI, 64, .inl ln_s)), (a_lnn, .inl (cL, 4000, .inr (.inl ln_n))), (a_rd, .inr (3, [.ref a_tk, .ref a_ln, .int rd_f, .int rd_p])), (a_tk, .inr (2, [.ref a_tpb, .int tk_e, .int tk_s, .int tk_p, .int tk_h, .long tk_v, .int tk_f])), (a_pr, .inr (4, [.ref a_pp, .ref a_ln]))]) hP hD hS hA [5, 6, 7, 8, 9, 10] [0, 1, 2, 3, 4, 11, 12, 13] [0, 1, 2, 3, 4, 8, 9, 10, 11, 12, 13, 5, 6, 7] (kRunV (rest := []) C ev_ok hE hA hP hD hS [5, 6, 7, 8, 9, 10] rfl rfl rfl (c_X1_has hr_1) hE.1 0 1 rfl rfl (cwV 1 ht (gV kw_389 kw_390 kw_391 kw_3 kw_392) rfl rfl rfl (by decide +kernel) ⟨Nat.le_of_ble_eq_true rfl, Nat.le_of_ble_eq_true rfl⟩) rfl hl.1 rfl (Nat.le_of_ble_eq_true rfl) dX5_print_5 ⟨Nat.le_of_ble_eq_true rfl, Nat.le_of_ble_eq_true rfl⟩) rfl rfl rfl (by decide) rfl rfl rfl (fun H locs hP hD hS => ?_)
  refine lv_if_ne (tgt := 13) hx hb dX5_print_8 (by decide) (fun c_2 => ?_) (fun c_2 => ?_)
  · replace h := o_f c_2 h
    refine lv_aload_n hx hb dX5_print_13 rfl (lv_at hl 0 rfl) ?_
    refine va_get (D := D) (ci := 5) (v := .ref a_pp) (C := RX5) (T := TX5) (N := 6) hx hb ht inX5 hown hE.1 hP 0 rfl rfl 1 (by decide) (ht _ kw_140) (fun _ h9 => h9) rfl dX5_print_14 ?_
    refine va_getN (D := D) (ci := 0) (v := .int pp_c) (C := RX0) (T := TX0) (N := 3) (host := "LinkText") hx hb ht inX0 hown hE.1 hP 3 rfl rfl 1 (by decide) (va_Nw.use rfl (hE.2.2 _ kw_31 rfl)) (fun _ h9 => h9) rfl dX5_print_17 ?_
    refine lv_istore_n (lv' := [(2, .int pp_c), (0, .ref a_xx), (1, .int p0)]) hx hb dX5_print_20 rfl hl (by decide) rfl (fun ls hl => ?_)
    refine lv_aload_n hx hb dX5_print_21 rfl (lv_at hl 1 rfl) ?_
    refine va_get (D := D) (ci := 5) (v := .ref a_pr) (C := RX5) (T := TX5) (N := 6) hx hb ht inX5 hown hE.1 hP 0 rfl rfl 4 (by decide) (ht _ kw_143) (fun _ h9 => h9) rfl dX5_print_22 ?_
    refine lv_iload_n hx hb dX5_print_25 rfl (lv_at hl 2 rfl) ?_
    cases h
  · replace h := o_t c_2 h
    refine lv_iconst (v := -1) hx hb dX5_print_11 (by decide) ?_
    obtain rfl := Option.some.inj h
    exact kRet_i C hP hD hS dX5_print_12
set_option maxHeartbeats 4000000 in
set_option maxRecDepth 100000 in
theorem c_X5_printed {l : Launch} {D : va_G} {cB cI cL : ClassId} {a_xx a_tp a_tpb a_pp a_ppb a_ln a_lnk a_lnp a_lnf a_lns a_lnn a_rd a_tk a_pr : Nat} {xx_e : Int32} {tp_c : Int32} {tp_o : Int32} {tp_b : Nat → Int32} {pp_c : Int32} {pp_o : Int32} {pp_b : Nat → Int32} {ln_c : Int32} {ln_m : Int32} {ln_k : Nat → Int32} {ln_p : Nat → Int32} {ln_f : Nat → Int32} {ln_s : Nat → Int32} {ln_n : Nat → Int64} {rd_f : Int32} {rd_p : Int32} {tk_e : Int32} {tk_s : Int32} {tk_p : Int32} {tk_h : Int32} {tk_v : Int64} {tk_f : Int32} {p0 : Int32} {res : Int32} (h : m_X5_printed pp_c pp_b p0 = some res) : KMet l (⟨"LinkText", "printed", "(I)I"⟩ : MethodName) (.code (⟨"LinkText", "printed", "(I)I"⟩ : MethodName) prog_1_method_9_code 2 (some .int) :: k_tbl) ({ frames := 1, cells := 0, slots := 0, locals := 21 } : Room) (ev D cB cI cL) D vwCl [.ref a_xx, .int p0] [(a_xx, .inr (5, [.ref a_tp, .ref a_pp, .ref a_ln, .ref a_rd, .ref a_pr, .int xx_e])), (a_tp, .inr (0, [.ref a_tpb, .int tp_c, .int tp_o])), (a_tpb, .inl (cB, 4000, .inl tp_b)), (a_pp, .inr (0, [.ref a_ppb, .int pp_c, .int pp_o])), (a_ppb, .inl (cB, 4000, .inl pp_b)), (a_ln, .inr (1, [.ref a_lnk, .ref a_lnp, .ref a_lnf, .ref a_lns, .ref a_lnn, .int ln_c, .int ln_m])), (a_lnk, .inl (cI, 64, .inl ln_k)), (a_lnp, .inl (cI, 64, .inl ln_p)), (a_lnf, .inl (cI, 64, .inl ln_f)), (a_lns, .inl (cI, 64, .inl ln_s)), (a_lnn, .inl (cL, 4000, .inr (.inl ln_n))), (a_rd, .inr (3, [.ref a_tk, .ref a_ln, .int rd_f, .int rd_p])), (a_tk, .inr (2, [.ref a_tpb, .int tk_e, .int tk_s, .int tk_p, .int tk_h, .long tk_v, .int tk_f])), (a_pr, .inr (4, [.ref a_pp, .ref a_ln]))] (kQi D vwCl [(a_xx, .inr (5, [.ref a_tp, .ref a_pp, .ref a_ln, .ref a_rd, .ref a_pr, .int xx_e])), (a_tp, .inr (0, [.ref a_tpb, .int tp_c, .int tp_o])), (a_tpb, .inl (cB, 4000, .inl tp_b)), (a_pp, .inr (0, [.ref a_ppb, .int pp_c, .int pp_o])), (a_ppb, .inl (cB, 4000, .inl pp_b)), (a_ln, .inr (1, [.ref a_lnk, .ref a_lnp, .ref a_lnf, .ref a_lns, .ref a_lnn, .int ln_c, .int ln_m])), (a_lnk, .inl (cI, 64, .inl ln_k)), (a_lnp, .inl (cI, 64, .inl ln_p)), (a_lnf, .inl (cI, 64, .inl ln_f)), (a_lns, .inl (cI, 64, .inl ln_s)), (a_lnn, .inl (cL, 4000, .inr (.inl ln_n))), (a_rd, .inr (3, [.ref a_tk, .ref a_ln, .int rd_f, .int rd_p])), (a_tk, .inr (2, [.ref a_tpb, .int tk_e, .int tk_s, .int tk_p, .int tk_h, .long tk_v, .int tk_f])), (a_pr, .inr (4, [.ref a_pp, .ref a_ln]))] res) := by
  unfold m_X5_printed at h
  refine kMet (cc := prog_1_method_9_code) (mL := 2) (ret := (some .int)) (own := "LinkText") (by decide) rfl rfl (Nat.le_of_ble_eq_true rfl) ?_
  intro p e s m below meth c A C hnm hE hA hP hD ls hl
  generalize ([.ref a_xx, .int p0] : List Value).toArray = args at C ⊢
  obtain ⟨hx, hb, hr, hml, hown, hts, hlocks⟩ := id C
  have ht : ∀ w ∈ k_tbl, w.before args s = true := fun w h => hts w (List.mem_cons_of_mem _ h)
  have hS : va_S A s.heap s.heap [] := va_S.rf
  have hl : lv_has ls 2 [(0, .ref a_xx), (1, .int p0)] := hl
  refine lv_aload_n hx hb dX5_printed_0 rfl (lv_at hl 0 rfl) ?_
  refine va_get (D := D) (ci := 5) (v := .ref a_pp) (C := RX5) (T := TX5) (N := 6) hx hb ht inX5 hown hE.1 hP 0 rfl rfl 1 (by decide) (ht _ kw_140) (fun _ h9 => h9) rfl dX5_printed_1 ?_
  refine lv_iload_n hx hb dX5_printed_4 rfl (lv_at hl 1 rfl) ?_
  obtain ⟨r_1, hr_1, h⟩ := o_b_s h
  refine kCi (w' := [(a_xx, .inr (5, [.ref a_tp, .ref a_pp, .ref a_ln, .ref a_rd, .ref a_pr, .int xx_e])), (a_tp, .inr (0, [.ref a_tpb, .int tp_c, .int tp_o])), (a_tpb, .inl (cB, 4000, .inl tp_b)), (a_pp, .inr (0, [.ref a_ppb, .int pp_c, .int pp_o])), (a_ppb, .inl (cB, 4000, .inl pp_b)), (a_ln, .inr (1, [.ref a_lnk, .ref a_lnp, .ref a_lnf, .ref a_lns, .ref a_lnn, .int ln_c, .int ln_m])), (a_lnk, .inl (cI, 64, .inl ln_k)), (a_lnp, .inl (cI, 64, .inl ln_p)), (a_lnf, .inl (cI, 64, .inl ln_f)), (a_lns, .inl (cI, 64, .inl ln_s)), (a_lnn, .inl (cL, 4000, .inr (.inl ln_n))), (a_rd, .inr (3, [.ref a_tk, .ref a_ln, .int rd_f, .int rd_p])), (a_tk, .inr (2, [.ref a_tpb, .int tk_e, .int tk_s, .int tk_p, .int tk_h, .long tk_v, .int tk_f])), (a_pr, .inr (4, [.ref a_pp, .ref a_ln]))]) hP hD hS hA [3, 4] [0, 1, 2, 5, 6, 7, 8, 9, 10, 11, 12, 13] [0, 1, 2, 12, 13, 3, 4, 5, 6, 7, 8, 9, 10, 11] (kRunV (rest := []) C ev_ok hE hA hP hD hS [3, 4] rfl rfl rfl (c_X0_byteAt hr_1) hE.1 0 0 rfl rfl (cwV 1 ht (gV kw_493 kw_494 kw_495 kw_2 kw_496) rfl rfl rfl (by decide +kernel) ⟨Nat.le_of_ble_eq_true rfl, Nat.le_of_ble_eq_true rfl⟩) rfl hl.1 rfl (Nat.le_of_ble_eq_true rfl) dX5_printed_5 ⟨Nat.le_of_ble_eq_true rfl, Nat.le_of_ble_eq_true rfl⟩) rfl rfl rfl (by decide) rfl rfl rfl (fun H locs hP hD hS => ?_)
  obtain rfl := Option.some.inj h
  exact kRet_i C hP hD hS dX5_printed_8
set_option maxHeartbeats 4000000 in
set_option maxRecDepth 100000 in
theorem k_X5_wipe_J23 {l : Launch} {p : Program} {e : Env} {s : State} {m : MethodId} {args : Array Value} {below : List Frame} {meth : Method} {c : Code} {A : Nat → Prop} {D : va_G} {cB cI cL : ClassId} {a_xx a_tp a_tpb a_pp a_ppb a_ln a_lnk a_lnp a_lnf a_lns a_lnn a_rd a_tk a_pr : Nat} {xx_e : Int32} {ln_c : Int32} {ln_m : Int32} {ln_k : Nat → Int32} {ln_p : Nat → Int32} {ln_f : Nat → Int32} {ln_s : Nat → Int32} {ln_n : Nat → Int64} {rd_f : Int32} {rd_p : Int32} {tk_e : Int32} {tk_s : Int32} {tk_p : Int32} {tk_h : Int32} {tk_v : Int64} {tk_f : Int32} {res : Int32 × Int32 × Int32 × (Nat → Int32) × Int32 × Int32} (C : kx p s m args meth c prog_1_method_10_code 3 (some .int) "LinkText" (.code (⟨"LinkText", "wipe", "(Z)I"⟩ : MethodName) prog_1_method_10_code 3 (some .int) :: k_tbl)) (hE : ev D cB cI cL A s) (hA : ∀ q : Nat, s.heap.size ≤ q → A q) :
    ∀ (tp_c : Int32) (tp_o : Int32) (tp_b : Nat → Int32) (pp_c : Int32) (pp_o : Int32) (pp_b : Nat → Int32) (x2 : Int32) (H : Heap) (locs : List Loc) (ls : Array Slot), va_P D vwCl [(a_xx, .inr (5, [.ref a_tp, .ref a_pp, .ref a_ln, .ref a_rd, .ref a_pr, .int xx_e])), (a_tp, .inr (0, [.ref a_tpb, .int tp_c, .int tp_o])), (a_tpb, .inl (cB, 4000, .inl tp_b)), (a_pp, .inr (0, [.ref a_ppb, .int pp_c, .int pp_o])), (a_ppb, .inl (cB, 4000, .inl pp_b)), (a_ln, .inr (1, [.ref a_lnk, .ref a_lnp, .ref a_lnf, .ref a_lns, .ref a_lnn, .int ln_c, .int ln_m])), (a_lnk, .inl (cI, 64, .inl ln_k)), (a_lnp, .inl (cI, 64, .inl ln_p)), (a_lnf, .inl (cI, 64, .inl ln_f)), (a_lns, .inl (cI, 64, .inl ln_s)), (a_lnn, .inl (cL, 4000, .inr (.inl ln_n))), (a_rd, .inr (3, [.ref a_tk, .ref a_ln, .int rd_f, .int rd_p])), (a_tk, .inr (2, [.ref a_tpb, .int tk_e, .int tk_s, .int tk_p, .int tk_h, .long tk_v, .int tk_f])), (a_pr, .inr (4, [.ref a_pp, .ref a_ln]))] H → va_D A [(a_xx, .inr (5, [.ref a_tp, .ref a_pp, .ref a_ln, .ref a_rd, .ref a_pr, .int xx_e])), (a_tp, .inr (0, [.ref a_tpb, .int tp_c, .int tp_o])), (a_tpb, .inl (cB, 4000, .inl tp_b)), (a_pp, .inr (0, [.ref a_ppb, .int pp_c, .int pp_o])), (a_ppb, .inl (cB, 4000, .inl pp_b)), (a_ln, .inr (1, [.ref a_lnk, .ref a_lnp, .ref a_lnf, .ref a_lns, .ref a_lnn, .int ln_c, .int ln_m])), (a_lnk, .inl (cI, 64, .inl ln_k)), (a_lnp, .inl (cI, 64, .inl ln_p)), (a_lnf, .inl (cI, 64, .inl ln_f)), (a_lns, .inl (cI, 64, .inl ln_s)), (a_lnn, .inl (cL, 4000, .inr (.inl ln_n))), (a_rd, .inr (3, [.ref a_tk, .ref a_ln, .int rd_f, .int rd_p])), (a_tk, .inr (2, [.ref a_tpb, .int tk_e, .int tk_s, .int tk_p, .int tk_h, .long tk_v, .int tk_f])), (a_pr, .inr (4, [.ref a_pp, .ref a_ln]))] → va_S A s.heap H locs → lv_has ls 3 [(0, .ref a_xx), (2, .int x2)] → m_X5_wipe_J23  tp_c tp_o tp_b pp_c pp_o pp_b x2 = some res → W p l e ({ frames := 2, cells := 0, slots := 0, locals := 61 } : Room) s m args below meth c H locs 0 0 (MQ below (kQi D vwCl [(a_xx, .inr (5, [.ref a_tp, .ref a_pp, .ref a_ln, .ref a_rd, .ref a_pr, .int xx_e])), (a_tp, .inr (0, [.ref a_tpb, .int res.2.1, .int res.2.2.1])), (a_tpb, .inl (cB, 4000, .inl res.2.2.2.1)), (a_pp, .inr (0, [.ref a_ppb, .int res.2.2.2.2.1, .int res.2.2.2.2.2])), (a_ppb, .inl (cB, 4000, .inl pp_b)), (a_ln, .inr (1, [.ref a_lnk, .ref a_lnp, .ref a_lnf, .ref a_lns, .ref a_lnn, .int ln_c, .int ln_m])), (a_lnk, .inl (cI, 64, .inl ln_k)), (a_lnp, .inl (cI, 64, .inl ln_p)), (a_lnf, .inl (cI, 64, .inl ln_f)), (a_lns, .inl (cI, 64, .inl ln_s)), (a_lnn, .inl (cL, 4000, .inr (.inl ln_n))), (a_rd, .inr (3, [.ref a_tk, .ref a_ln, .int rd_f, .int rd_p])), (a_tk, .inr (2, [.ref a_tpb, .int tk_e, .int tk_s, .int tk_p, .int tk_h, .long tk_v, .int tk_f])), (a_pr, .inr (4, [.ref a_pp, .ref a_ln]))] res.1 A) args s 0 0 A) (F0 m 23 ls []) := by
  obtain ⟨hx, hb, hr, hml, hown, hts, hlocks⟩ := id C
  have ht : ∀ w ∈ k_tbl, w.before args s = true := fun w h => hts w (List.mem_cons_of_mem _ h)
  intro tp_c tp_o tp_b pp_c pp_o pp_b x2 H locs ls hP hD hS hl h
  unfold m_X5_wipe_J23 at h
  refine lv_aload_n hx hb dX5_wipe_23 rfl (lv_at hl 0 rfl) ?_
  refine va_get (D := D) (ci := 5) (v := .ref a_pp) (C := RX5) (T := TX5) (N := 6) hx hb ht inX5 hown hE.1 hP 0 rfl rfl 1 (by decide) (ht _ kw_140) (fun _ h9 => h9) rfl dX5_wipe_24 ?_
  refine lv_iconst (v := 0) hx hb dX5_wipe_27 (by decide) ?_
  obtain ⟨r_1, hr_1, h⟩ := o_b_s h
  refine kCv (w' := [(a_xx, .inr (5, [.ref a_tp, .ref a_pp, .ref a_ln, .ref a_rd, .ref a_pr, .int xx_e])), (a_tp, .inr (0, [.ref a_tpb, .int tp_c, .int tp_o])), (a_tpb, .inl (cB, 4000, .inl tp_b)), (a_pp, .inr (0, [.ref a_ppb, .int r_1.1, .int r_1.2])), (a_ppb, .inl (cB, 4000, .inl pp_b)), (a_ln, .inr (1, [.ref a_lnk, .ref a_lnp, .ref a_lnf, .ref a_lns, .ref a_lnn, .int ln_c, .int ln_m])), (a_lnk, .inl (cI, 64, .inl ln_k)), (a_lnp, .inl (cI, 64, .inl ln_p)), (a_lnf, .inl (cI, 64, .inl ln_f)), (a_lns, .inl (cI, 64, .inl ln_s)), (a_lnn, .inl (cL, 4000, .inr (.inl ln_n))), (a_rd, .inr (3, [.ref a_tk, .ref a_ln, .int rd_f, .int rd_p])), (a_tk, .inr (2, [.ref a_tpb, .int tk_e, .int tk_s, .int tk_p, .int tk_h, .long tk_v, .int tk_f])), (a_pr, .inr (4, [.ref a_pp, .ref a_ln]))]) hP hD hS hA [3, 4] [0, 1, 2, 5, 6, 7, 8, 9, 10, 11, 12, 13] [0, 1, 2, 12, 13, 3, 4, 5, 6, 7, 8, 9, 10, 11] (kRunV (rest := []) C ev_ok hE hA hP hD hS [3, 4] rfl rfl rfl (c_X0_cutTo hr_1) hE.1 0 0 rfl rfl (cwV 1 ht (gV kw_376 kw_377 kw_378 kw_2 kw_379) rfl rfl rfl (by decide +kernel) ⟨Nat.le_of_ble_eq_true rfl, Nat.le_of_ble_eq_true rfl⟩) rfl hl.1 rfl (Nat.le_of_ble_eq_true rfl) dX5_wipe_28 ⟨Nat.le_of_ble_eq_true rfl, Nat.le_of_ble_eq_true rfl⟩) rfl rfl rfl (by decide) rfl rfl rfl (fun H locs hP hD hS => ?_)
  refine lv_iload_n hx hb dX5_wipe_31 rfl (lv_at hl 1 rfl) ?_
  obtain rfl := Option.some.inj h
  exact kRet_i C hP hD hS dX5_wipe_32
set_option maxHeartbeats 4000000 in
set_option maxRecDepth 100000 in
theorem c_X5_wipe {l : Launch} {D : va_G} {cB cI cL : ClassId} {a_xx a_tp a_tpb a_pp a_ppb a_ln a_lnk a_lnp a_lnf a_lns a_lnn a_rd a_tk a_pr : Nat} {xx_e : Int32} {tp_c : Int32} {tp_o : Int32} {tp_b : Nat → Int32} {pp_c : Int32} {pp_o : Int32} {pp_b : Nat → Int32} {ln_c : Int32} {ln_m : Int32} {ln_k : Nat → Int32} {ln_p : Nat → Int32} {ln_f : Nat → Int32} {ln_s : Nat → Int32} {ln_n : Nat → Int64} {rd_f : Int32} {rd_p : Int32} {tk_e : Int32} {tk_s : Int32} {tk_p : Int32} {tk_h : Int32} {tk_v : Int64} {tk_f : Int32} {p0 : Int32} {res : Int32 × Int32 × Int32 × (Nat → Int32) × Int32 × Int32} (h : m_X5_wipe tp_c tp_o tp_b pp_c pp_o pp_b p0 = some res) : KMet l (⟨"LinkText", "wipe", "(Z)I"⟩ : MethodName) (.code (⟨"LinkText", "wipe", "(Z)I"⟩ : MethodName) prog_1_method_10_code 3 (some .int) :: k_tbl) ({ frames := 2, cells := 0, slots := 0, locals := 61 } : Room) (ev D cB cI cL) D vwCl [.ref a_xx, .int p0] [(a_xx, .inr (5, [.ref a_tp, .ref a_pp, .ref a_ln, .ref a_rd, .ref a_pr, .int xx_e])), (a_tp, .inr (0, [.ref a_tpb, .int tp_c, .int tp_o])), (a_tpb, .inl (cB, 4000, .inl tp_b)), (a_pp, .inr (0, [.ref a_ppb, .int pp_c, .int pp_o])), (a_ppb, .inl (cB, 4000, .inl pp_b)), (a_ln, .inr (1, [.ref a_lnk, .ref a_lnp, .ref a_lnf, .ref a_lns, .ref a_lnn, .int ln_c, .int ln_m])), (a_lnk, .inl (cI, 64, .inl ln_k)), (a_lnp, .inl (cI, 64, .inl ln_p)), (a_lnf, .inl (cI, 64, .inl ln_f)), (a_lns, .inl (cI, 64, .inl ln_s)), (a_lnn, .inl (cL, 4000, .inr (.inl ln_n))), (a_rd, .inr (3, [.ref a_tk, .ref a_ln, .int rd_f, .int rd_p])), (a_tk, .inr (2, [.ref a_tpb, .int tk_e, .int tk_s, .int tk_p, .int tk_h, .long tk_v, .int tk_f])), (a_pr, .inr (4, [.ref a_pp, .ref a_ln]))] (kQi D vwCl [(a_xx, .inr (5, [.ref a_tp, .ref a_pp, .ref a_ln, .ref a_rd, .ref a_pr, .int xx_e])), (a_tp, .inr (0, [.ref a_tpb, .int res.2.1, .int res.2.2.1])), (a_tpb, .inl (cB, 4000, .inl res.2.2.2.1)), (a_pp, .inr (0, [.ref a_ppb, .int res.2.2.2.2.1, .int res.2.2.2.2.2])), (a_ppb, .inl (cB, 4000, .inl pp_b)), (a_ln, .inr (1, [.ref a_lnk, .ref a_lnp, .ref a_lnf, .ref a_lns, .ref a_lnn, .int ln_c, .int ln_m])), (a_lnk, .inl (cI, 64, .inl ln_k)), (a_lnp, .inl (cI, 64, .inl ln_p)), (a_lnf, .inl (cI, 64, .inl ln_f)), (a_lns, .inl (cI, 64, .inl ln_s)), (a_lnn, .inl (cL, 4000, .inr (.inl ln_n))), (a_rd, .inr (3, [.ref a_tk, .ref a_ln, .int rd_f, .int rd_p])), (a_tk, .inr (2, [.ref a_tpb, .int tk_e, .int tk_s, .int tk_p, .int tk_h, .long tk_v, .int tk_f])), (a_pr, .inr (4, [.ref a_pp, .ref a_ln]))] res.1) := by
  unfold m_X5_wipe at h
  refine kMet (cc := prog_1_method_10_code) (mL := 3) (ret := (some .int)) (own := "LinkText") (by decide) rfl rfl (Nat.le_of_ble_eq_true rfl) ?_
  intro p e s m below meth c A C hnm hE hA hP hD ls hl
  generalize ([.ref a_xx, .int p0] : List Value).toArray = args at C ⊢
  obtain ⟨hx, hb, hr, hml, hown, hts, hlocks⟩ := id C
  have ht : ∀ w ∈ k_tbl, w.before args s = true := fun w h => hts w (List.mem_cons_of_mem _ h)
  have hS : va_S A s.heap s.heap [] := va_S.rf
  have hl : lv_has ls 3 [(0, .ref a_xx), (1, .int p0)] := hl
  refine lv_aload_n hx hb dX5_wipe_0 rfl (lv_at hl 0 rfl) ?_
  refine va_get (D := D) (ci := 5) (v := .ref a_pp) (C := RX5) (T := TX5) (N := 6) hx hb ht inX5 hown hE.1 hP 0 rfl rfl 1 (by decide) (ht _ kw_140) (fun _ h9 => h9) rfl dX5_wipe_1 ?_
  refine va_getN (D := D) (ci := 0) (v := .int pp_c) (C := RX0) (T := TX0) (N := 3) (host := "LinkText") hx hb ht inX0 hown hE.1 hP 3 rfl rfl 1 (by decide) (va_Nw.use rfl (hE.2.2 _ kw_31 rfl)) (fun _ h9 => h9) rfl dX5_wipe_4 ?_
  refine lv_istore_n (lv' := [(2, .int pp_c), (0, .ref a_xx), (1, .int p0)]) hx hb dX5_wipe_7 rfl hl (by decide) rfl (fun ls hl => ?_)
  refine lv_iload_n hx hb dX5_wipe_8 rfl (lv_at hl 2 rfl) ?_
  refine lv_if_eq (tgt := 23) hx hb dX5_wipe_9 (by decide) (fun c_2 => ?_) (fun c_2 => ?_)
  · replace h := o_t c_2 h
    exact k_X5_wipe_J23 C hE hA  tp_c tp_o tp_b pp_c pp_o pp_b pp_c _ _ _ hP hD hS (lv_sub hl [1, 0] rfl) h
  · replace h := o_f c_2 h
    refine lv_aload_n hx hb dX5_wipe_12 rfl (lv_at hl 1 rfl) ?_
    refine va_get (D := D) (ci := 5) (v := .ref a_tp) (C := RX5) (T := TX5) (N := 6) hx hb ht inX5 hown hE.1 hP 0 rfl rfl 0 (by decide) (ht _ kw_139) (fun _ h9 => h9) rfl dX5_wipe_13 ?_
    refine lv_aload_n hx hb dX5_wipe_16 rfl (lv_at hl 1 rfl) ?_
    refine va_get (D := D) (ci := 5) (v := .ref a_pp) (C := RX5) (T := TX5) (N := 6) hx hb ht inX5 hown hE.1 hP 0 rfl rfl 1 (by decide) (ht _ kw_140) (fun _ h9 => h9) rfl dX5_wipe_17 ?_
    obtain ⟨r_3, hr_3, h⟩ := o_b_s h
    refine kCv (w' := [(a_xx, .inr (5, [.ref a_tp, .ref a_pp, .ref a_ln, .ref a_rd, .ref a_pr, .int xx_e])), (a_tp, .inr (0, [.ref a_tpb, .int r_3.1, .int r_3.2.1])), (a_tpb, .inl (cB, 4000, .inl r_3.2.2)), (a_pp, .inr (0, [.ref a_ppb, .int pp_c, .int pp_o])), (a_ppb, .inl (cB, 4000, .inl pp_b)), (a_ln, .inr (1, [.ref a_lnk, .ref a_lnp, .ref a_lnf, .ref a_lns, .ref a_lnn, .int ln_c, .int ln_m])), (a_lnk, .inl (cI, 64, .inl ln_k)), (a_lnp, .inl (cI, 64, .inl ln_p)), (a_lnf, .inl (cI, 64, .inl ln_f)), (a_lns, .inl (cI, 64, .inl ln_s)), (a_lnn, .inl (cL, 4000, .inr (.inl ln_n))), (a_rd, .inr (3, [.ref a_tk, .ref a_ln, .int rd_f, .int rd_p])), (a_tk, .inr (2, [.ref a_tpb, .int tk_e, .int tk_s, .int tk_p, .int tk_h, .long tk_v, .int tk_f])), (a_pr, .inr (4, [.ref a_pp, .ref a_ln]))]) hP hD hS hA [1, 2, 3, 4] [0, 5, 6, 7, 8, 9, 10, 11, 12, 13] [0, 10, 11, 12, 13, 1, 2, 3, 4, 5, 6, 7, 8, 9] (kRunV (rest := []) C ev_ok hE hA hP hD hS [1, 2, 3, 4] rfl rfl rfl (c_X0_copy hr_3) hE.1 0 0 rfl rfl (cwV 1 ht (gV kw_501 kw_502 kw_503 kw_2 kw_504) rfl rfl rfl (by decide +kernel) ⟨Nat.le_of_ble_eq_true rfl, Nat.le_of_ble_eq_true rfl⟩) rfl hl.1 rfl (Nat.le_of_ble_eq_true rfl) dX5_wipe_20 ⟨Nat.le_of_ble_eq_true rfl, Nat.le_of_ble_eq_true rfl⟩) rfl rfl rfl (by decide) rfl rfl rfl (fun H locs hP hD hS => ?_)
    exact k_X5_wipe_J23 C hE hA  r_3.1 r_3.2.1 r_3.2.2 pp_c pp_o pp_b pp_c _ _ _ hP hD hS (lv_sub hl [1, 0] rfl) h
end
section
set_option maxHeartbeats 4000000 in
set_option maxRecDepth 100000 in
theorem k_X6_put_L3 {l : Launch} {p : Program} {e : Env} {s : State} {m : MethodId} {args : Array Value} {below : List Frame} {meth : Method} {c : Code} {A : Nat → Prop} {D : va_G} {cB cI cL : ClassId} {a_mo a_motape a_mokind a_mofirst a_mocount a_mobegins a_monumbers a_moout a_mofresh a_modigits : Nat} {mo_thrown : Int32} {mo_fault : Int32} {mo_place : Int32} {mo_lines : Int32} {mo_used : Int32} {mo_state : Int32} {mo_at : Int32} {mo_many : Int32} {mo_labels : Int32} {mo_sign : Int32} {mo_value : Int64} {mo_from : Int32} {mo_to : Int32} {mo_printed : Int32} {mo_written : Int32} {mo_over : Int32} {mo_kindA : Nat → Int32} {mo_firstA : Nat → Int32} {mo_countA : Nat → Int32} {mo_beginsA : Nat → Int32} {mo_numbersA : Nat → Int64} {mo_outA : Nat → Int32} {mo_freshA : Nat → Int32} {mo_digitsA : Nat → Int32} {res : Int32 × (Nat → Int32)} (C : kx p s m args meth c prog_8_method_4_code 3 none "LinkTextModel" (.code (⟨"LinkTextModel", "put", "(I)V"⟩ : MethodName) prog_8_method_4_code 3 none :: k_tbl)) (hE : ev D cB cI cL A s) (hA : ∀ q : Nat, s.heap.size ≤ q → A q) :
    ∀ (n : Nat) (mo_taped : Int32) (mo_tapeA : Nat → Int32) (x1 : Int32) (x2 : Int32) (H : Heap) (locs : List Loc) (ls : Array Slot), va_P D vwCl [(a_mo, .inr (6, [.int mo_thrown, .ref a_motape, .int mo_taped, .int mo_fault, .int mo_place, .int mo_lines, .ref a_mokind, .ref a_mofirst, .ref a_mocount, .ref a_mobegins, .ref a_monumbers, .int mo_used, .int mo_state, .int mo_at, .int mo_many, .int mo_labels, .int mo_sign, .long mo_value, .int mo_from, .int mo_to, .ref a_moout, .int mo_printed, .ref a_mofresh, .int mo_written, .int mo_over, .ref a_modigits])), (a_motape, .inl (cI, 4000, .inl mo_tapeA)), (a_mokind, .inl (cI, 64, .inl mo_kindA)), (a_mofirst, .inl (cI, 64, .inl mo_firstA)), (a_mocount, .inl (cI, 64, .inl mo_countA)), (a_mobegins, .inl (cI, 64, .inl mo_beginsA)), (a_monumbers, .inl (cL, 4200, .inr (.inl mo_numbersA))), (a_moout, .inl (cI, 4000, .inl mo_outA)), (a_mofresh, .inl (cI, 4000, .inl mo_freshA)), (a_modigits, .inl (cI, 20, .inl mo_digitsA))] H → va_D A [(a_mo, .inr (6, [.int mo_thrown, .ref a_motape, .int mo_taped, .int mo_fault, .int mo_place, .int mo_lines, .ref a_mokind, .ref a_mofirst, .ref a_mocount, .ref a_mobegins, .ref a_monumbers, .int mo_used, .int mo_state, .int mo_at, .int mo_many, .int mo_labels, .int mo_sign, .long mo_value, .int mo_from, .int mo_to, .ref a_moout, .int mo_printed, .ref a_mofresh, .int mo_written, .int mo_over, .ref a_modigits])), (a_motape, .inl (cI, 4000, .inl mo_tapeA)), (a_mokind, .inl (cI, 64, .inl mo_kindA)), (a_mofirst, .inl (cI, 64, .inl mo_firstA)), (a_mocount, .inl (cI, 64, .inl mo_countA)), (a_mobegins, .inl (cI, 64, .inl mo_beginsA)), (a_monumbers, .inl (cL, 4200, .inr (.inl mo_numbersA))), (a_moout, .inl (cI, 4000, .inl mo_outA)), (a_mofresh, .inl (cI, 4000, .inl mo_freshA)), (a_modigits, .inl (cI, 20, .inl mo_digitsA))] → va_S A s.heap H locs → lv_has ls 3 [(0, .ref a_mo), (1, .int x1), (2, .int x2)] → m_X6_put_L3  n mo_taped mo_tapeA x1 x2 = some res → W p l e ({ frames := 0, cells := 0, slots := 0, locals := 0 } : Room) s m args below meth c H locs 0 0 (MQ below (kQv D vwCl [(a_mo, .inr (6, [.int mo_thrown, .ref a_motape, .int res.1, .int mo_fault, .int mo_place, .int mo_lines, .ref a_mokind, .ref a_mofirst, .ref a_mocount, .ref a_mobegins, .ref a_monumbers, .int mo_used, .int mo_state, .int mo_at, .int mo_many, .int mo_labels, .int mo_sign, .long mo_value, .int mo_from, .int mo_to, .ref a_moout, .int mo_printed, .ref a_mofresh, .int mo_written, .int mo_over, .ref a_modigits])), (a_motape, .inl (cI, 4000, .inl res.2)), (a_mokind, .inl (cI, 64, .inl mo_kindA)), (a_mofirst, .inl (cI, 64, .inl mo_firstA)), (a_mocount, .inl (cI, 64, .inl mo_countA)), (a_mobegins, .inl (cI, 64, .inl mo_beginsA)), (a_monumbers, .inl (cL, 4200, .inr (.inl mo_numbersA))), (a_moout, .inl (cI, 4000, .inl mo_outA)), (a_mofresh, .inl (cI, 4000, .inl mo_freshA)), (a_modigits, .inl (cI, 20, .inl mo_digitsA))] A) args s 0 0 A) (F0 m 3 ls []) := by
  obtain ⟨hx, hb, hr, hml, hown, hts, hlocks⟩ := id C
  have ht : ∀ w ∈ k_tbl, w.before args s = true := fun w h => hts w (List.mem_cons_of_mem _ h)
  intro n
  induction n with
  | zero =>
    intro _ _ _ _ _ _ _ _ _ _ _ h
    cases h
  | succ n ih =>
    intro mo_taped mo_tapeA x1 x2 H locs ls hP hD hS hl h
    rw [m_X6_put_L3] at h
    refine lv_iload_n hx hb dX6_put_3 rfl (lv_at hl 2 rfl) ?_
    refine lv_if_lt (tgt := 39) hx hb dX6_put_4 (by decide) (fun c_1 => ?_) (fun c_1 => ?_)
    · replace h := o_t c_1 h
      obtain rfl := Option.some.inj h
      exact kRet_v C hP hD hS dX6_put_39
    · replace h := o_f c_1 h
      refine lv_aload_n hx hb dX6_put_7 rfl (lv_at hl 0 rfl) ?_
      refine va_get (D := D) (ci := 6) (v := .ref a_motape) (C := RX6) (T := TX6) (N := 26) hx hb ht inX6 hown hE.1 hP 0 rfl rfl 1 (by decide) (ht _ kw_515) (fun _ h9 => h9) rfl dX6_put_8 ?_
      refine lv_aload_n hx hb dX6_put_11 rfl (lv_at hl 0 rfl) ?_
      refine va_get (D := D) (ci := 6) (v := .int mo_taped) (C := RX6) (T := TX6) (N := 26) hx hb ht inX6 hown hE.1 hP 0 rfl rfl 2 (by decide) (ht _ kw_516) (fun _ h9 => h9) rfl dX6_put_12 ?_
      refine lv_iload_n hx hb dX6_put_15 rfl (lv_at hl 1 rfl) ?_
      refine lv_iload_n hx hb dX6_put_16 rfl (lv_at hl 2 rfl) ?_
      refine lv_ishr hx hb dX6_put_17 ?_
      refine lv_topi (fun t_2 et_2 => ?_)
      replace h := o_let_s et_2 h
      refine lv_sipush (v := 255) hx hb dX6_put_18 (by decide) ?_
      refine lv_iand hx hb dX6_put_21 ?_
      refine lv_topi (fun t_3 et_3 => ?_)
      replace h := o_let_s et_3 h
      obtain ⟨hz_4, h⟩ := o_in_s h
      obtain ⟨f_5, ef_5⟩ : ∃ y, y = upd mo_tapeA mo_taped.toNatClampNeg t_3 := ⟨_, rfl⟩
      replace h := o_let_s ef_5 h
      refine va_iast hx hb hE.1 hP hD hS 1 1 rfl rfl hz_4 dX6_put_22 (fun H locs hP hD hS => ?_)
      rw [← ef_5] at hP hD
      have hP : va_P D vwCl [(a_mo, .inr (6, [.int mo_thrown, .ref a_motape, .int mo_taped, .int mo_fault, .int mo_place, .int mo_lines, .ref a_mokind, .ref a_mofirst, .ref a_mocount, .ref a_mobegins, .ref a_monumbers, .int mo_used, .int mo_state, .int mo_at, .int mo_many, .int mo_labels, .int mo_sign, .long mo_value, .int mo_from, .int mo_to, .ref a_moout, .int mo_printed, .ref a_mofresh, .int mo_written, .int mo_over, .ref a_modigits])), (a_motape, .inl (cI, 4000, .inl f_5)), (a_mokind, .inl (cI, 64, .inl mo_kindA)), (a_mofirst, .inl (cI, 64, .inl mo_firstA)), (a_mocount, .inl (cI, 64, .inl mo_countA)), (a_mobegins, .inl (cI, 64, .inl mo_beginsA)), (a_monumbers, .inl (cL, 4200, .inr (.inl mo_numbersA))), (a_moout, .inl (cI, 4000, .inl mo_outA)), (a_mofresh, .inl (cI, 4000, .inl mo_freshA)), (a_modigits, .inl (cI, 20, .inl mo_digitsA))] H := hP
      have hD : va_D A [(a_mo, .inr (6, [.int mo_thrown, .ref a_motape, .int mo_taped, .int mo_fault, .int mo_place, .int mo_lines, .ref a_mokind, .ref a_mofirst, .ref a_mocount, .ref a_mobegins, .ref a_monumbers, .int mo_used, .int mo_state, .int mo_at, .int mo_many, .int mo_labels, .int mo_sign, .long mo_value, .int mo_from, .int mo_to, .ref a_moout, .int mo_printed, .ref a_mofresh, .int mo_written, .int mo_over, .ref a_modigits])), (a_motape, .inl (cI, 4000, .inl f_5)), (a_mokind, .inl (cI, 64, .inl mo_kindA)), (a_mofirst, .inl (cI, 64, .inl mo_firstA)), (a_mocount, .inl (cI, 64, .inl mo_countA)), (a_mobegins, .inl (cI, 64, .inl mo_beginsA)), (a_monumbers, .inl (cL, 4200, .inr (.inl mo_numbersA))), (a_moout, .inl (cI, 4000, .inl mo_outA)), (a_mofresh, .inl (cI, 4000, .inl mo_freshA)), (a_modigits, .inl (cI, 20, .inl mo_digitsA))] := hD
      refine lv_aload_n hx hb dX6_put_23 rfl (lv_at hl 0 rfl) ?_
      refine lv_dup hx hb dX6_put_24 rfl ?_
      refine va_get (D := D) (ci := 6) (v := .int mo_taped) (C := RX6) (T := TX6) (N := 26) hx hb ht inX6 hown hE.1 hP 0 rfl rfl 2 (by decide) (ht _ kw_516) (fun _ h9 => h9) rfl dX6_put_25 ?_
      refine lv_iconst (v := 1) hx hb dX6_put_28 (by decide) ?_
      refine lv_iadd hx hb dX6_put_29 ?_
      refine lv_topi (fun t_6 et_6 => ?_)
      replace h := o_let_s et_6 h
      refine va_put (D := D) (ci := 6) (v := .int t_6) (ty := .int) (C := RX6) (T := TX6) (N := 26) hx hb ht inX6 tyX6 tyX6_ok nmX6 hown hE.1 hP hD hS 0 rfl rfl 2 (by decide) (ht _ kw_516) (fun _ h9 => h9) rfl (by decide +kernel) rfl rfl (Nat.le_of_ble_eq_true rfl) dX6_put_30 (fun H locs hP hD hS => ?_)
      have hP : va_P D vwCl [(a_mo, .inr (6, [.int mo_thrown, .ref a_motape, .int t_6, .int mo_fault, .int mo_place, .int mo_lines, .ref a_mokind, .ref a_mofirst, .ref a_mocount, .ref a_mobegins, .ref a_monumbers, .int mo_used, .int mo_state, .int mo_at, .int mo_many, .int mo_labels, .int mo_sign, .long mo_value, .int mo_from, .int mo_to, .ref a_moout, .int mo_printed, .ref a_mofresh, .int mo_written, .int mo_over, .ref a_modigits])), (a_motape, .inl (cI, 4000, .inl f_5)), (a_mokind, .inl (cI, 64, .inl mo_kindA)), (a_mofirst, .inl (cI, 64, .inl mo_firstA)), (a_mocount, .inl (cI, 64, .inl mo_countA)), (a_mobegins, .inl (cI, 64, .inl mo_beginsA)), (a_monumbers, .inl (cL, 4200, .inr (.inl mo_numbersA))), (a_moout, .inl (cI, 4000, .inl mo_outA)), (a_mofresh, .inl (cI, 4000, .inl mo_freshA)), (a_modigits, .inl (cI, 20, .inl mo_digitsA))] H := hP
      have hD : va_D A [(a_mo, .inr (6, [.int mo_thrown, .ref a_motape, .int t_6, .int mo_fault, .int mo_place, .int mo_lines, .ref a_mokind, .ref a_mofirst, .ref a_mocount, .ref a_mobegins, .ref a_monumbers, .int mo_used, .int mo_state, .int mo_at, .int mo_many, .int mo_labels, .int mo_sign, .long mo_value, .int mo_from, .int mo_to, .ref a_moout, .int mo_printed, .ref a_mofresh, .int mo_written, .int mo_over, .ref a_modigits])), (a_motape, .inl (cI, 4000, .inl f_5)), (a_mokind, .inl (cI, 64, .inl mo_kindA)), (a_mofirst, .inl (cI, 64, .inl mo_firstA)), (a_mocount, .inl (cI, 64, .inl mo_countA)), (a_mobegins, .inl (cI, 64, .inl mo_beginsA)), (a_monumbers, .inl (cL, 4200, .inr (.inl mo_numbersA))), (a_moout, .inl (cI, 4000, .inl mo_outA)), (a_mofresh, .inl (cI, 4000, .inl mo_freshA)), (a_modigits, .inl (cI, 20, .inl mo_digitsA))] := hD
      obtain ⟨t_7, et_7⟩ : ∃ y : Int32, y = x2 + (-8) := ⟨_, rfl⟩
      replace h := o_let_s et_7 h
      refine lv_iinc (v := t_7) (lv' := [(2, .int t_7), (0, .ref a_mo), (1, .int x1)]) hx hb dX6_put_33 hl (k := 2) rfl (by rw [et_7]; rfl) (by decide) rfl (fun ls hl => ?_)
      refine lv_goto (tgt := 3) hx hb dX6_put_36 (by decide) ?_
      exact ih t_6 f_5 x1 t_7 _ _ _ hP hD hS (lv_sub hl [1, 2, 0] rfl) h
set_option maxHeartbeats 4000000 in
set_option maxRecDepth 100000 in
theorem c_X6_put {l : Launch} {D : va_G} {cB cI cL : ClassId} {a_mo a_motape a_mokind a_mofirst a_mocount a_mobegins a_monumbers a_moout a_mofresh a_modigits : Nat} {mo_thrown : Int32} {mo_taped : Int32} {mo_fault : Int32} {mo_place : Int32} {mo_lines : Int32} {mo_used : Int32} {mo_state : Int32} {mo_at : Int32} {mo_many : Int32} {mo_labels : Int32} {mo_sign : Int32} {mo_value : Int64} {mo_from : Int32} {mo_to : Int32} {mo_printed : Int32} {mo_written : Int32} {mo_over : Int32} {mo_tapeA : Nat → Int32} {mo_kindA : Nat → Int32} {mo_firstA : Nat → Int32} {mo_countA : Nat → Int32} {mo_beginsA : Nat → Int32} {mo_numbersA : Nat → Int64} {mo_outA : Nat → Int32} {mo_freshA : Nat → Int32} {mo_digitsA : Nat → Int32} {p0 : Int32} {res : Int32 × (Nat → Int32)} (h : m_X6_put mo_taped mo_tapeA p0 = some res) : KMet l (⟨"LinkTextModel", "put", "(I)V"⟩ : MethodName) (.code (⟨"LinkTextModel", "put", "(I)V"⟩ : MethodName) prog_8_method_4_code 3 none :: k_tbl) ({ frames := 0, cells := 0, slots := 0, locals := 0 } : Room) (ev D cB cI cL) D vwCl [.ref a_mo, .int p0] [(a_mo, .inr (6, [.int mo_thrown, .ref a_motape, .int mo_taped, .int mo_fault, .int mo_place, .int mo_lines, .ref a_mokind, .ref a_mofirst, .ref a_mocount, .ref a_mobegins, .ref a_monumbers, .int mo_used, .int mo_state, .int mo_at, .int mo_many, .int mo_labels, .int mo_sign, .long mo_value, .int mo_from, .int mo_to, .ref a_moout, .int mo_printed, .ref a_mofresh, .int mo_written, .int mo_over, .ref a_modigits])), (a_motape, .inl (cI, 4000, .inl mo_tapeA)), (a_mokind, .inl (cI, 64, .inl mo_kindA)), (a_mofirst, .inl (cI, 64, .inl mo_firstA)), (a_mocount, .inl (cI, 64, .inl mo_countA)), (a_mobegins, .inl (cI, 64, .inl mo_beginsA)), (a_monumbers, .inl (cL, 4200, .inr (.inl mo_numbersA))), (a_moout, .inl (cI, 4000, .inl mo_outA)), (a_mofresh, .inl (cI, 4000, .inl mo_freshA)), (a_modigits, .inl (cI, 20, .inl mo_digitsA))] (kQv D vwCl [(a_mo, .inr (6, [.int mo_thrown, .ref a_motape, .int res.1, .int mo_fault, .int mo_place, .int mo_lines, .ref a_mokind, .ref a_mofirst, .ref a_mocount, .ref a_mobegins, .ref a_monumbers, .int mo_used, .int mo_state, .int mo_at, .int mo_many, .int mo_labels, .int mo_sign, .long mo_value, .int mo_from, .int mo_to, .ref a_moout, .int mo_printed, .ref a_mofresh, .int mo_written, .int mo_over, .ref a_modigits])), (a_motape, .inl (cI, 4000, .inl res.2)), (a_mokind, .inl (cI, 64, .inl mo_kindA)), (a_mofirst, .inl (cI, 64, .inl mo_firstA)), (a_mocount, .inl (cI, 64, .inl mo_countA)), (a_mobegins, .inl (cI, 64, .inl mo_beginsA)), (a_monumbers, .inl (cL, 4200, .inr (.inl mo_numbersA))), (a_moout, .inl (cI, 4000, .inl mo_outA)), (a_mofresh, .inl (cI, 4000, .inl mo_freshA)), (a_modigits, .inl (cI, 20, .inl mo_digitsA))]) := by
  unfold m_X6_put at h
  refine kMet (cc := prog_8_method_4_code) (mL := 3) (ret := none) (own := "LinkTextModel") (by decide) rfl rfl (Nat.le_of_ble_eq_true rfl) ?_
  intro p e s m below meth c A C hnm hE hA hP hD ls hl
  generalize ([.ref a_mo, .int p0] : List Value).toArray = args at C ⊢
  obtain ⟨hx, hb, hr, hml, hown, hts, hlocks⟩ := id C
  have ht : ∀ w ∈ k_tbl, w.before args s = true := fun w h => hts w (List.mem_cons_of_mem _ h)
  have hS : va_S A s.heap s.heap [] := va_S.rf
  have hl : lv_has ls 3 [(0, .ref a_mo), (1, .int p0)] := hl
  refine lv_bipush (v := 24) hx hb dX6_put_0 (by decide) ?_
  refine lv_istore_n (lv' := [(2, .int (24 : Int32)), (0, .ref a_mo), (1, .int p0)]) hx hb dX6_put_2 rfl hl (by decide) rfl (fun ls hl => ?_)
  exact k_X6_put_L3 C hE hA  fu mo_taped mo_tapeA p0 (24 : Int32) _ _ _ hP hD hS (lv_sub hl [1, 2, 0] rfl) h
set_option maxHeartbeats 4000000 in
set_option maxRecDepth 100000 in
theorem c_X6_feed {l : Launch} {D : va_G} {cB cI cL : ClassId} {a_mo a_motape a_mokind a_mofirst a_mocount a_mobegins a_monumbers a_moout a_mofresh a_modigits : Nat} {mo_thrown : Int32} {mo_taped : Int32} {mo_fault : Int32} {mo_place : Int32} {mo_lines : Int32} {mo_used : Int32} {mo_state : Int32} {mo_at : Int32} {mo_many : Int32} {mo_labels : Int32} {mo_sign : Int32} {mo_value : Int64} {mo_from : Int32} {mo_to : Int32} {mo_printed : Int32} {mo_written : Int32} {mo_over : Int32} {mo_tapeA : Nat → Int32} {mo_kindA : Nat → Int32} {mo_firstA : Nat → Int32} {mo_countA : Nat → Int32} {mo_beginsA : Nat → Int32} {mo_numbersA : Nat → Int64} {mo_outA : Nat → Int32} {mo_freshA : Nat → Int32} {mo_digitsA : Nat → Int32} {p0 : Int32} {p1 : Int32} {p2 : Int32} {p3 : Int32} {p4 : Int32} {res : Int32 × Int32 × (Nat → Int32)} (h : m_X6_feed mo_taped mo_tapeA p0 p1 p2 p3 p4 = some res) : KMet l (⟨"LinkTextModel", "feed", "(IIIII)I"⟩ : MethodName) (.code (⟨"LinkTextModel", "feed", "(IIIII)I"⟩ : MethodName) prog_8_method_3_code 6 (some .int) :: k_tbl) ({ frames := 1, cells := 0, slots := 0, locals := 22 } : Room) (ev D cB cI cL) D vwCl [.ref a_mo, .int p0, .int p1, .int p2, .int p3, .int p4] [(a_mo, .inr (6, [.int mo_thrown, .ref a_motape, .int mo_taped, .int mo_fault, .int mo_place, .int mo_lines, .ref a_mokind, .ref a_mofirst, .ref a_mocount, .ref a_mobegins, .ref a_monumbers, .int mo_used, .int mo_state, .int mo_at, .int mo_many, .int mo_labels, .int mo_sign, .long mo_value, .int mo_from, .int mo_to, .ref a_moout, .int mo_printed, .ref a_mofresh, .int mo_written, .int mo_over, .ref a_modigits])), (a_motape, .inl (cI, 4000, .inl mo_tapeA)), (a_mokind, .inl (cI, 64, .inl mo_kindA)), (a_mofirst, .inl (cI, 64, .inl mo_firstA)), (a_mocount, .inl (cI, 64, .inl mo_countA)), (a_mobegins, .inl (cI, 64, .inl mo_beginsA)), (a_monumbers, .inl (cL, 4200, .inr (.inl mo_numbersA))), (a_moout, .inl (cI, 4000, .inl mo_outA)), (a_mofresh, .inl (cI, 4000, .inl mo_freshA)), (a_modigits, .inl (cI, 20, .inl mo_digitsA))] (kQi D vwCl [(a_mo, .inr (6, [.int mo_thrown, .ref a_motape, .int res.2.1, .int mo_fault, .int mo_place, .int mo_lines, .ref a_mokind, .ref a_mofirst, .ref a_mocount, .ref a_mobegins, .ref a_monumbers, .int mo_used, .int mo_state, .int mo_at, .int mo_many, .int mo_labels, .int mo_sign, .long mo_value, .int mo_from, .int mo_to, .ref a_moout, .int mo_printed, .ref a_mofresh, .int mo_written, .int mo_over, .ref a_modigits])), (a_motape, .inl (cI, 4000, .inl res.2.2)), (a_mokind, .inl (cI, 64, .inl mo_kindA)), (a_mofirst, .inl (cI, 64, .inl mo_firstA)), (a_mocount, .inl (cI, 64, .inl mo_countA)), (a_mobegins, .inl (cI, 64, .inl mo_beginsA)), (a_monumbers, .inl (cL, 4200, .inr (.inl mo_numbersA))), (a_moout, .inl (cI, 4000, .inl mo_outA)), (a_mofresh, .inl (cI, 4000, .inl mo_freshA)), (a_modigits, .inl (cI, 20, .inl mo_digitsA))] res.1) := by
  unfold m_X6_feed at h
  refine kMet (cc := prog_8_method_3_code) (mL := 6) (ret := (some .int)) (own := "LinkTextModel") (by decide) rfl rfl (Nat.le_of_ble_eq_true rfl) ?_
  intro p e s m below meth c A C hnm hE hA hP hD ls hl
  generalize ([.ref a_mo, .int p0, .int p1, .int p2, .int p3, .int p4] : List Value).toArray = args at C ⊢
  obtain ⟨hx, hb, hr, hml, hown, hts, hlocks⟩ := id C
  have ht : ∀ w ∈ k_tbl, w.before args s = true := fun w h => hts w (List.mem_cons_of_mem _ h)
  have hS : va_S A s.heap s.heap [] := va_S.rf
  have hl : lv_has ls 6 [(0, .ref a_mo), (1, .int p0), (2, .int p1), (3, .int p2), (4, .int p3), (5, .int p4)] := hl
  refine lv_aload_n hx hb dX6_feed_0 rfl (lv_at hl 0 rfl) ?_
  refine va_get (D := D) (ci := 6) (v := .int mo_taped) (C := RX6) (T := TX6) (N := 26) hx hb ht inX6 hown hE.1 hP 0 rfl rfl 2 (by decide) (ht _ kw_516) (fun _ h9 => h9) rfl dX6_feed_1 ?_
  refine lv_bipush (v := 20) hx hb dX6_feed_4 (by decide) ?_
  refine lv_iadd hx hb dX6_feed_6 ?_
  refine lv_topi (fun t_1 et_1 => ?_)
  replace h := o_let_s et_1 h
  refine lv_sipush (v := 4000) hx hb dX6_feed_7 (by decide) ?_
  refine lv_icmp_le (tgt := 15) hx hb dX6_feed_10 (by decide) (fun c_2 => ?_) (fun c_2 => ?_)
  · replace h := o_t c_2 h
    refine lv_aload_n hx hb dX6_feed_15 rfl (lv_at hl 0 rfl) ?_
    refine lv_iload_n hx hb dX6_feed_16 rfl (lv_at hl 1 rfl) ?_
    obtain ⟨r_3, hr_3, h⟩ := o_b_s h
    refine kCv (w' := [(a_mo, .inr (6, [.int mo_thrown, .ref a_motape, .int r_3.1, .int mo_fault, .int mo_place, .int mo_lines, .ref a_mokind, .ref a_mofirst, .ref a_mocount, .ref a_mobegins, .ref a_monumbers, .int mo_used, .int mo_state, .int mo_at, .int mo_many, .int mo_labels, .int mo_sign, .long mo_value, .int mo_from, .int mo_to, .ref a_moout, .int mo_printed, .ref a_mofresh, .int mo_written, .int mo_over, .ref a_modigits])), (a_motape, .inl (cI, 4000, .inl r_3.2)), (a_mokind, .inl (cI, 64, .inl mo_kindA)), (a_mofirst, .inl (cI, 64, .inl mo_firstA)), (a_mocount, .inl (cI, 64, .inl mo_countA)), (a_mobegins, .inl (cI, 64, .inl mo_beginsA)), (a_monumbers, .inl (cL, 4200, .inr (.inl mo_numbersA))), (a_moout, .inl (cI, 4000, .inl mo_outA)), (a_mofresh, .inl (cI, 4000, .inl mo_freshA)), (a_modigits, .inl (cI, 20, .inl mo_digitsA))]) hP hD hS hA [0, 1, 2, 3, 4, 5, 6, 7, 8, 9] [] [0, 1, 2, 3, 4, 5, 6, 7, 8, 9] (kRunV (rest := []) C ev_ok hE hA hP hD hS [0, 1, 2, 3, 4, 5, 6, 7, 8, 9] rfl rfl rfl (c_X6_put hr_3) hE.1 0 6 rfl rfl (cwV 1 ht (gV kw_597 kw_599 kp_24 kw_7 kw_600) rfl rfl rfl (by decide +kernel) ⟨Nat.le_of_ble_eq_true rfl, Nat.le_of_ble_eq_true rfl⟩) rfl hl.1 rfl (Nat.le_of_ble_eq_true rfl) dX6_feed_17 ⟨Nat.le_of_ble_eq_true rfl, Nat.le_of_ble_eq_true rfl⟩) rfl rfl rfl (by decide) rfl rfl rfl (fun H locs hP hD hS => ?_)
    refine lv_aload_n hx hb dX6_feed_20 rfl (lv_at hl 0 rfl) ?_
    refine lv_iload_n hx hb dX6_feed_21 rfl (lv_at hl 2 rfl) ?_
    obtain ⟨r_4, hr_4, h⟩ := o_b_s h
    refine kCv (w' := [(a_mo, .inr (6, [.int mo_thrown, .ref a_motape, .int r_4.1, .int mo_fault, .int mo_place, .int mo_lines, .ref a_mokind, .ref a_mofirst, .ref a_mocount, .ref a_mobegins, .ref a_monumbers, .int mo_used, .int mo_state, .int mo_at, .int mo_many, .int mo_labels, .int mo_sign, .long mo_value, .int mo_from, .int mo_to, .ref a_moout, .int mo_printed, .ref a_mofresh, .int mo_written, .int mo_over, .ref a_modigits])), (a_motape, .inl (cI, 4000, .inl r_4.2)), (a_mokind, .inl (cI, 64, .inl mo_kindA)), (a_mofirst, .inl (cI, 64, .inl mo_firstA)), (a_mocount, .inl (cI, 64, .inl mo_countA)), (a_mobegins, .inl (cI, 64, .inl mo_beginsA)), (a_monumbers, .inl (cL, 4200, .inr (.inl mo_numbersA))), (a_moout, .inl (cI, 4000, .inl mo_outA)), (a_mofresh, .inl (cI, 4000, .inl mo_freshA)), (a_modigits, .inl (cI, 20, .inl mo_digitsA))]) hP hD hS hA [0, 1, 2, 3, 4, 5, 6, 7, 8, 9] [] [0, 1, 2, 3, 4, 5, 6, 7, 8, 9] (kRunV (rest := []) C ev_ok hE hA hP hD hS [0, 1, 2, 3, 4, 5, 6, 7, 8, 9] rfl rfl rfl (c_X6_put hr_4) hE.1 0 6 rfl rfl (cwV 1 ht (gV kw_597 kw_599 kp_24 kw_7 kw_600) rfl rfl rfl (by decide +kernel) ⟨Nat.le_of_ble_eq_true rfl, Nat.le_of_ble_eq_true rfl⟩) rfl hl.1 rfl (Nat.le_of_ble_eq_true rfl) dX6_feed_22 ⟨Nat.le_of_ble_eq_true rfl, Nat.le_of_ble_eq_true rfl⟩) rfl rfl rfl (by decide) rfl rfl rfl (fun H locs hP hD hS => ?_)
    refine lv_aload_n hx hb dX6_feed_25 rfl (lv_at hl 0 rfl) ?_
    refine lv_iload_n hx hb dX6_feed_26 rfl (lv_at hl 3 rfl) ?_
    obtain ⟨r_5, hr_5, h⟩ := o_b_s h
    refine kCv (w' := [(a_mo, .inr (6, [.int mo_thrown, .ref a_motape, .int r_5.1, .int mo_fault, .int mo_place, .int mo_lines, .ref a_mokind, .ref a_mofirst, .ref a_mocount, .ref a_mobegins, .ref a_monumbers, .int mo_used, .int mo_state, .int mo_at, .int mo_many, .int mo_labels, .int mo_sign, .long mo_value, .int mo_from, .int mo_to, .ref a_moout, .int mo_printed, .ref a_mofresh, .int mo_written, .int mo_over, .ref a_modigits])), (a_motape, .inl (cI, 4000, .inl r_5.2)), (a_mokind, .inl (cI, 64, .inl mo_kindA)), (a_mofirst, .inl (cI, 64, .inl mo_firstA)), (a_mocount, .inl (cI, 64, .inl mo_countA)), (a_mobegins, .inl (cI, 64, .inl mo_beginsA)), (a_monumbers, .inl (cL, 4200, .inr (.inl mo_numbersA))), (a_moout, .inl (cI, 4000, .inl mo_outA)), (a_mofresh, .inl (cI, 4000, .inl mo_freshA)), (a_modigits, .inl (cI, 20, .inl mo_digitsA))]) hP hD hS hA [0, 1, 2, 3, 4, 5, 6, 7, 8, 9] [] [0, 1, 2, 3, 4, 5, 6, 7, 8, 9] (kRunV (rest := []) C ev_ok hE hA hP hD hS [0, 1, 2, 3, 4, 5, 6, 7, 8, 9] rfl rfl rfl (c_X6_put hr_5) hE.1 0 6 rfl rfl (cwV 1 ht (gV kw_597 kw_599 kp_24 kw_7 kw_600) rfl rfl rfl (by decide +kernel) ⟨Nat.le_of_ble_eq_true rfl, Nat.le_of_ble_eq_true rfl⟩) rfl hl.1 rfl (Nat.le_of_ble_eq_true rfl) dX6_feed_27 ⟨Nat.le_of_ble_eq_true rfl, Nat.le_of_ble_eq_true rfl⟩) rfl rfl rfl (by decide) rfl rfl rfl (fun H locs hP hD hS => ?_)
    refine lv_aload_n hx hb dX6_feed_30 rfl (lv_at hl 0 rfl) ?_
    refine lv_iload hx hb dX6_feed_31 (lv_at hl 4 rfl) ?_
    obtain ⟨r_6, hr_6, h⟩ := o_b_s h
    refine kCv (w' := [(a_mo, .inr (6, [.int mo_thrown, .ref a_motape, .int r_6.1, .int mo_fault, .int mo_place, .int mo_lines, .ref a_mokind, .ref a_mofirst, .ref a_mocount, .ref a_mobegins, .ref a_monumbers, .int mo_used, .int mo_state, .int mo_at, .int mo_many, .int mo_labels, .int mo_sign, .long mo_value, .int mo_from, .int mo_to, .ref a_moout, .int mo_printed, .ref a_mofresh, .int mo_written, .int mo_over, .ref a_modigits])), (a_motape, .inl (cI, 4000, .inl r_6.2)), (a_mokind, .inl (cI, 64, .inl mo_kindA)), (a_mofirst, .inl (cI, 64, .inl mo_firstA)), (a_mocount, .inl (cI, 64, .inl mo_countA)), (a_mobegins, .inl (cI, 64, .inl mo_beginsA)), (a_monumbers, .inl (cL, 4200, .inr (.inl mo_numbersA))), (a_moout, .inl (cI, 4000, .inl mo_outA)), (a_mofresh, .inl (cI, 4000, .inl mo_freshA)), (a_modigits, .inl (cI, 20, .inl mo_digitsA))]) hP hD hS hA [0, 1, 2, 3, 4, 5, 6, 7, 8, 9] [] [0, 1, 2, 3, 4, 5, 6, 7, 8, 9] (kRunV (rest := []) C ev_ok hE hA hP hD hS [0, 1, 2, 3, 4, 5, 6, 7, 8, 9] rfl rfl rfl (c_X6_put hr_6) hE.1 0 6 rfl rfl (cwV 1 ht (gV kw_597 kw_599 kp_24 kw_7 kw_600) rfl rfl rfl (by decide +kernel) ⟨Nat.le_of_ble_eq_true rfl, Nat.le_of_ble_eq_true rfl⟩) rfl hl.1 rfl (Nat.le_of_ble_eq_true rfl) dX6_feed_33 ⟨Nat.le_of_ble_eq_true rfl, Nat.le_of_ble_eq_true rfl⟩) rfl rfl rfl (by decide) rfl rfl rfl (fun H locs hP hD hS => ?_)
    refine lv_aload_n hx hb dX6_feed_36 rfl (lv_at hl 0 rfl) ?_
    refine lv_iload hx hb dX6_feed_37 (lv_at hl 5 rfl) ?_
    obtain ⟨r_7, hr_7, h⟩ := o_b_s h
    refine kCv (w' := [(a_mo, .inr (6, [.int mo_thrown, .ref a_motape, .int r_7.1, .int mo_fault, .int mo_place, .int mo_lines, .ref a_mokind, .ref a_mofirst, .ref a_mocount, .ref a_mobegins, .ref a_monumbers, .int mo_used, .int mo_state, .int mo_at, .int mo_many, .int mo_labels, .int mo_sign, .long mo_value, .int mo_from, .int mo_to, .ref a_moout, .int mo_printed, .ref a_mofresh, .int mo_written, .int mo_over, .ref a_modigits])), (a_motape, .inl (cI, 4000, .inl r_7.2)), (a_mokind, .inl (cI, 64, .inl mo_kindA)), (a_mofirst, .inl (cI, 64, .inl mo_firstA)), (a_mocount, .inl (cI, 64, .inl mo_countA)), (a_mobegins, .inl (cI, 64, .inl mo_beginsA)), (a_monumbers, .inl (cL, 4200, .inr (.inl mo_numbersA))), (a_moout, .inl (cI, 4000, .inl mo_outA)), (a_mofresh, .inl (cI, 4000, .inl mo_freshA)), (a_modigits, .inl (cI, 20, .inl mo_digitsA))]) hP hD hS hA [0, 1, 2, 3, 4, 5, 6, 7, 8, 9] [] [0, 1, 2, 3, 4, 5, 6, 7, 8, 9] (kRunV (rest := []) C ev_ok hE hA hP hD hS [0, 1, 2, 3, 4, 5, 6, 7, 8, 9] rfl rfl rfl (c_X6_put hr_7) hE.1 0 6 rfl rfl (cwV 1 ht (gV kw_597 kw_599 kp_24 kw_7 kw_600) rfl rfl rfl (by decide +kernel) ⟨Nat.le_of_ble_eq_true rfl, Nat.le_of_ble_eq_true rfl⟩) rfl hl.1 rfl (Nat.le_of_ble_eq_true rfl) dX6_feed_39 ⟨Nat.le_of_ble_eq_true rfl, Nat.le_of_ble_eq_true rfl⟩) rfl rfl rfl (by decide) rfl rfl rfl (fun H locs hP hD hS => ?_)
    refine lv_aload_n hx hb dX6_feed_42 rfl (lv_at hl 0 rfl) ?_
    refine va_get (D := D) (ci := 6) (v := .int r_7.1) (C := RX6) (T := TX6) (N := 26) hx hb ht inX6 hown hE.1 hP 0 rfl rfl 2 (by decide) (ht _ kw_516) (fun _ h9 => h9) rfl dX6_feed_43 ?_
    obtain rfl := Option.some.inj h
    exact kRet_i C hP hD hS dX6_feed_46
  · replace h := o_f c_2 h
    refine lv_iconst (v := -1) hx hb dX6_feed_13 (by decide) ?_
    obtain rfl := Option.some.inj h
    exact kRet_i C hP hD hS dX6_feed_14
set_option maxHeartbeats 4000000 in
set_option maxRecDepth 100000 in
theorem c_X6_isLine {l : Launch} {D : va_G} {cB cI cL : ClassId} {a_mo a_motape a_mokind a_mofirst a_mocount a_mobegins a_monumbers a_moout a_mofresh a_modigits : Nat} {mo_thrown : Int32} {mo_taped : Int32} {mo_fault : Int32} {mo_place : Int32} {mo_lines : Int32} {mo_used : Int32} {mo_state : Int32} {mo_at : Int32} {mo_many : Int32} {mo_labels : Int32} {mo_sign : Int32} {mo_value : Int64} {mo_from : Int32} {mo_to : Int32} {mo_printed : Int32} {mo_written : Int32} {mo_over : Int32} {mo_tapeA : Nat → Int32} {mo_kindA : Nat → Int32} {mo_firstA : Nat → Int32} {mo_countA : Nat → Int32} {mo_beginsA : Nat → Int32} {mo_numbersA : Nat → Int64} {mo_outA : Nat → Int32} {mo_freshA : Nat → Int32} {mo_digitsA : Nat → Int32} {p0 : Int32} {res : Int32} (h : m_X6_isLine mo_lines p0 = some res) : KMet l (⟨"LinkTextModel", "isLine", "(I)Z"⟩ : MethodName) (.code (⟨"LinkTextModel", "isLine", "(I)Z"⟩ : MethodName) prog_8_method_32_code 2 (some .boolean) :: k_tbl) ({ frames := 0, cells := 0, slots := 0, locals := 0 } : Room) (ev D cB cI cL) D vwCl [.ref a_mo, .int p0] [(a_mo, .inr (6, [.int mo_thrown, .ref a_motape, .int mo_taped, .int mo_fault, .int mo_place, .int mo_lines, .ref a_mokind, .ref a_mofirst, .ref a_mocount, .ref a_mobegins, .ref a_monumbers, .int mo_used, .int mo_state, .int mo_at, .int mo_many, .int mo_labels, .int mo_sign, .long mo_value, .int mo_from, .int mo_to, .ref a_moout, .int mo_printed, .ref a_mofresh, .int mo_written, .int mo_over, .ref a_modigits])), (a_motape, .inl (cI, 4000, .inl mo_tapeA)), (a_mokind, .inl (cI, 64, .inl mo_kindA)), (a_mofirst, .inl (cI, 64, .inl mo_firstA)), (a_mocount, .inl (cI, 64, .inl mo_countA)), (a_mobegins, .inl (cI, 64, .inl mo_beginsA)), (a_monumbers, .inl (cL, 4200, .inr (.inl mo_numbersA))), (a_moout, .inl (cI, 4000, .inl mo_outA)), (a_mofresh, .inl (cI, 4000, .inl mo_freshA)), (a_modigits, .inl (cI, 20, .inl mo_digitsA))] (kQi D vwCl [(a_mo, .inr (6, [.int mo_thrown, .ref a_motape, .int mo_taped, .int mo_fault, .int mo_place, .int mo_lines, .ref a_mokind, .ref a_mofirst, .ref a_mocount, .ref a_mobegins, .ref a_monumbers, .int mo_used, .int mo_state, .int mo_at, .int mo_many, .int mo_labels, .int mo_sign, .long mo_value, .int mo_from, .int mo_to, .ref a_moout, .int mo_printed, .ref a_mofresh, .int mo_written, .int mo_over, .ref a_modigits])), (a_motape, .inl (cI, 4000, .inl mo_tapeA)), (a_mokind, .inl (cI, 64, .inl mo_kindA)), (a_mofirst, .inl (cI, 64, .inl mo_firstA)), (a_mocount, .inl (cI, 64, .inl mo_countA)), (a_mobegins, .inl (cI, 64, .inl mo_beginsA)), (a_monumbers, .inl (cL, 4200, .inr (.inl mo_numbersA))), (a_moout, .inl (cI, 4000, .inl mo_outA)), (a_mofresh, .inl (cI, 4000, .inl mo_freshA)), (a_modigits, .inl (cI, 20, .inl mo_digitsA))] res) := by
  unfold m_X6_isLine at h
  refine kMet (cc := prog_8_method_32_code) (mL := 2) (ret := (some .boolean)) (own := "LinkTextModel") (by decide) rfl rfl (Nat.le_of_ble_eq_true rfl) ?_
  intro p e s m below meth c A C hnm hE hA hP hD ls hl
  generalize ([.ref a_mo, .int p0] : List Value).toArray = args at C ⊢
  obtain ⟨hx, hb, hr, hml, hown, hts, hlocks⟩ := id C
  have ht : ∀ w ∈ k_tbl, w.before args s = true := fun w h => hts w (List.mem_cons_of_mem _ h)
  have hS : va_S A s.heap s.heap [] := va_S.rf
  have hl : lv_has ls 2 [(0, .ref a_mo), (1, .int p0)] := hl
  refine lv_iload_n hx hb dX6_isLine_0 rfl (lv_at hl 1 rfl) ?_
  refine lv_if_lt (tgt := 16) hx hb dX6_isLine_1 (by decide) (fun c_1 => ?_) (fun c_1 => ?_)
  · replace h := o_t c_1 h
    refine lv_iconst (v := 0) hx hb dX6_isLine_16 (by decide) ?_
    obtain rfl := Option.some.inj h
    exact kRet_z C (by decide) hP hD hS dX6_isLine_17
  · replace h := o_f c_1 h
    refine lv_iload_n hx hb dX6_isLine_4 rfl (lv_at hl 1 rfl) ?_
    refine lv_aload_n hx hb dX6_isLine_5 rfl (lv_at hl 0 rfl) ?_
    refine va_get (D := D) (ci := 6) (v := .int mo_lines) (C := RX6) (T := TX6) (N := 26) hx hb ht inX6 hown hE.1 hP 0 rfl rfl 5 (by decide) (ht _ kw_519) (fun _ h9 => h9) rfl dX6_isLine_6 ?_
    refine lv_icmp_ge (tgt := 16) hx hb dX6_isLine_9 (by decide) (fun c_2 => ?_) (fun c_2 => ?_)
    · replace h := o_t c_2 h
      refine lv_iconst (v := 0) hx hb dX6_isLine_16 (by decide) ?_
      obtain rfl := Option.some.inj h
      exact kRet_z C (by decide) hP hD hS dX6_isLine_17
    · replace h := o_f c_2 h
      refine lv_iconst (v := 1) hx hb dX6_isLine_12 (by decide) ?_
      refine lv_goto (tgt := 17) hx hb dX6_isLine_13 (by decide) ?_
      obtain rfl := Option.some.inj h
      exact kRet_z C (by decide) hP hD hS dX6_isLine_17
set_option maxHeartbeats 4000000 in
set_option maxRecDepth 100000 in
theorem c_X6_stop {l : Launch} {D : va_G} {cB cI cL : ClassId} {a_mo a_motape a_mokind a_mofirst a_mocount a_mobegins a_monumbers a_moout a_mofresh a_modigits : Nat} {mo_thrown : Int32} {mo_taped : Int32} {mo_fault : Int32} {mo_place : Int32} {mo_lines : Int32} {mo_used : Int32} {mo_state : Int32} {mo_at : Int32} {mo_many : Int32} {mo_labels : Int32} {mo_sign : Int32} {mo_value : Int64} {mo_from : Int32} {mo_to : Int32} {mo_printed : Int32} {mo_written : Int32} {mo_over : Int32} {mo_tapeA : Nat → Int32} {mo_kindA : Nat → Int32} {mo_firstA : Nat → Int32} {mo_countA : Nat → Int32} {mo_beginsA : Nat → Int32} {mo_numbersA : Nat → Int64} {mo_outA : Nat → Int32} {mo_freshA : Nat → Int32} {mo_digitsA : Nat → Int32} {p0 : Int32} {p1 : Int32} {res : Int32 × Int32} (h : m_X6_stop mo_fault mo_place p0 p1 = some res) : KMet l (⟨"LinkTextModel", "stop", "(II)V"⟩ : MethodName) (.code (⟨"LinkTextModel", "stop", "(II)V"⟩ : MethodName) prog_8_method_13_code 3 none :: k_tbl) ({ frames := 0, cells := 0, slots := 0, locals := 0 } : Room) (ev D cB cI cL) D vwCl [.ref a_mo, .int p0, .int p1] [(a_mo, .inr (6, [.int mo_thrown, .ref a_motape, .int mo_taped, .int mo_fault, .int mo_place, .int mo_lines, .ref a_mokind, .ref a_mofirst, .ref a_mocount, .ref a_mobegins, .ref a_monumbers, .int mo_used, .int mo_state, .int mo_at, .int mo_many, .int mo_labels, .int mo_sign, .long mo_value, .int mo_from, .int mo_to, .ref a_moout, .int mo_printed, .ref a_mofresh, .int mo_written, .int mo_over, .ref a_modigits])), (a_motape, .inl (cI, 4000, .inl mo_tapeA)), (a_mokind, .inl (cI, 64, .inl mo_kindA)), (a_mofirst, .inl (cI, 64, .inl mo_firstA)), (a_mocount, .inl (cI, 64, .inl mo_countA)), (a_mobegins, .inl (cI, 64, .inl mo_beginsA)), (a_monumbers, .inl (cL, 4200, .inr (.inl mo_numbersA))), (a_moout, .inl (cI, 4000, .inl mo_outA)), (a_mofresh, .inl (cI, 4000, .inl mo_freshA)), (a_modigits, .inl (cI, 20, .inl mo_digitsA))] (kQv D vwCl [(a_mo, .inr (6, [.int mo_thrown, .ref a_motape, .int mo_taped, .int res.1, .int res.2, .int mo_lines, .ref a_mokind, .ref a_mofirst, .ref a_mocount, .ref a_mobegins, .ref a_monumbers, .int mo_used, .int mo_state, .int mo_at, .int mo_many, .int mo_labels, .int mo_sign, .long mo_value, .int mo_from, .int mo_to, .ref a_moout, .int mo_printed, .ref a_mofresh, .int mo_written, .int mo_over, .ref a_modigits])), (a_motape, .inl (cI, 4000, .inl mo_tapeA)), (a_mokind, .inl (cI, 64, .inl mo_kindA)), (a_mofirst, .inl (cI, 64, .inl mo_firstA)), (a_mocount, .inl (cI, 64, .inl mo_countA)), (a_mobegins, .inl (cI, 64, .inl mo_beginsA)), (a_monumbers, .inl (cL, 4200, .inr (.inl mo_numbersA))), (a_moout, .inl (cI, 4000, .inl mo_outA)), (a_mofresh, .inl (cI, 4000, .inl mo_freshA)), (a_modigits, .inl (cI, 20, .inl mo_digitsA))]) := by
  unfold m_X6_stop at h
  refine kMet (cc := prog_8_method_13_code) (mL := 3) (ret := none) (own := "LinkTextModel") (by decide) rfl rfl (Nat.le_of_ble_eq_true rfl) ?_
  intro p e s m below meth c A C hnm hE hA hP hD ls hl
  generalize ([.ref a_mo, .int p0, .int p1] : List Value).toArray = args at C ⊢
  obtain ⟨hx, hb, hr, hml, hown, hts, hlocks⟩ := id C
  have ht : ∀ w ∈ k_tbl, w.before args s = true := fun w h => hts w (List.mem_cons_of_mem _ h)
  have hS : va_S A s.heap s.heap [] := va_S.rf
  have hl : lv_has ls 3 [(0, .ref a_mo), (1, .int p0), (2, .int p1)] := hl
  refine lv_aload_n hx hb dX6_stop_0 rfl (lv_at hl 0 rfl) ?_
  refine va_get (D := D) (ci := 6) (v := .int mo_fault) (C := RX6) (T := TX6) (N := 26) hx hb ht inX6 hown hE.1 hP 0 rfl rfl 3 (by decide) (ht _ kw_517) (fun _ h9 => h9) rfl dX6_stop_1 ?_
  refine lv_if_eq (tgt := 8) hx hb dX6_stop_4 (by decide) (fun c_1 => ?_) (fun c_1 => ?_)
  · replace h := o_t c_1 h
    refine lv_aload_n hx hb dX6_stop_8 rfl (lv_at hl 0 rfl) ?_
    refine lv_iload_n hx hb dX6_stop_9 rfl (lv_at hl 1 rfl) ?_
    refine va_put (D := D) (ci := 6) (v := .int p0) (ty := .int) (C := RX6) (T := TX6) (N := 26) hx hb ht inX6 tyX6 tyX6_ok nmX6 hown hE.1 hP hD hS 0 rfl rfl 3 (by decide) (ht _ kw_517) (fun _ h9 => h9) rfl (by decide +kernel) rfl rfl (Nat.le_of_ble_eq_true rfl) dX6_stop_10 (fun H locs hP hD hS => ?_)
    have hP : va_P D vwCl [(a_mo, .inr (6, [.int mo_thrown, .ref a_motape, .int mo_taped, .int p0, .int mo_place, .int mo_lines, .ref a_mokind, .ref a_mofirst, .ref a_mocount, .ref a_mobegins, .ref a_monumbers, .int mo_used, .int mo_state, .int mo_at, .int mo_many, .int mo_labels, .int mo_sign, .long mo_value, .int mo_from, .int mo_to, .ref a_moout, .int mo_printed, .ref a_mofresh, .int mo_written, .int mo_over, .ref a_modigits])), (a_motape, .inl (cI, 4000, .inl mo_tapeA)), (a_mokind, .inl (cI, 64, .inl mo_kindA)), (a_mofirst, .inl (cI, 64, .inl mo_firstA)), (a_mocount, .inl (cI, 64, .inl mo_countA)), (a_mobegins, .inl (cI, 64, .inl mo_beginsA)), (a_monumbers, .inl (cL, 4200, .inr (.inl mo_numbersA))), (a_moout, .inl (cI, 4000, .inl mo_outA)), (a_mofresh, .inl (cI, 4000, .inl mo_freshA)), (a_modigits, .inl (cI, 20, .inl mo_digitsA))] H := hP
    have hD : va_D A [(a_mo, .inr (6, [.int mo_thrown, .ref a_motape, .int mo_taped, .int p0, .int mo_place, .int mo_lines, .ref a_mokind, .ref a_mofirst, .ref a_mocount, .ref a_mobegins, .ref a_monumbers, .int mo_used, .int mo_state, .int mo_at, .int mo_many, .int mo_labels, .int mo_sign, .long mo_value, .int mo_from, .int mo_to, .ref a_moout, .int mo_printed, .ref a_mofresh, .int mo_written, .int mo_over, .ref a_modigits])), (a_motape, .inl (cI, 4000, .inl mo_tapeA)), (a_mokind, .inl (cI, 64, .inl mo_kindA)), (a_mofirst, .inl (cI, 64, .inl mo_firstA)), (a_mocount, .inl (cI, 64, .inl mo_countA)), (a_mobegins, .inl (cI, 64, .inl mo_beginsA)), (a_monumbers, .inl (cL, 4200, .inr (.inl mo_numbersA))), (a_moout, .inl (cI, 4000, .inl mo_outA)), (a_mofresh, .inl (cI, 4000, .inl mo_freshA)), (a_modigits, .inl (cI, 20, .inl mo_digitsA))] := hD
    refine lv_aload_n hx hb dX6_stop_13 rfl (lv_at hl 0 rfl) ?_
    refine lv_iload_n hx hb dX6_stop_14 rfl (lv_at hl 2 rfl) ?_
    refine va_put (D := D) (ci := 6) (v := .int p1) (ty := .int) (C := RX6) (T := TX6) (N := 26) hx hb ht inX6 tyX6 tyX6_ok nmX6 hown hE.1 hP hD hS 0 rfl rfl 4 (by decide) (ht _ kw_518) (fun _ h9 => h9) rfl (by decide +kernel) rfl rfl (Nat.le_of_ble_eq_true rfl) dX6_stop_15 (fun H locs hP hD hS => ?_)
    have hP : va_P D vwCl [(a_mo, .inr (6, [.int mo_thrown, .ref a_motape, .int mo_taped, .int p0, .int p1, .int mo_lines, .ref a_mokind, .ref a_mofirst, .ref a_mocount, .ref a_mobegins, .ref a_monumbers, .int mo_used, .int mo_state, .int mo_at, .int mo_many, .int mo_labels, .int mo_sign, .long mo_value, .int mo_from, .int mo_to, .ref a_moout, .int mo_printed, .ref a_mofresh, .int mo_written, .int mo_over, .ref a_modigits])), (a_motape, .inl (cI, 4000, .inl mo_tapeA)), (a_mokind, .inl (cI, 64, .inl mo_kindA)), (a_mofirst, .inl (cI, 64, .inl mo_firstA)), (a_mocount, .inl (cI, 64, .inl mo_countA)), (a_mobegins, .inl (cI, 64, .inl mo_beginsA)), (a_monumbers, .inl (cL, 4200, .inr (.inl mo_numbersA))), (a_moout, .inl (cI, 4000, .inl mo_outA)), (a_mofresh, .inl (cI, 4000, .inl mo_freshA)), (a_modigits, .inl (cI, 20, .inl mo_digitsA))] H := hP
    have hD : va_D A [(a_mo, .inr (6, [.int mo_thrown, .ref a_motape, .int mo_taped, .int p0, .int p1, .int mo_lines, .ref a_mokind, .ref a_mofirst, .ref a_mocount, .ref a_mobegins, .ref a_monumbers, .int mo_used, .int mo_state, .int mo_at, .int mo_many, .int mo_labels, .int mo_sign, .long mo_value, .int mo_from, .int mo_to, .ref a_moout, .int mo_printed, .ref a_mofresh, .int mo_written, .int mo_over, .ref a_modigits])), (a_motape, .inl (cI, 4000, .inl mo_tapeA)), (a_mokind, .inl (cI, 64, .inl mo_kindA)), (a_mofirst, .inl (cI, 64, .inl mo_firstA)), (a_mocount, .inl (cI, 64, .inl mo_countA)), (a_mobegins, .inl (cI, 64, .inl mo_beginsA)), (a_monumbers, .inl (cL, 4200, .inr (.inl mo_numbersA))), (a_moout, .inl (cI, 4000, .inl mo_outA)), (a_mofresh, .inl (cI, 4000, .inl mo_freshA)), (a_modigits, .inl (cI, 20, .inl mo_digitsA))] := hD
    obtain rfl := Option.some.inj h
    exact kRet_v C hP hD hS dX6_stop_18
  · replace h := o_f c_1 h
    obtain rfl := Option.some.inj h
    exact kRet_v C hP hD hS dX6_stop_7
set_option maxHeartbeats 4000000 in
set_option maxRecDepth 100000 in
theorem c_X6_mayEnd {l : Launch} {D : va_G} {cB cI cL : ClassId} {a_mo a_motape a_mokind a_mofirst a_mocount a_mobegins a_monumbers a_moout a_mofresh a_modigits : Nat} {mo_thrown : Int32} {mo_taped : Int32} {mo_fault : Int32} {mo_place : Int32} {mo_lines : Int32} {mo_used : Int32} {mo_state : Int32} {mo_at : Int32} {mo_many : Int32} {mo_labels : Int32} {mo_sign : Int32} {mo_value : Int64} {mo_from : Int32} {mo_to : Int32} {mo_printed : Int32} {mo_written : Int32} {mo_over : Int32} {mo_tapeA : Nat → Int32} {mo_kindA : Nat → Int32} {mo_firstA : Nat → Int32} {mo_countA : Nat → Int32} {mo_beginsA : Nat → Int32} {mo_numbersA : Nat → Int64} {mo_outA : Nat → Int32} {mo_freshA : Nat → Int32} {mo_digitsA : Nat → Int32} {res : Int32} (h : m_X6_mayEnd mo_state = some res) : KMet l (⟨"LinkTextModel", "mayEnd", "()Z"⟩ : MethodName) (.code (⟨"LinkTextModel", "mayEnd", "()Z"⟩ : MethodName) prog_8_method_17_code 1 (some .boolean) :: k_tbl) ({ frames := 0, cells := 0, slots := 0, locals := 0 } : Room) (ev D cB cI cL) D vwCl [.ref a_mo] [(a_mo, .inr (6, [.int mo_thrown, .ref a_motape, .int mo_taped, .int mo_fault, .int mo_place, .int mo_lines, .ref a_mokind, .ref a_mofirst, .ref a_mocount, .ref a_mobegins, .ref a_monumbers, .int mo_used, .int mo_state, .int mo_at, .int mo_many, .int mo_labels, .int mo_sign, .long mo_value, .int mo_from, .int mo_to, .ref a_moout, .int mo_printed, .ref a_mofresh, .int mo_written, .int mo_over, .ref a_modigits])), (a_motape, .inl (cI, 4000, .inl mo_tapeA)), (a_mokind, .inl (cI, 64, .inl mo_kindA)), (a_mofirst, .inl (cI, 64, .inl mo_firstA)), (a_mocount, .inl (cI, 64, .inl mo_countA)), (a_mobegins, .inl (cI, 64, .inl mo_beginsA)), (a_monumbers, .inl (cL, 4200, .inr (.inl mo_numbersA))), (a_moout, .inl (cI, 4000, .inl mo_outA)), (a_mofresh, .inl (cI, 4000, .inl mo_freshA)), (a_modigits, .inl (cI, 20, .inl mo_digitsA))] (kQi D vwCl [(a_mo, .inr (6, [.int mo_thrown, .ref a_motape, .int mo_taped, .int mo_fault, .int mo_place, .int mo_lines, .ref a_mokind, .ref a_mofirst, .ref a_mocount, .ref a_mobegins, .ref a_monumbers, .int mo_used, .int mo_state, .int mo_at, .int mo_many, .int mo_labels, .int mo_sign, .long mo_value, .int mo_from, .int mo_to, .ref a_moout, .int mo_printed, .ref a_mofresh, .int mo_written, .int mo_over, .ref a_modigits])), (a_motape, .inl (cI, 4000, .inl mo_tapeA)), (a_mokind, .inl (cI, 64, .inl mo_kindA)), (a_mofirst, .inl (cI, 64, .inl mo_firstA)), (a_mocount, .inl (cI, 64, .inl mo_countA)), (a_mobegins, .inl (cI, 64, .inl mo_beginsA)), (a_monumbers, .inl (cL, 4200, .inr (.inl mo_numbersA))), (a_moout, .inl (cI, 4000, .inl mo_outA)), (a_mofresh, .inl (cI, 4000, .inl mo_freshA)), (a_modigits, .inl (cI, 20, .inl mo_digitsA))] res) := by
  unfold m_X6_mayEnd at h
  refine kMet (cc := prog_8_method_17_code) (mL := 1) (ret := (some .boolean)) (own := "LinkTextModel") (by decide) rfl rfl (Nat.le_of_ble_eq_true rfl) ?_
  intro p e s m below meth c A C hnm hE hA hP hD ls hl
  generalize ([.ref a_mo] : List Value).toArray = args at C ⊢
  obtain ⟨hx, hb, hr, hml, hown, hts, hlocks⟩ := id C
  have ht : ∀ w ∈ k_tbl, w.before args s = true := fun w h => hts w (List.mem_cons_of_mem _ h)
  have hS : va_S A s.heap s.heap [] := va_S.rf
  have hl : lv_has ls 1 [(0, .ref a_mo)] := hl
  refine lv_aload_n hx hb dX6_mayEnd_0 rfl (lv_at hl 0 rfl) ?_
  refine va_get (D := D) (ci := 6) (v := .int mo_state) (C := RX6) (T := TX6) (N := 26) hx hb ht inX6 hown hE.1 hP 0 rfl rfl 12 (by decide) (ht _ kw_526) (fun _ h9 => h9) rfl dX6_mayEnd_1 ?_
  refine lv_iconst (v := 1) hx hb dX6_mayEnd_4 (by decide) ?_
  refine lv_icmp_eq (tgt := 62) hx hb dX6_mayEnd_5 (by decide) (fun c_1 => ?_) (fun c_1 => ?_)
  · replace h := o_t c_1 h
    refine lv_iconst (v := 1) hx hb dX6_mayEnd_62 (by decide) ?_
    refine lv_goto (tgt := 67) hx hb dX6_mayEnd_63 (by decide) ?_
    obtain rfl := Option.some.inj h
    exact kRet_z C (by decide) hP hD hS dX6_mayEnd_67
  · replace h := o_f c_1 h
    refine lv_aload_n hx hb dX6_mayEnd_8 rfl (lv_at hl 0 rfl) ?_
    refine va_get (D := D) (ci := 6) (v := .int mo_state) (C := RX6) (T := TX6) (N := 26) hx hb ht inX6 hown hE.1 hP 0 rfl rfl 12 (by decide) (ht _ kw_526) (fun _ h9 => h9) rfl dX6_mayEnd_9 ?_
    refine lv_bipush (v := 6) hx hb dX6_mayEnd_12 (by decide) ?_
    refine lv_icmp_eq (tgt := 62) hx hb dX6_mayEnd_14 (by decide) (fun c_2 => ?_) (fun c_2 => ?_)
    · replace h := o_t c_2 h
      refine lv_iconst (v := 1) hx hb dX6_mayEnd_62 (by decide) ?_
      refine lv_goto (tgt := 67) hx hb dX6_mayEnd_63 (by decide) ?_
      obtain rfl := Option.some.inj h
      exact kRet_z C (by decide) hP hD hS dX6_mayEnd_67
    · replace h := o_f c_2 h
      refine lv_aload_n hx hb dX6_mayEnd_17 rfl (lv_at hl 0 rfl) ?_
      refine va_get (D := D) (ci := 6) (v := .int mo_state) (C := RX6) (T := TX6) (N := 26) hx hb ht inX6 hown hE.1 hP 0 rfl rfl 12 (by decide) (ht _ kw_526) (fun _ h9 => h9) rfl dX6_mayEnd_18 ?_
      refine lv_bipush (v := 8) hx hb dX6_mayEnd_21 (by decide) ?_
      refine lv_icmp_eq (tgt := 62) hx hb dX6_mayEnd_23 (by decide) (fun c_3 => ?_) (fun c_3 => ?_)
      · replace h := o_t c_3 h
        refine lv_iconst (v := 1) hx hb dX6_mayEnd_62 (by decide) ?_
        refine lv_goto (tgt := 67) hx hb dX6_mayEnd_63 (by decide) ?_
        obtain rfl := Option.some.inj h
        exact kRet_z C (by decide) hP hD hS dX6_mayEnd_67
      · replace h := o_f c_3 h
        refine lv_aload_n hx hb dX6_mayEnd_26 rfl (lv_at hl 0 rfl) ?_
        refine va_get (D := D) (ci := 6) (v := .int mo_state) (C := RX6) (T := TX6) (N := 26) hx hb ht inX6 hown hE.1 hP 0 rfl rfl 12 (by decide) (ht _ kw_526) (fun _ h9 => h9) rfl dX6_mayEnd_27 ?_
        refine lv_bipush (v := 19) hx hb dX6_mayEnd_30 (by decide) ?_
        refine lv_icmp_eq (tgt := 62) hx hb dX6_mayEnd_32 (by decide) (fun c_4 => ?_) (fun c_4 => ?_)
        · replace h := o_t c_4 h
          refine lv_iconst (v := 1) hx hb dX6_mayEnd_62 (by decide) ?_
          refine lv_goto (tgt := 67) hx hb dX6_mayEnd_63 (by decide) ?_
          obtain rfl := Option.some.inj h
          exact kRet_z C (by decide) hP hD hS dX6_mayEnd_67
        · replace h := o_f c_4 h
          refine lv_aload_n hx hb dX6_mayEnd_35 rfl (lv_at hl 0 rfl) ?_
          refine va_get (D := D) (ci := 6) (v := .int mo_state) (C := RX6) (T := TX6) (N := 26) hx hb ht inX6 hown hE.1 hP 0 rfl rfl 12 (by decide) (ht _ kw_526) (fun _ h9 => h9) rfl dX6_mayEnd_36 ?_
          refine lv_bipush (v := 22) hx hb dX6_mayEnd_39 (by decide) ?_
          refine lv_icmp_eq (tgt := 62) hx hb dX6_mayEnd_41 (by decide) (fun c_5 => ?_) (fun c_5 => ?_)
          · replace h := o_t c_5 h
            refine lv_iconst (v := 1) hx hb dX6_mayEnd_62 (by decide) ?_
            refine lv_goto (tgt := 67) hx hb dX6_mayEnd_63 (by decide) ?_
            obtain rfl := Option.some.inj h
            exact kRet_z C (by decide) hP hD hS dX6_mayEnd_67
          · replace h := o_f c_5 h
            refine lv_aload_n hx hb dX6_mayEnd_44 rfl (lv_at hl 0 rfl) ?_
            refine va_get (D := D) (ci := 6) (v := .int mo_state) (C := RX6) (T := TX6) (N := 26) hx hb ht inX6 hown hE.1 hP 0 rfl rfl 12 (by decide) (ht _ kw_526) (fun _ h9 => h9) rfl dX6_mayEnd_45 ?_
            refine lv_bipush (v := 23) hx hb dX6_mayEnd_48 (by decide) ?_
            refine lv_icmp_eq (tgt := 62) hx hb dX6_mayEnd_50 (by decide) (fun c_6 => ?_) (fun c_6 => ?_)
            · replace h := o_t c_6 h
              refine lv_iconst (v := 1) hx hb dX6_mayEnd_62 (by decide) ?_
              refine lv_goto (tgt := 67) hx hb dX6_mayEnd_63 (by decide) ?_
              obtain rfl := Option.some.inj h
              exact kRet_z C (by decide) hP hD hS dX6_mayEnd_67
            · replace h := o_f c_6 h
              refine lv_aload_n hx hb dX6_mayEnd_53 rfl (lv_at hl 0 rfl) ?_
              refine va_get (D := D) (ci := 6) (v := .int mo_state) (C := RX6) (T := TX6) (N := 26) hx hb ht inX6 hown hE.1 hP 0 rfl rfl 12 (by decide) (ht _ kw_526) (fun _ h9 => h9) rfl dX6_mayEnd_54 ?_
              refine lv_bipush (v := 26) hx hb dX6_mayEnd_57 (by decide) ?_
              refine lv_icmp_ne (tgt := 66) hx hb dX6_mayEnd_59 (by decide) (fun c_7 => ?_) (fun c_7 => ?_)
              · replace h := o_f c_7 h
                refine lv_iconst (v := 0) hx hb dX6_mayEnd_66 (by decide) ?_
                obtain rfl := Option.some.inj h
                exact kRet_z C (by decide) hP hD hS dX6_mayEnd_67
              · replace h := o_t c_7 h
                refine lv_iconst (v := 1) hx hb dX6_mayEnd_62 (by decide) ?_
                refine lv_goto (tgt := 67) hx hb dX6_mayEnd_63 (by decide) ?_
                obtain rfl := Option.some.inj h
                exact kRet_z C (by decide) hP hD hS dX6_mayEnd_67
set_option maxHeartbeats 4000000 in
set_option maxRecDepth 100000 in
theorem k_X6_finish_J84 {l : Launch} {p : Program} {e : Env} {s : State} {m : MethodId} {args : Array Value} {below : List Frame} {meth : Method} {c : Code} {A : Nat → Prop} {D : va_G} {cB cI cL : ClassId} {a_mo a_motape a_mokind a_mofirst a_mocount a_mobegins a_monumbers a_moout a_mofresh a_modigits : Nat} {mo_thrown : Int32} {mo_taped : Int32} {mo_used : Int32} {mo_at : Int32} {mo_many : Int32} {mo_labels : Int32} {mo_sign : Int32} {mo_value : Int64} {mo_from : Int32} {mo_to : Int32} {mo_printed : Int32} {mo_written : Int32} {mo_over : Int32} {mo_tapeA : Nat → Int32} {mo_firstA : Nat → Int32} {mo_countA : Nat → Int32} {mo_beginsA : Nat → Int32} {mo_numbersA : Nat → Int64} {mo_outA : Nat → Int32} {mo_freshA : Nat → Int32} {mo_digitsA : Nat → Int32} {res : Int32 × Int32 × Int32 × Int32} (C : kx p s m args meth c prog_8_method_18_code 2 none "LinkTextModel" (.code (⟨"LinkTextModel", "finish", "(I)V"⟩ : MethodName) prog_8_method_18_code 2 none :: k_tbl)) (hE : ev D cB cI cL A s) (hA : ∀ q : Nat, s.heap.size ≤ q → A q) :
    ∀ (mo_fault : Int32) (mo_place : Int32) (mo_lines : Int32) (mo_state : Int32) (mo_kindA : Nat → Int32) (H : Heap) (locs : List Loc) (ls : Array Slot), va_P D vwCl [(a_mo, .inr (6, [.int mo_thrown, .ref a_motape, .int mo_taped, .int mo_fault, .int mo_place, .int mo_lines, .ref a_mokind, .ref a_mofirst, .ref a_mocount, .ref a_mobegins, .ref a_monumbers, .int mo_used, .int mo_state, .int mo_at, .int mo_many, .int mo_labels, .int mo_sign, .long mo_value, .int mo_from, .int mo_to, .ref a_moout, .int mo_printed, .ref a_mofresh, .int mo_written, .int mo_over, .ref a_modigits])), (a_motape, .inl (cI, 4000, .inl mo_tapeA)), (a_mokind, .inl (cI, 64, .inl mo_kindA)), (a_mofirst, .inl (cI, 64, .inl mo_firstA)), (a_mocount, .inl (cI, 64, .inl mo_countA)), (a_mobegins, .inl (cI, 64, .inl mo_beginsA)), (a_monumbers, .inl (cL, 4200, .inr (.inl mo_numbersA))), (a_moout, .inl (cI, 4000, .inl mo_outA)), (a_mofresh, .inl (cI, 4000, .inl mo_freshA)), (a_modigits, .inl (cI, 20, .inl mo_digitsA))] H → va_D A [(a_mo, .inr (6, [.int mo_thrown, .ref a_motape, .int mo_taped, .int mo_fault, .int mo_place, .int mo_lines, .ref a_mokind, .ref a_mofirst, .ref a_mocount, .ref a_mobegins, .ref a_monumbers, .int mo_used, .int mo_state, .int mo_at, .int mo_many, .int mo_labels, .int mo_sign, .long mo_value, .int mo_from, .int mo_to, .ref a_moout, .int mo_printed, .ref a_mofresh, .int mo_written, .int mo_over, .ref a_modigits])), (a_motape, .inl (cI, 4000, .inl mo_tapeA)), (a_mokind, .inl (cI, 64, .inl mo_kindA)), (a_mofirst, .inl (cI, 64, .inl mo_firstA)), (a_mocount, .inl (cI, 64, .inl mo_countA)), (a_mobegins, .inl (cI, 64, .inl mo_beginsA)), (a_monumbers, .inl (cL, 4200, .inr (.inl mo_numbersA))), (a_moout, .inl (cI, 4000, .inl mo_outA)), (a_mofresh, .inl (cI, 4000, .inl mo_freshA)), (a_modigits, .inl (cI, 20, .inl mo_digitsA))] → va_S A s.heap H locs → lv_has ls 2 [(0, .ref a_mo)] → m_X6_finish_J84  mo_fault mo_place mo_lines mo_state mo_kindA = some res → W p l e ({ frames := 1, cells := 0, slots := 0, locals := 22 } : Room) s m args below meth c H locs 0 0 (MQ below (kQv D vwCl [(a_mo, .inr (6, [.int mo_thrown, .ref a_motape, .int mo_taped, .int res.1, .int res.2.1, .int res.2.2.1, .ref a_mokind, .ref a_mofirst, .ref a_mocount, .ref a_mobegins, .ref a_monumbers, .int mo_used, .int res.2.2.2, .int mo_at, .int mo_many, .int mo_labels, .int mo_sign, .long mo_value, .int mo_from, .int mo_to, .ref a_moout, .int mo_printed, .ref a_mofresh, .int mo_written, .int mo_over, .ref a_modigits])), (a_motape, .inl (cI, 4000, .inl mo_tapeA)), (a_mokind, .inl (cI, 64, .inl mo_kindA)), (a_mofirst, .inl (cI, 64, .inl mo_firstA)), (a_mocount, .inl (cI, 64, .inl mo_countA)), (a_mobegins, .inl (cI, 64, .inl mo_beginsA)), (a_monumbers, .inl (cL, 4200, .inr (.inl mo_numbersA))), (a_moout, .inl (cI, 4000, .inl mo_outA)), (a_mofresh, .inl (cI, 4000, .inl mo_freshA)), (a_modigits, .inl (cI, 20, .inl mo_digitsA))] A) args s 0 0 A) (F0 m 84 ls []) := by
  obtain ⟨hx, hb, hr, hml, hown, hts, hlocks⟩ := id C
  have ht : ∀ w ∈ k_tbl, w.before args s = true := fun w h => hts w (List.mem_cons_of_mem _ h)
  intro mo_fault mo_place mo_lines mo_state mo_kindA H locs ls hP hD hS hl h
  unfold m_X6_finish_J84 at h
  refine lv_aload_n hx hb dX6_finish_84 rfl (lv_at hl 0 rfl) ?_
  refine lv_iconst (v := 0) hx hb dX6_finish_85 (by decide) ?_
  refine va_put (D := D) (ci := 6) (v := .int (0 : Int32)) (ty := .int) (C := RX6) (T := TX6) (N := 26) hx hb ht inX6 tyX6 tyX6_ok nmX6 hown hE.1 hP hD hS 0 rfl rfl 12 (by decide) (ht _ kw_526) (fun _ h9 => h9) rfl (by decide +kernel) rfl rfl (Nat.le_of_ble_eq_true rfl) dX6_finish_86 (fun H locs hP hD hS => ?_)
  have hP : va_P D vwCl [(a_mo, .inr (6, [.int mo_thrown, .ref a_motape, .int mo_taped, .int mo_fault, .int mo_place, .int mo_lines, .ref a_mokind, .ref a_mofirst, .ref a_mocount, .ref a_mobegins, .ref a_monumbers, .int mo_used, .int (0 : Int32), .int mo_at, .int mo_many, .int mo_labels, .int mo_sign, .long mo_value, .int mo_from, .int mo_to, .ref a_moout, .int mo_printed, .ref a_mofresh, .int mo_written, .int mo_over, .ref a_modigits])), (a_motape, .inl (cI, 4000, .inl mo_tapeA)), (a_mokind, .inl (cI, 64, .inl mo_kindA)), (a_mofirst, .inl (cI, 64, .inl mo_firstA)), (a_mocount, .inl (cI, 64, .inl mo_countA)), (a_mobegins, .inl (cI, 64, .inl mo_beginsA)), (a_monumbers, .inl (cL, 4200, .inr (.inl mo_numbersA))), (a_moout, .inl (cI, 4000, .inl mo_outA)), (a_mofresh, .inl (cI, 4000, .inl mo_freshA)), (a_modigits, .inl (cI, 20, .inl mo_digitsA))] H := hP
  have hD : va_D A [(a_mo, .inr (6, [.int mo_thrown, .ref a_motape, .int mo_taped, .int mo_fault, .int mo_place, .int mo_lines, .ref a_mokind, .ref a_mofirst, .ref a_mocount, .ref a_mobegins, .ref a_monumbers, .int mo_used, .int (0 : Int32), .int mo_at, .int mo_many, .int mo_labels, .int mo_sign, .long mo_value, .int mo_from, .int mo_to, .ref a_moout, .int mo_printed, .ref a_mofresh, .int mo_written, .int mo_over, .ref a_modigits])), (a_motape, .inl (cI, 4000, .inl mo_tapeA)), (a_mokind, .inl (cI, 64, .inl mo_kindA)), (a_mofirst, .inl (cI, 64, .inl mo_firstA)), (a_mocount, .inl (cI, 64, .inl mo_countA)), (a_mobegins, .inl (cI, 64, .inl mo_beginsA)), (a_monumbers, .inl (cL, 4200, .inr (.inl mo_numbersA))), (a_moout, .inl (cI, 4000, .inl mo_outA)), (a_mofresh, .inl (cI, 4000, .inl mo_freshA)), (a_modigits, .inl (cI, 20, .inl mo_digitsA))] := hD
  refine lv_aload_n hx hb dX6_finish_89 rfl (lv_at hl 0 rfl) ?_
  refine lv_dup hx hb dX6_finish_90 rfl ?_
  refine va_get (D := D) (ci := 6) (v := .int mo_lines) (C := RX6) (T := TX6) (N := 26) hx hb ht inX6 hown hE.1 hP 0 rfl rfl 5 (by decide) (ht _ kw_519) (fun _ h9 => h9) rfl dX6_finish_91 ?_
  refine lv_iconst (v := 1) hx hb dX6_finish_94 (by decide) ?_
  refine lv_iadd hx hb dX6_finish_95 ?_
  refine lv_topi (fun t_1 et_1 => ?_)
  replace h := o_let_s et_1 h
  refine va_put (D := D) (ci := 6) (v := .int t_1) (ty := .int) (C := RX6) (T := TX6) (N := 26) hx hb ht inX6 tyX6 tyX6_ok nmX6 hown hE.1 hP hD hS 0 rfl rfl 5 (by decide) (ht _ kw_519) (fun _ h9 => h9) rfl (by decide +kernel) rfl rfl (Nat.le_of_ble_eq_true rfl) dX6_finish_96 (fun H locs hP hD hS => ?_)
  have hP : va_P D vwCl [(a_mo, .inr (6, [.int mo_thrown, .ref a_motape, .int mo_taped, .int mo_fault, .int mo_place, .int t_1, .ref a_mokind, .ref a_mofirst, .ref a_mocount, .ref a_mobegins, .ref a_monumbers, .int mo_used, .int (0 : Int32), .int mo_at, .int mo_many, .int mo_labels, .int mo_sign, .long mo_value, .int mo_from, .int mo_to, .ref a_moout, .int mo_printed, .ref a_mofresh, .int mo_written, .int mo_over, .ref a_modigits])), (a_motape, .inl (cI, 4000, .inl mo_tapeA)), (a_mokind, .inl (cI, 64, .inl mo_kindA)), (a_mofirst, .inl (cI, 64, .inl mo_firstA)), (a_mocount, .inl (cI, 64, .inl mo_countA)), (a_mobegins, .inl (cI, 64, .inl mo_beginsA)), (a_monumbers, .inl (cL, 4200, .inr (.inl mo_numbersA))), (a_moout, .inl (cI, 4000, .inl mo_outA)), (a_mofresh, .inl (cI, 4000, .inl mo_freshA)), (a_modigits, .inl (cI, 20, .inl mo_digitsA))] H := hP
  have hD : va_D A [(a_mo, .inr (6, [.int mo_thrown, .ref a_motape, .int mo_taped, .int mo_fault, .int mo_place, .int t_1, .ref a_mokind, .ref a_mofirst, .ref a_mocount, .ref a_mobegins, .ref a_monumbers, .int mo_used, .int (0 : Int32), .int mo_at, .int mo_many, .int mo_labels, .int mo_sign, .long mo_value, .int mo_from, .int mo_to, .ref a_moout, .int mo_printed, .ref a_mofresh, .int mo_written, .int mo_over, .ref a_modigits])), (a_motape, .inl (cI, 4000, .inl mo_tapeA)), (a_mokind, .inl (cI, 64, .inl mo_kindA)), (a_mofirst, .inl (cI, 64, .inl mo_firstA)), (a_mocount, .inl (cI, 64, .inl mo_countA)), (a_mobegins, .inl (cI, 64, .inl mo_beginsA)), (a_monumbers, .inl (cL, 4200, .inr (.inl mo_numbersA))), (a_moout, .inl (cI, 4000, .inl mo_outA)), (a_mofresh, .inl (cI, 4000, .inl mo_freshA)), (a_modigits, .inl (cI, 20, .inl mo_digitsA))] := hD
  obtain rfl := Option.some.inj h
  exact kRet_v C hP hD hS dX6_finish_99
set_option maxHeartbeats 4000000 in
set_option maxRecDepth 100000 in
theorem k_X6_finish_J81 {l : Launch} {p : Program} {e : Env} {s : State} {m : MethodId} {args : Array Value} {below : List Frame} {meth : Method} {c : Code} {A : Nat → Prop} {D : va_G} {cB cI cL : ClassId} {a_mo a_motape a_mokind a_mofirst a_mocount a_mobegins a_monumbers a_moout a_mofresh a_modigits : Nat} {mo_thrown : Int32} {mo_taped : Int32} {mo_used : Int32} {mo_at : Int32} {mo_many : Int32} {mo_labels : Int32} {mo_sign : Int32} {mo_value : Int64} {mo_from : Int32} {mo_to : Int32} {mo_printed : Int32} {mo_written : Int32} {mo_over : Int32} {mo_tapeA : Nat → Int32} {mo_firstA : Nat → Int32} {mo_countA : Nat → Int32} {mo_beginsA : Nat → Int32} {mo_numbersA : Nat → Int64} {mo_outA : Nat → Int32} {mo_freshA : Nat → Int32} {mo_digitsA : Nat → Int32} {res : Int32 × Int32 × Int32 × Int32} (C : kx p s m args meth c prog_8_method_18_code 2 none "LinkTextModel" (.code (⟨"LinkTextModel", "finish", "(I)V"⟩ : MethodName) prog_8_method_18_code 2 none :: k_tbl)) (hE : ev D cB cI cL A s) (hA : ∀ q : Nat, s.heap.size ≤ q → A q) :
    ∀ (mo_fault : Int32) (mo_place : Int32) (mo_lines : Int32) (mo_state : Int32) (mo_kindA : Nat → Int32) (s0 : Int32) (H : Heap) (locs : List Loc) (ls : Array Slot), va_P D vwCl [(a_mo, .inr (6, [.int mo_thrown, .ref a_motape, .int mo_taped, .int mo_fault, .int mo_place, .int mo_lines, .ref a_mokind, .ref a_mofirst, .ref a_mocount, .ref a_mobegins, .ref a_monumbers, .int mo_used, .int mo_state, .int mo_at, .int mo_many, .int mo_labels, .int mo_sign, .long mo_value, .int mo_from, .int mo_to, .ref a_moout, .int mo_printed, .ref a_mofresh, .int mo_written, .int mo_over, .ref a_modigits])), (a_motape, .inl (cI, 4000, .inl mo_tapeA)), (a_mokind, .inl (cI, 64, .inl mo_kindA)), (a_mofirst, .inl (cI, 64, .inl mo_firstA)), (a_mocount, .inl (cI, 64, .inl mo_countA)), (a_mobegins, .inl (cI, 64, .inl mo_beginsA)), (a_monumbers, .inl (cL, 4200, .inr (.inl mo_numbersA))), (a_moout, .inl (cI, 4000, .inl mo_outA)), (a_mofresh, .inl (cI, 4000, .inl mo_freshA)), (a_modigits, .inl (cI, 20, .inl mo_digitsA))] H → va_D A [(a_mo, .inr (6, [.int mo_thrown, .ref a_motape, .int mo_taped, .int mo_fault, .int mo_place, .int mo_lines, .ref a_mokind, .ref a_mofirst, .ref a_mocount, .ref a_mobegins, .ref a_monumbers, .int mo_used, .int mo_state, .int mo_at, .int mo_many, .int mo_labels, .int mo_sign, .long mo_value, .int mo_from, .int mo_to, .ref a_moout, .int mo_printed, .ref a_mofresh, .int mo_written, .int mo_over, .ref a_modigits])), (a_motape, .inl (cI, 4000, .inl mo_tapeA)), (a_mokind, .inl (cI, 64, .inl mo_kindA)), (a_mofirst, .inl (cI, 64, .inl mo_firstA)), (a_mocount, .inl (cI, 64, .inl mo_countA)), (a_mobegins, .inl (cI, 64, .inl mo_beginsA)), (a_monumbers, .inl (cL, 4200, .inr (.inl mo_numbersA))), (a_moout, .inl (cI, 4000, .inl mo_outA)), (a_mofresh, .inl (cI, 4000, .inl mo_freshA)), (a_modigits, .inl (cI, 20, .inl mo_digitsA))] → va_S A s.heap H locs → lv_has ls 2 [(0, .ref a_mo)] → m_X6_finish_J81  mo_fault mo_place mo_lines mo_state mo_kindA s0 = some res → W p l e ({ frames := 1, cells := 0, slots := 0, locals := 22 } : Room) s m args below meth c H locs 0 0 (MQ below (kQv D vwCl [(a_mo, .inr (6, [.int mo_thrown, .ref a_motape, .int mo_taped, .int res.1, .int res.2.1, .int res.2.2.1, .ref a_mokind, .ref a_mofirst, .ref a_mocount, .ref a_mobegins, .ref a_monumbers, .int mo_used, .int res.2.2.2, .int mo_at, .int mo_many, .int mo_labels, .int mo_sign, .long mo_value, .int mo_from, .int mo_to, .ref a_moout, .int mo_printed, .ref a_mofresh, .int mo_written, .int mo_over, .ref a_modigits])), (a_motape, .inl (cI, 4000, .inl mo_tapeA)), (a_mokind, .inl (cI, 64, .inl mo_kindA)), (a_mofirst, .inl (cI, 64, .inl mo_firstA)), (a_mocount, .inl (cI, 64, .inl mo_countA)), (a_mobegins, .inl (cI, 64, .inl mo_beginsA)), (a_monumbers, .inl (cL, 4200, .inr (.inl mo_numbersA))), (a_moout, .inl (cI, 4000, .inl mo_outA)), (a_mofresh, .inl (cI, 4000, .inl mo_freshA)), (a_modigits, .inl (cI, 20, .inl mo_digitsA))] A) args s 0 0 A) (F0 m 81 ls [.int s0, .ref a_mo]) := by
  obtain ⟨hx, hb, hr, hml, hown, hts, hlocks⟩ := id C
  have ht : ∀ w ∈ k_tbl, w.before args s = true := fun w h => hts w (List.mem_cons_of_mem _ h)
  intro mo_fault mo_place mo_lines mo_state mo_kindA s0 H locs ls hP hD hS hl h
  unfold m_X6_finish_J81 at h
  cases h
set_option maxHeartbeats 4000000 in
set_option maxRecDepth 100000 in
theorem k_X6_finish_J66 {l : Launch} {p : Program} {e : Env} {s : State} {m : MethodId} {args : Array Value} {below : List Frame} {meth : Method} {c : Code} {A : Nat → Prop} {D : va_G} {cB cI cL : ClassId} {a_mo a_motape a_mokind a_mofirst a_mocount a_mobegins a_monumbers a_moout a_mofresh a_modigits : Nat} {mo_thrown : Int32} {mo_taped : Int32} {mo_used : Int32} {mo_at : Int32} {mo_many : Int32} {mo_labels : Int32} {mo_sign : Int32} {mo_value : Int64} {mo_from : Int32} {mo_to : Int32} {mo_printed : Int32} {mo_written : Int32} {mo_over : Int32} {mo_tapeA : Nat → Int32} {mo_firstA : Nat → Int32} {mo_countA : Nat → Int32} {mo_beginsA : Nat → Int32} {mo_numbersA : Nat → Int64} {mo_outA : Nat → Int32} {mo_freshA : Nat → Int32} {mo_digitsA : Nat → Int32} {res : Int32 × Int32 × Int32 × Int32} (C : kx p s m args meth c prog_8_method_18_code 2 none "LinkTextModel" (.code (⟨"LinkTextModel", "finish", "(I)V"⟩ : MethodName) prog_8_method_18_code 2 none :: k_tbl)) (hE : ev D cB cI cL A s) (hA : ∀ q : Nat, s.heap.size ≤ q → A q) :
    ∀ (mo_fault : Int32) (mo_place : Int32) (mo_lines : Int32) (mo_state : Int32) (mo_kindA : Nat → Int32) (H : Heap) (locs : List Loc) (ls : Array Slot), va_P D vwCl [(a_mo, .inr (6, [.int mo_thrown, .ref a_motape, .int mo_taped, .int mo_fault, .int mo_place, .int mo_lines, .ref a_mokind, .ref a_mofirst, .ref a_mocount, .ref a_mobegins, .ref a_monumbers, .int mo_used, .int mo_state, .int mo_at, .int mo_many, .int mo_labels, .int mo_sign, .long mo_value, .int mo_from, .int mo_to, .ref a_moout, .int mo_printed, .ref a_mofresh, .int mo_written, .int mo_over, .ref a_modigits])), (a_motape, .inl (cI, 4000, .inl mo_tapeA)), (a_mokind, .inl (cI, 64, .inl mo_kindA)), (a_mofirst, .inl (cI, 64, .inl mo_firstA)), (a_mocount, .inl (cI, 64, .inl mo_countA)), (a_mobegins, .inl (cI, 64, .inl mo_beginsA)), (a_monumbers, .inl (cL, 4200, .inr (.inl mo_numbersA))), (a_moout, .inl (cI, 4000, .inl mo_outA)), (a_mofresh, .inl (cI, 4000, .inl mo_freshA)), (a_modigits, .inl (cI, 20, .inl mo_digitsA))] H → va_D A [(a_mo, .inr (6, [.int mo_thrown, .ref a_motape, .int mo_taped, .int mo_fault, .int mo_place, .int mo_lines, .ref a_mokind, .ref a_mofirst, .ref a_mocount, .ref a_mobegins, .ref a_monumbers, .int mo_used, .int mo_state, .int mo_at, .int mo_many, .int mo_labels, .int mo_sign, .long mo_value, .int mo_from, .int mo_to, .ref a_moout, .int mo_printed, .ref a_mofresh, .int mo_written, .int mo_over, .ref a_modigits])), (a_motape, .inl (cI, 4000, .inl mo_tapeA)), (a_mokind, .inl (cI, 64, .inl mo_kindA)), (a_mofirst, .inl (cI, 64, .inl mo_firstA)), (a_mocount, .inl (cI, 64, .inl mo_countA)), (a_mobegins, .inl (cI, 64, .inl mo_beginsA)), (a_monumbers, .inl (cL, 4200, .inr (.inl mo_numbersA))), (a_moout, .inl (cI, 4000, .inl mo_outA)), (a_mofresh, .inl (cI, 4000, .inl mo_freshA)), (a_modigits, .inl (cI, 20, .inl mo_digitsA))] → va_S A s.heap H locs → lv_has ls 2 [(0, .ref a_mo)] → m_X6_finish_J66  mo_fault mo_place mo_lines mo_state mo_kindA = some res → W p l e ({ frames := 1, cells := 0, slots := 0, locals := 22 } : Room) s m args below meth c H locs 0 0 (MQ below (kQv D vwCl [(a_mo, .inr (6, [.int mo_thrown, .ref a_motape, .int mo_taped, .int res.1, .int res.2.1, .int res.2.2.1, .ref a_mokind, .ref a_mofirst, .ref a_mocount, .ref a_mobegins, .ref a_monumbers, .int mo_used, .int res.2.2.2, .int mo_at, .int mo_many, .int mo_labels, .int mo_sign, .long mo_value, .int mo_from, .int mo_to, .ref a_moout, .int mo_printed, .ref a_mofresh, .int mo_written, .int mo_over, .ref a_modigits])), (a_motape, .inl (cI, 4000, .inl mo_tapeA)), (a_mokind, .inl (cI, 64, .inl mo_kindA)), (a_mofirst, .inl (cI, 64, .inl mo_firstA)), (a_mocount, .inl (cI, 64, .inl mo_countA)), (a_mobegins, .inl (cI, 64, .inl mo_beginsA)), (a_monumbers, .inl (cL, 4200, .inr (.inl mo_numbersA))), (a_moout, .inl (cI, 4000, .inl mo_outA)), (a_mofresh, .inl (cI, 4000, .inl mo_freshA)), (a_modigits, .inl (cI, 20, .inl mo_digitsA))] A) args s 0 0 A) (F0 m 66 ls []) := by
  obtain ⟨hx, hb, hr, hml, hown, hts, hlocks⟩ := id C
  have ht : ∀ w ∈ k_tbl, w.before args s = true := fun w h => hts w (List.mem_cons_of_mem _ h)
  intro mo_fault mo_place mo_lines mo_state mo_kindA H locs ls hP hD hS hl h
  unfold m_X6_finish_J66 at h
  refine lv_aload_n hx hb dX6_finish_66 rfl (lv_at hl 0 rfl) ?_
  refine lv_aload_n hx hb dX6_finish_67 rfl (lv_at hl 0 rfl) ?_
  refine va_get (D := D) (ci := 6) (v := .int mo_state) (C := RX6) (T := TX6) (N := 26) hx hb ht inX6 hown hE.1 hP 0 rfl rfl 12 (by decide) (ht _ kw_526) (fun _ h9 => h9) rfl dX6_finish_68 ?_
  refine lv_bipush (v := 23) hx hb dX6_finish_71 (by decide) ?_
  refine lv_icmp_ne (tgt := 80) hx hb dX6_finish_73 (by decide) (fun c_2 => ?_) (fun c_2 => ?_)
  · replace h := o_f c_2 h
    refine lv_iconst (v := 0) hx hb dX6_finish_80 (by decide) ?_
    exact k_X6_finish_J81 C hE hA  mo_fault mo_place mo_lines mo_state mo_kindA (0 : Int32) _ _ _ hP hD hS (lv_sub hl [0] rfl) h
  · replace h := o_t c_2 h
    refine lv_iconst (v := 1) hx hb dX6_finish_76 (by decide) ?_
    refine lv_goto (tgt := 81) hx hb dX6_finish_77 (by decide) ?_
    exact k_X6_finish_J81 C hE hA  mo_fault mo_place mo_lines mo_state mo_kindA (1 : Int32) _ _ _ hP hD hS (lv_sub hl [0] rfl) h
set_option maxHeartbeats 4000000 in
set_option maxRecDepth 100000 in
theorem k_X6_finish_J48 {l : Launch} {p : Program} {e : Env} {s : State} {m : MethodId} {args : Array Value} {below : List Frame} {meth : Method} {c : Code} {A : Nat → Prop} {D : va_G} {cB cI cL : ClassId} {a_mo a_motape a_mokind a_mofirst a_mocount a_mobegins a_monumbers a_moout a_mofresh a_modigits : Nat} {mo_thrown : Int32} {mo_taped : Int32} {mo_used : Int32} {mo_at : Int32} {mo_many : Int32} {mo_labels : Int32} {mo_sign : Int32} {mo_value : Int64} {mo_from : Int32} {mo_to : Int32} {mo_printed : Int32} {mo_written : Int32} {mo_over : Int32} {mo_tapeA : Nat → Int32} {mo_firstA : Nat → Int32} {mo_countA : Nat → Int32} {mo_beginsA : Nat → Int32} {mo_numbersA : Nat → Int64} {mo_outA : Nat → Int32} {mo_freshA : Nat → Int32} {mo_digitsA : Nat → Int32} {res : Int32 × Int32 × Int32 × Int32} (C : kx p s m args meth c prog_8_method_18_code 2 none "LinkTextModel" (.code (⟨"LinkTextModel", "finish", "(I)V"⟩ : MethodName) prog_8_method_18_code 2 none :: k_tbl)) (hE : ev D cB cI cL A s) (hA : ∀ q : Nat, s.heap.size ≤ q → A q) :
    ∀ (mo_fault : Int32) (mo_place : Int32) (mo_lines : Int32) (mo_state : Int32) (mo_kindA : Nat → Int32) (H : Heap) (locs : List Loc) (ls : Array Slot), va_P D vwCl [(a_mo, .inr (6, [.int mo_thrown, .ref a_motape, .int mo_taped, .int mo_fault, .int mo_place, .int mo_lines, .ref a_mokind, .ref a_mofirst, .ref a_mocount, .ref a_mobegins, .ref a_monumbers, .int mo_used, .int mo_state, .int mo_at, .int mo_many, .int mo_labels, .int mo_sign, .long mo_value, .int mo_from, .int mo_to, .ref a_moout, .int mo_printed, .ref a_mofresh, .int mo_written, .int mo_over, .ref a_modigits])), (a_motape, .inl (cI, 4000, .inl mo_tapeA)), (a_mokind, .inl (cI, 64, .inl mo_kindA)), (a_mofirst, .inl (cI, 64, .inl mo_firstA)), (a_mocount, .inl (cI, 64, .inl mo_countA)), (a_mobegins, .inl (cI, 64, .inl mo_beginsA)), (a_monumbers, .inl (cL, 4200, .inr (.inl mo_numbersA))), (a_moout, .inl (cI, 4000, .inl mo_outA)), (a_mofresh, .inl (cI, 4000, .inl mo_freshA)), (a_modigits, .inl (cI, 20, .inl mo_digitsA))] H → va_D A [(a_mo, .inr (6, [.int mo_thrown, .ref a_motape, .int mo_taped, .int mo_fault, .int mo_place, .int mo_lines, .ref a_mokind, .ref a_mofirst, .ref a_mocount, .ref a_mobegins, .ref a_monumbers, .int mo_used, .int mo_state, .int mo_at, .int mo_many, .int mo_labels, .int mo_sign, .long mo_value, .int mo_from, .int mo_to, .ref a_moout, .int mo_printed, .ref a_mofresh, .int mo_written, .int mo_over, .ref a_modigits])), (a_motape, .inl (cI, 4000, .inl mo_tapeA)), (a_mokind, .inl (cI, 64, .inl mo_kindA)), (a_mofirst, .inl (cI, 64, .inl mo_firstA)), (a_mocount, .inl (cI, 64, .inl mo_countA)), (a_mobegins, .inl (cI, 64, .inl mo_beginsA)), (a_monumbers, .inl (cL, 4200, .inr (.inl mo_numbersA))), (a_moout, .inl (cI, 4000, .inl mo_outA)), (a_mofresh, .inl (cI, 4000, .inl mo_freshA)), (a_modigits, .inl (cI, 20, .inl mo_digitsA))] → va_S A s.heap H locs → lv_has ls 2 [(0, .ref a_mo)] → m_X6_finish_J48  mo_fault mo_place mo_lines mo_state mo_kindA = some res → W p l e ({ frames := 1, cells := 0, slots := 0, locals := 22 } : Room) s m args below meth c H locs 0 0 (MQ below (kQv D vwCl [(a_mo, .inr (6, [.int mo_thrown, .ref a_motape, .int mo_taped, .int res.1, .int res.2.1, .int res.2.2.1, .ref a_mokind, .ref a_mofirst, .ref a_mocount, .ref a_mobegins, .ref a_monumbers, .int mo_used, .int res.2.2.2, .int mo_at, .int mo_many, .int mo_labels, .int mo_sign, .long mo_value, .int mo_from, .int mo_to, .ref a_moout, .int mo_printed, .ref a_mofresh, .int mo_written, .int mo_over, .ref a_modigits])), (a_motape, .inl (cI, 4000, .inl mo_tapeA)), (a_mokind, .inl (cI, 64, .inl mo_kindA)), (a_mofirst, .inl (cI, 64, .inl mo_firstA)), (a_mocount, .inl (cI, 64, .inl mo_countA)), (a_mobegins, .inl (cI, 64, .inl mo_beginsA)), (a_monumbers, .inl (cL, 4200, .inr (.inl mo_numbersA))), (a_moout, .inl (cI, 4000, .inl mo_outA)), (a_mofresh, .inl (cI, 4000, .inl mo_freshA)), (a_modigits, .inl (cI, 20, .inl mo_digitsA))] A) args s 0 0 A) (F0 m 48 ls []) := by
  obtain ⟨hx, hb, hr, hml, hown, hts, hlocks⟩ := id C
  have ht : ∀ w ∈ k_tbl, w.before args s = true := fun w h => hts w (List.mem_cons_of_mem _ h)
  intro mo_fault mo_place mo_lines mo_state mo_kindA H locs ls hP hD hS hl h
  unfold m_X6_finish_J48 at h
  refine lv_aload_n hx hb dX6_finish_48 rfl (lv_at hl 0 rfl) ?_
  refine va_get (D := D) (ci := 6) (v := .int mo_state) (C := RX6) (T := TX6) (N := 26) hx hb ht inX6 hown hE.1 hP 0 rfl rfl 12 (by decide) (ht _ kw_526) (fun _ h9 => h9) rfl dX6_finish_49 ?_
  refine lv_bipush (v := 22) hx hb dX6_finish_52 (by decide) ?_
  refine lv_icmp_eq (tgt := 66) hx hb dX6_finish_54 (by decide) (fun c_3 => ?_) (fun c_3 => ?_)
  · replace h := o_t c_3 h
    exact k_X6_finish_J66 C hE hA  mo_fault mo_place mo_lines mo_state mo_kindA _ _ _ hP hD hS (lv_sub hl [0] rfl) h
  · replace h := o_f c_3 h
    refine lv_aload_n hx hb dX6_finish_57 rfl (lv_at hl 0 rfl) ?_
    refine va_get (D := D) (ci := 6) (v := .int mo_state) (C := RX6) (T := TX6) (N := 26) hx hb ht inX6 hown hE.1 hP 0 rfl rfl 12 (by decide) (ht _ kw_526) (fun _ h9 => h9) rfl dX6_finish_58 ?_
    refine lv_bipush (v := 23) hx hb dX6_finish_61 (by decide) ?_
    refine lv_icmp_ne (tgt := 84) hx hb dX6_finish_63 (by decide) (fun c_4 => ?_) (fun c_4 => ?_)
    · replace h := o_f c_4 h
      exact k_X6_finish_J84 C hE hA  mo_fault mo_place mo_lines mo_state mo_kindA _ _ _ hP hD hS (lv_sub hl [0] rfl) h
    · replace h := o_t c_4 h
      exact k_X6_finish_J66 C hE hA  mo_fault mo_place mo_lines mo_state mo_kindA _ _ _ hP hD hS (lv_sub hl [0] rfl) h
set_option maxHeartbeats 4000000 in
set_option maxRecDepth 100000 in
theorem c_X6_finish {l : Launch} {D : va_G} {cB cI cL : ClassId} {a_mo a_motape a_mokind a_mofirst a_mocount a_mobegins a_monumbers a_moout a_mofresh a_modigits : Nat} {mo_thrown : Int32} {mo_taped : Int32} {mo_fault : Int32} {mo_place : Int32} {mo_lines : Int32} {mo_used : Int32} {mo_state : Int32} {mo_at : Int32} {mo_many : Int32} {mo_labels : Int32} {mo_sign : Int32} {mo_value : Int64} {mo_from : Int32} {mo_to : Int32} {mo_printed : Int32} {mo_written : Int32} {mo_over : Int32} {mo_tapeA : Nat → Int32} {mo_kindA : Nat → Int32} {mo_firstA : Nat → Int32} {mo_countA : Nat → Int32} {mo_beginsA : Nat → Int32} {mo_numbersA : Nat → Int64} {mo_outA : Nat → Int32} {mo_freshA : Nat → Int32} {mo_digitsA : Nat → Int32} {p0 : Int32} {res : Int32 × Int32 × Int32 × Int32} (h : m_X6_finish mo_fault mo_place mo_lines mo_state mo_kindA p0 = some res) : KMet l (⟨"LinkTextModel", "finish", "(I)V"⟩ : MethodName) (.code (⟨"LinkTextModel", "finish", "(I)V"⟩ : MethodName) prog_8_method_18_code 2 none :: k_tbl) ({ frames := 1, cells := 0, slots := 0, locals := 22 } : Room) (ev D cB cI cL) D vwCl [.ref a_mo, .int p0] [(a_mo, .inr (6, [.int mo_thrown, .ref a_motape, .int mo_taped, .int mo_fault, .int mo_place, .int mo_lines, .ref a_mokind, .ref a_mofirst, .ref a_mocount, .ref a_mobegins, .ref a_monumbers, .int mo_used, .int mo_state, .int mo_at, .int mo_many, .int mo_labels, .int mo_sign, .long mo_value, .int mo_from, .int mo_to, .ref a_moout, .int mo_printed, .ref a_mofresh, .int mo_written, .int mo_over, .ref a_modigits])), (a_motape, .inl (cI, 4000, .inl mo_tapeA)), (a_mokind, .inl (cI, 64, .inl mo_kindA)), (a_mofirst, .inl (cI, 64, .inl mo_firstA)), (a_mocount, .inl (cI, 64, .inl mo_countA)), (a_mobegins, .inl (cI, 64, .inl mo_beginsA)), (a_monumbers, .inl (cL, 4200, .inr (.inl mo_numbersA))), (a_moout, .inl (cI, 4000, .inl mo_outA)), (a_mofresh, .inl (cI, 4000, .inl mo_freshA)), (a_modigits, .inl (cI, 20, .inl mo_digitsA))] (kQv D vwCl [(a_mo, .inr (6, [.int mo_thrown, .ref a_motape, .int mo_taped, .int res.1, .int res.2.1, .int res.2.2.1, .ref a_mokind, .ref a_mofirst, .ref a_mocount, .ref a_mobegins, .ref a_monumbers, .int mo_used, .int res.2.2.2, .int mo_at, .int mo_many, .int mo_labels, .int mo_sign, .long mo_value, .int mo_from, .int mo_to, .ref a_moout, .int mo_printed, .ref a_mofresh, .int mo_written, .int mo_over, .ref a_modigits])), (a_motape, .inl (cI, 4000, .inl mo_tapeA)), (a_mokind, .inl (cI, 64, .inl mo_kindA)), (a_mofirst, .inl (cI, 64, .inl mo_firstA)), (a_mocount, .inl (cI, 64, .inl mo_countA)), (a_mobegins, .inl (cI, 64, .inl mo_beginsA)), (a_monumbers, .inl (cL, 4200, .inr (.inl mo_numbersA))), (a_moout, .inl (cI, 4000, .inl mo_outA)), (a_mofresh, .inl (cI, 4000, .inl mo_freshA)), (a_modigits, .inl (cI, 20, .inl mo_digitsA))]) := by
  unfold m_X6_finish at h
  refine kMet (cc := prog_8_method_18_code) (mL := 2) (ret := none) (own := "LinkTextModel") (by decide) rfl rfl (Nat.le_of_ble_eq_true rfl) ?_
  intro p e s m below meth c A C hnm hE hA hP hD ls hl
  generalize ([.ref a_mo, .int p0] : List Value).toArray = args at C ⊢
  obtain ⟨hx, hb, hr, hml, hown, hts, hlocks⟩ := id C
  have ht : ∀ w ∈ k_tbl, w.before args s = true := fun w h => hts w (List.mem_cons_of_mem _ h)
  have hS : va_S A s.heap s.heap [] := va_S.rf
  have hl : lv_has ls 2 [(0, .ref a_mo), (1, .int p0)] := hl
  refine lv_aload_n hx hb dX6_finish_0 rfl (lv_at hl 0 rfl) ?_
  refine va_get (D := D) (ci := 6) (v := .int mo_state) (C := RX6) (T := TX6) (N := 26) hx hb ht inX6 hown hE.1 hP 0 rfl rfl 12 (by decide) (ht _ kw_526) (fun _ h9 => h9) rfl dX6_finish_1 ?_
  refine lv_if_ne (tgt := 8) hx hb dX6_finish_4 (by decide) (fun c_5 => ?_) (fun c_5 => ?_)
  · replace h := o_f c_5 h
    refine lv_aload_n hx hb dX6_finish_8 rfl (lv_at hl 0 rfl) ?_
    obtain ⟨r_6, hr_6, h⟩ := o_b_s h
    refine kCi (w' := [(a_mo, .inr (6, [.int mo_thrown, .ref a_motape, .int mo_taped, .int mo_fault, .int mo_place, .int mo_lines, .ref a_mokind, .ref a_mofirst, .ref a_mocount, .ref a_mobegins, .ref a_monumbers, .int mo_used, .int mo_state, .int mo_at, .int mo_many, .int mo_labels, .int mo_sign, .long mo_value, .int mo_from, .int mo_to, .ref a_moout, .int mo_printed, .ref a_mofresh, .int mo_written, .int mo_over, .ref a_modigits])), (a_motape, .inl (cI, 4000, .inl mo_tapeA)), (a_mokind, .inl (cI, 64, .inl mo_kindA)), (a_mofirst, .inl (cI, 64, .inl mo_firstA)), (a_mocount, .inl (cI, 64, .inl mo_countA)), (a_mobegins, .inl (cI, 64, .inl mo_beginsA)), (a_monumbers, .inl (cL, 4200, .inr (.inl mo_numbersA))), (a_moout, .inl (cI, 4000, .inl mo_outA)), (a_mofresh, .inl (cI, 4000, .inl mo_freshA)), (a_modigits, .inl (cI, 20, .inl mo_digitsA))]) hP hD hS hA [0, 1, 2, 3, 4, 5, 6, 7, 8, 9] [] [0, 1, 2, 3, 4, 5, 6, 7, 8, 9] (kRunV (rest := []) C ev_ok hE hA hP hD hS [0, 1, 2, 3, 4, 5, 6, 7, 8, 9] rfl rfl rfl (c_X6_mayEnd hr_6) hE.1 0 6 rfl rfl (cwV 0 ht (gV kw_613 kw_615 kp_27 kw_7 kw_616) rfl rfl rfl (by decide +kernel) ⟨Nat.le_of_ble_eq_true rfl, Nat.le_of_ble_eq_true rfl⟩) rfl hl.1 rfl (Nat.le_of_ble_eq_true rfl) dX6_finish_9 ⟨Nat.le_of_ble_eq_true rfl, Nat.le_of_ble_eq_true rfl⟩) rfl rfl rfl (by decide) rfl rfl rfl (fun H locs hP hD hS => ?_)
    refine lv_if_ne (tgt := 22) hx hb dX6_finish_12 (by decide) (fun c_7 => ?_) (fun c_7 => ?_)
    · replace h := o_f c_7 h
      refine lv_aload_n hx hb dX6_finish_22 rfl (lv_at hl 0 rfl) ?_
      refine va_get (D := D) (ci := 6) (v := .ref a_mokind) (C := RX6) (T := TX6) (N := 26) hx hb ht inX6 hown hE.1 hP 0 rfl rfl 6 (by decide) (ht _ kw_520) (fun _ h9 => h9) rfl dX6_finish_23 ?_
      refine lv_aload_n hx hb dX6_finish_26 rfl (lv_at hl 0 rfl) ?_
      refine va_get (D := D) (ci := 6) (v := .int mo_lines) (C := RX6) (T := TX6) (N := 26) hx hb ht inX6 hown hE.1 hP 0 rfl rfl 5 (by decide) (ht _ kw_519) (fun _ h9 => h9) rfl dX6_finish_27 ?_
      obtain ⟨hz_8, h⟩ := o_in_s h
      refine va_iald hx hb hE.1 hP 2 1 rfl rfl hz_8 dX6_finish_30 ?_
      refine lv_topi (fun t_9 et_9 => ?_)
      replace h := o_let_s et_9 h
      refine lv_iconst (v := 1) hx hb dX6_finish_31 (by decide) ?_
      refine lv_icmp_ne (tgt := 48) hx hb dX6_finish_32 (by decide) (fun c_10 => ?_) (fun c_10 => ?_)
      · replace h := o_f c_10 h
        exact k_X6_finish_J48 C hE hA  mo_fault mo_place mo_lines mo_state mo_kindA _ _ _ hP hD hS (lv_sub hl [0] rfl) h
      · replace h := o_t c_10 h
        refine lv_aload_n hx hb dX6_finish_35 rfl (lv_at hl 0 rfl) ?_
        refine va_get (D := D) (ci := 6) (v := .int mo_state) (C := RX6) (T := TX6) (N := 26) hx hb ht inX6 hown hE.1 hP 0 rfl rfl 12 (by decide) (ht _ kw_526) (fun _ h9 => h9) rfl dX6_finish_36 ?_
        refine lv_iconst (v := 1) hx hb dX6_finish_39 (by decide) ?_
        refine lv_icmp_ne (tgt := 48) hx hb dX6_finish_40 (by decide) (fun c_11 => ?_) (fun c_11 => ?_)
        · replace h := o_f c_11 h
          exact k_X6_finish_J48 C hE hA  mo_fault mo_place mo_lines mo_state mo_kindA _ _ _ hP hD hS (lv_sub hl [0] rfl) h
        · replace h := o_t c_11 h
          refine lv_aload_n hx hb dX6_finish_43 rfl (lv_at hl 0 rfl) ?_
          refine lv_lconst (v := 0) hx hb dX6_finish_44 (by decide) ?_
          cases h
    · replace h := o_t c_7 h
      refine lv_aload_n hx hb dX6_finish_15 rfl (lv_at hl 0 rfl) ?_
      refine lv_iconst (v := 4) hx hb dX6_finish_16 (by decide) ?_
      refine lv_iload_n hx hb dX6_finish_17 rfl (lv_at hl 1 rfl) ?_
      obtain ⟨r_12, hr_12, h⟩ := o_b_s h
      refine kCv (w' := [(a_mo, .inr (6, [.int mo_thrown, .ref a_motape, .int mo_taped, .int r_12.1, .int r_12.2, .int mo_lines, .ref a_mokind, .ref a_mofirst, .ref a_mocount, .ref a_mobegins, .ref a_monumbers, .int mo_used, .int mo_state, .int mo_at, .int mo_many, .int mo_labels, .int mo_sign, .long mo_value, .int mo_from, .int mo_to, .ref a_moout, .int mo_printed, .ref a_mofresh, .int mo_written, .int mo_over, .ref a_modigits])), (a_motape, .inl (cI, 4000, .inl mo_tapeA)), (a_mokind, .inl (cI, 64, .inl mo_kindA)), (a_mofirst, .inl (cI, 64, .inl mo_firstA)), (a_mocount, .inl (cI, 64, .inl mo_countA)), (a_mobegins, .inl (cI, 64, .inl mo_beginsA)), (a_monumbers, .inl (cL, 4200, .inr (.inl mo_numbersA))), (a_moout, .inl (cI, 4000, .inl mo_outA)), (a_mofresh, .inl (cI, 4000, .inl mo_freshA)), (a_modigits, .inl (cI, 20, .inl mo_digitsA))]) hP hD hS hA [0, 1, 2, 3, 4, 5, 6, 7, 8, 9] [] [0, 1, 2, 3, 4, 5, 6, 7, 8, 9] (kRunV (rest := []) C ev_ok hE hA hP hD hS [0, 1, 2, 3, 4, 5, 6, 7, 8, 9] rfl rfl rfl (c_X6_stop hr_12) hE.1 0 6 rfl rfl (cwV 2 ht (gV kw_605 kw_607 kp_25 kw_7 kw_608) rfl rfl rfl (by decide +kernel) ⟨Nat.le_of_ble_eq_true rfl, Nat.le_of_ble_eq_true rfl⟩) rfl hl.1 rfl (Nat.le_of_ble_eq_true rfl) dX6_finish_18 ⟨Nat.le_of_ble_eq_true rfl, Nat.le_of_ble_eq_true rfl⟩) rfl rfl rfl (by decide) rfl rfl rfl (fun H locs hP hD hS => ?_)
      obtain rfl := Option.some.inj h
      exact kRet_v C hP hD hS dX6_finish_21
  · replace h := o_t c_5 h
    obtain rfl := Option.some.inj h
    exact kRet_v C hP hD hS dX6_finish_7
set_option maxHeartbeats 4000000 in
set_option maxRecDepth 100000 in
theorem k_X6_read_J202 {l : Launch} {p : Program} {e : Env} {s : State} {m : MethodId} {args : Array Value} {below : List Frame} {meth : Method} {c : Code} {A : Nat → Prop} {D : va_G} {cB cI cL : ClassId} {a_mo a_motape a_mokind a_mofirst a_mocount a_mobegins a_monumbers a_moout a_mofresh a_modigits : Nat} {mo_thrown : Int32} {mo_many : Int32} {mo_labels : Int32} {mo_sign : Int32} {mo_value : Int64} {mo_to : Int32} {mo_printed : Int32} {mo_written : Int32} {mo_over : Int32} {mo_firstA : Nat → Int32} {mo_countA : Nat → Int32} {mo_beginsA : Nat → Int32} {mo_numbersA : Nat → Int64} {mo_outA : Nat → Int32} {mo_freshA : Nat → Int32} {mo_digitsA : Nat → Int32} {res : Int32 × Int32 × Int32 × Int32 × Int32 × Int32 × Int32 × Int32 × Int32} (C : kx p s m args meth c prog_8_method_29_code 4 (some .int) "LinkTextModel" (.code (⟨"LinkTextModel", "read", "(I)I"⟩ : MethodName) prog_8_method_29_code 4 (some .int) :: k_tbl)) (hE : ev D cB cI cL A s) (hA : ∀ q : Nat, s.heap.size ≤ q → A q) :
    ∀ (mo_taped : Int32) (mo_fault : Int32) (mo_place : Int32) (mo_lines : Int32) (mo_used : Int32) (mo_state : Int32) (mo_at : Int32) (mo_from : Int32) (mo_tapeA : Nat → Int32) (mo_kindA : Nat → Int32) (H : Heap) (locs : List Loc) (ls : Array Slot), va_P D vwCl [(a_mo, .inr (6, [.int mo_thrown, .ref a_motape, .int mo_taped, .int mo_fault, .int mo_place, .int mo_lines, .ref a_mokind, .ref a_mofirst, .ref a_mocount, .ref a_mobegins, .ref a_monumbers, .int mo_used, .int mo_state, .int mo_at, .int mo_many, .int mo_labels, .int mo_sign, .long mo_value, .int mo_from, .int mo_to, .ref a_moout, .int mo_printed, .ref a_mofresh, .int mo_written, .int mo_over, .ref a_modigits])), (a_motape, .inl (cI, 4000, .inl mo_tapeA)), (a_mokind, .inl (cI, 64, .inl mo_kindA)), (a_mofirst, .inl (cI, 64, .inl mo_firstA)), (a_mocount, .inl (cI, 64, .inl mo_countA)), (a_mobegins, .inl (cI, 64, .inl mo_beginsA)), (a_monumbers, .inl (cL, 4200, .inr (.inl mo_numbersA))), (a_moout, .inl (cI, 4000, .inl mo_outA)), (a_mofresh, .inl (cI, 4000, .inl mo_freshA)), (a_modigits, .inl (cI, 20, .inl mo_digitsA))] H → va_D A [(a_mo, .inr (6, [.int mo_thrown, .ref a_motape, .int mo_taped, .int mo_fault, .int mo_place, .int mo_lines, .ref a_mokind, .ref a_mofirst, .ref a_mocount, .ref a_mobegins, .ref a_monumbers, .int mo_used, .int mo_state, .int mo_at, .int mo_many, .int mo_labels, .int mo_sign, .long mo_value, .int mo_from, .int mo_to, .ref a_moout, .int mo_printed, .ref a_mofresh, .int mo_written, .int mo_over, .ref a_modigits])), (a_motape, .inl (cI, 4000, .inl mo_tapeA)), (a_mokind, .inl (cI, 64, .inl mo_kindA)), (a_mofirst, .inl (cI, 64, .inl mo_firstA)), (a_mocount, .inl (cI, 64, .inl mo_countA)), (a_mobegins, .inl (cI, 64, .inl mo_beginsA)), (a_monumbers, .inl (cL, 4200, .inr (.inl mo_numbersA))), (a_moout, .inl (cI, 4000, .inl mo_outA)), (a_mofresh, .inl (cI, 4000, .inl mo_freshA)), (a_modigits, .inl (cI, 20, .inl mo_digitsA))] → va_S A s.heap H locs → lv_has ls 4 [(0, .ref a_mo)] → m_X6_read_J202  mo_taped mo_fault mo_place mo_lines mo_used mo_state mo_at mo_from mo_tapeA mo_kindA = some res → W p l e ({ frames := 2, cells := 0, slots := 0, locals := 43 } : Room) s m args below meth c H locs 0 0 (MQ below (kQi D vwCl [(a_mo, .inr (6, [.int mo_thrown, .ref a_motape, .int res.2.1, .int res.2.2.1, .int res.2.2.2.1, .int res.2.2.2.2.1, .ref a_mokind, .ref a_mofirst, .ref a_mocount, .ref a_mobegins, .ref a_monumbers, .int res.2.2.2.2.2.1, .int res.2.2.2.2.2.2.1, .int res.2.2.2.2.2.2.2.1, .int mo_many, .int mo_labels, .int mo_sign, .long mo_value, .int res.2.2.2.2.2.2.2.2, .int mo_to, .ref a_moout, .int mo_printed, .ref a_mofresh, .int mo_written, .int mo_over, .ref a_modigits])), (a_motape, .inl (cI, 4000, .inl mo_tapeA)), (a_mokind, .inl (cI, 64, .inl mo_kindA)), (a_mofirst, .inl (cI, 64, .inl mo_firstA)), (a_mocount, .inl (cI, 64, .inl mo_countA)), (a_mobegins, .inl (cI, 64, .inl mo_beginsA)), (a_monumbers, .inl (cL, 4200, .inr (.inl mo_numbersA))), (a_moout, .inl (cI, 4000, .inl mo_outA)), (a_mofresh, .inl (cI, 4000, .inl mo_freshA)), (a_modigits, .inl (cI, 20, .inl mo_digitsA))] res.1 A) args s 0 0 A) (F0 m 202 ls []) := by
  obtain ⟨hx, hb, hr, hml, hown, hts, hlocks⟩ := id C
  have ht : ∀ w ∈ k_tbl, w.before args s = true := fun w h => hts w (List.mem_cons_of_mem _ h)
  intro mo_taped mo_fault mo_place mo_lines mo_used mo_state mo_at mo_from mo_tapeA mo_kindA H locs ls hP hD hS hl h
  unfold m_X6_read_J202 at h
  refine lv_aload_n hx hb dX6_read_202 rfl (lv_at hl 0 rfl) ?_
  refine va_get (D := D) (ci := 6) (v := .int mo_fault) (C := RX6) (T := TX6) (N := 26) hx hb ht inX6 hown hE.1 hP 0 rfl rfl 3 (by decide) (ht _ kw_517) (fun _ h9 => h9) rfl dX6_read_203 ?_
  refine lv_if_ne (tgt := 216) hx hb dX6_read_206 (by decide) (fun c_1 => ?_) (fun c_1 => ?_)
  · replace h := o_f c_1 h
    refine lv_iconst (v := -1) hx hb dX6_read_216 (by decide) ?_
    obtain rfl := Option.some.inj h
    exact kRet_i C hP hD hS dX6_read_217
  · replace h := o_t c_1 h
    refine lv_aload_n hx hb dX6_read_209 rfl (lv_at hl 0 rfl) ?_
    refine va_get (D := D) (ci := 6) (v := .int mo_lines) (C := RX6) (T := TX6) (N := 26) hx hb ht inX6 hown hE.1 hP 0 rfl rfl 5 (by decide) (ht _ kw_519) (fun _ h9 => h9) rfl dX6_read_210 ?_
    refine lv_goto (tgt := 217) hx hb dX6_read_213 (by decide) ?_
    obtain rfl := Option.some.inj h
    exact kRet_i C hP hD hS dX6_read_217
set_option maxHeartbeats 4000000 in
set_option maxRecDepth 100000 in
theorem k_X6_read_J185 {l : Launch} {p : Program} {e : Env} {s : State} {m : MethodId} {args : Array Value} {below : List Frame} {meth : Method} {c : Code} {A : Nat → Prop} {D : va_G} {cB cI cL : ClassId} {a_mo a_motape a_mokind a_mofirst a_mocount a_mobegins a_monumbers a_moout a_mofresh a_modigits : Nat} {mo_thrown : Int32} {mo_many : Int32} {mo_labels : Int32} {mo_sign : Int32} {mo_value : Int64} {mo_to : Int32} {mo_printed : Int32} {mo_written : Int32} {mo_over : Int32} {mo_firstA : Nat → Int32} {mo_countA : Nat → Int32} {mo_beginsA : Nat → Int32} {mo_numbersA : Nat → Int64} {mo_outA : Nat → Int32} {mo_freshA : Nat → Int32} {mo_digitsA : Nat → Int32} {res : Int32 × Int32 × Int32 × Int32 × Int32 × Int32 × Int32 × Int32 × Int32} (C : kx p s m args meth c prog_8_method_29_code 4 (some .int) "LinkTextModel" (.code (⟨"LinkTextModel", "read", "(I)I"⟩ : MethodName) prog_8_method_29_code 4 (some .int) :: k_tbl)) (hE : ev D cB cI cL A s) (hA : ∀ q : Nat, s.heap.size ≤ q → A q) :
    ∀ (mo_taped : Int32) (mo_fault : Int32) (mo_place : Int32) (mo_lines : Int32) (mo_used : Int32) (mo_state : Int32) (mo_at : Int32) (mo_from : Int32) (mo_tapeA : Nat → Int32) (mo_kindA : Nat → Int32) (H : Heap) (locs : List Loc) (ls : Array Slot), va_P D vwCl [(a_mo, .inr (6, [.int mo_thrown, .ref a_motape, .int mo_taped, .int mo_fault, .int mo_place, .int mo_lines, .ref a_mokind, .ref a_mofirst, .ref a_mocount, .ref a_mobegins, .ref a_monumbers, .int mo_used, .int mo_state, .int mo_at, .int mo_many, .int mo_labels, .int mo_sign, .long mo_value, .int mo_from, .int mo_to, .ref a_moout, .int mo_printed, .ref a_mofresh, .int mo_written, .int mo_over, .ref a_modigits])), (a_motape, .inl (cI, 4000, .inl mo_tapeA)), (a_mokind, .inl (cI, 64, .inl mo_kindA)), (a_mofirst, .inl (cI, 64, .inl mo_firstA)), (a_mocount, .inl (cI, 64, .inl mo_countA)), (a_mobegins, .inl (cI, 64, .inl mo_beginsA)), (a_monumbers, .inl (cL, 4200, .inr (.inl mo_numbersA))), (a_moout, .inl (cI, 4000, .inl mo_outA)), (a_mofresh, .inl (cI, 4000, .inl mo_freshA)), (a_modigits, .inl (cI, 20, .inl mo_digitsA))] H → va_D A [(a_mo, .inr (6, [.int mo_thrown, .ref a_motape, .int mo_taped, .int mo_fault, .int mo_place, .int mo_lines, .ref a_mokind, .ref a_mofirst, .ref a_mocount, .ref a_mobegins, .ref a_monumbers, .int mo_used, .int mo_state, .int mo_at, .int mo_many, .int mo_labels, .int mo_sign, .long mo_value, .int mo_from, .int mo_to, .ref a_moout, .int mo_printed, .ref a_mofresh, .int mo_written, .int mo_over, .ref a_modigits])), (a_motape, .inl (cI, 4000, .inl mo_tapeA)), (a_mokind, .inl (cI, 64, .inl mo_kindA)), (a_mofirst, .inl (cI, 64, .inl mo_firstA)), (a_mocount, .inl (cI, 64, .inl mo_countA)), (a_mobegins, .inl (cI, 64, .inl mo_beginsA)), (a_monumbers, .inl (cL, 4200, .inr (.inl mo_numbersA))), (a_moout, .inl (cI, 4000, .inl mo_outA)), (a_mofresh, .inl (cI, 4000, .inl mo_freshA)), (a_modigits, .inl (cI, 20, .inl mo_digitsA))] → va_S A s.heap H locs → lv_has ls 4 [(0, .ref a_mo)] → m_X6_read_J185  mo_taped mo_fault mo_place mo_lines mo_used mo_state mo_at mo_from mo_tapeA mo_kindA = some res → W p l e ({ frames := 2, cells := 0, slots := 0, locals := 43 } : Room) s m args below meth c H locs 0 0 (MQ below (kQi D vwCl [(a_mo, .inr (6, [.int mo_thrown, .ref a_motape, .int res.2.1, .int res.2.2.1, .int res.2.2.2.1, .int res.2.2.2.2.1, .ref a_mokind, .ref a_mofirst, .ref a_mocount, .ref a_mobegins, .ref a_monumbers, .int res.2.2.2.2.2.1, .int res.2.2.2.2.2.2.1, .int res.2.2.2.2.2.2.2.1, .int mo_many, .int mo_labels, .int mo_sign, .long mo_value, .int res.2.2.2.2.2.2.2.2, .int mo_to, .ref a_moout, .int mo_printed, .ref a_mofresh, .int mo_written, .int mo_over, .ref a_modigits])), (a_motape, .inl (cI, 4000, .inl mo_tapeA)), (a_mokind, .inl (cI, 64, .inl mo_kindA)), (a_mofirst, .inl (cI, 64, .inl mo_firstA)), (a_mocount, .inl (cI, 64, .inl mo_countA)), (a_mobegins, .inl (cI, 64, .inl mo_beginsA)), (a_monumbers, .inl (cL, 4200, .inr (.inl mo_numbersA))), (a_moout, .inl (cI, 4000, .inl mo_outA)), (a_mofresh, .inl (cI, 4000, .inl mo_freshA)), (a_modigits, .inl (cI, 20, .inl mo_digitsA))] res.1 A) args s 0 0 A) (F0 m 185 ls []) := by
  obtain ⟨hx, hb, hr, hml, hown, hts, hlocks⟩ := id C
  have ht : ∀ w ∈ k_tbl, w.before args s = true := fun w h => hts w (List.mem_cons_of_mem _ h)
  intro mo_taped mo_fault mo_place mo_lines mo_used mo_state mo_at mo_from mo_tapeA mo_kindA H locs ls hP hD hS hl h
  unfold m_X6_read_J185 at h
  refine lv_aload_n hx hb dX6_read_185 rfl (lv_at hl 0 rfl) ?_
  refine lv_iconst (v := 0) hx hb dX6_read_186 (by decide) ?_
  refine va_put (D := D) (ci := 6) (v := .int (0 : Int32)) (ty := .int) (C := RX6) (T := TX6) (N := 26) hx hb ht inX6 tyX6 tyX6_ok nmX6 hown hE.1 hP hD hS 0 rfl rfl 2 (by decide) (ht _ kw_516) (fun _ h9 => h9) rfl (by decide +kernel) rfl rfl (Nat.le_of_ble_eq_true rfl) dX6_read_187 (fun H locs hP hD hS => ?_)
  have hP : va_P D vwCl [(a_mo, .inr (6, [.int mo_thrown, .ref a_motape, .int (0 : Int32), .int mo_fault, .int mo_place, .int mo_lines, .ref a_mokind, .ref a_mofirst, .ref a_mocount, .ref a_mobegins, .ref a_monumbers, .int mo_used, .int mo_state, .int mo_at, .int mo_many, .int mo_labels, .int mo_sign, .long mo_value, .int mo_from, .int mo_to, .ref a_moout, .int mo_printed, .ref a_mofresh, .int mo_written, .int mo_over, .ref a_modigits])), (a_motape, .inl (cI, 4000, .inl mo_tapeA)), (a_mokind, .inl (cI, 64, .inl mo_kindA)), (a_mofirst, .inl (cI, 64, .inl mo_firstA)), (a_mocount, .inl (cI, 64, .inl mo_countA)), (a_mobegins, .inl (cI, 64, .inl mo_beginsA)), (a_monumbers, .inl (cL, 4200, .inr (.inl mo_numbersA))), (a_moout, .inl (cI, 4000, .inl mo_outA)), (a_mofresh, .inl (cI, 4000, .inl mo_freshA)), (a_modigits, .inl (cI, 20, .inl mo_digitsA))] H := hP
  have hD : va_D A [(a_mo, .inr (6, [.int mo_thrown, .ref a_motape, .int (0 : Int32), .int mo_fault, .int mo_place, .int mo_lines, .ref a_mokind, .ref a_mofirst, .ref a_mocount, .ref a_mobegins, .ref a_monumbers, .int mo_used, .int mo_state, .int mo_at, .int mo_many, .int mo_labels, .int mo_sign, .long mo_value, .int mo_from, .int mo_to, .ref a_moout, .int mo_printed, .ref a_mofresh, .int mo_written, .int mo_over, .ref a_modigits])), (a_motape, .inl (cI, 4000, .inl mo_tapeA)), (a_mokind, .inl (cI, 64, .inl mo_kindA)), (a_mofirst, .inl (cI, 64, .inl mo_firstA)), (a_mocount, .inl (cI, 64, .inl mo_countA)), (a_mobegins, .inl (cI, 64, .inl mo_beginsA)), (a_monumbers, .inl (cL, 4200, .inr (.inl mo_numbersA))), (a_moout, .inl (cI, 4000, .inl mo_outA)), (a_mofresh, .inl (cI, 4000, .inl mo_freshA)), (a_modigits, .inl (cI, 20, .inl mo_digitsA))] := hD
  refine lv_aload_n hx hb dX6_read_190 rfl (lv_at hl 0 rfl) ?_
  refine va_get (D := D) (ci := 6) (v := .int mo_fault) (C := RX6) (T := TX6) (N := 26) hx hb ht inX6 hown hE.1 hP 0 rfl rfl 3 (by decide) (ht _ kw_517) (fun _ h9 => h9) rfl dX6_read_191 ?_
  refine lv_if_eq (tgt := 202) hx hb dX6_read_194 (by decide) (fun c_2 => ?_) (fun c_2 => ?_)
  · replace h := o_t c_2 h
    exact k_X6_read_J202 C hE hA  (0 : Int32) mo_fault mo_place mo_lines mo_used mo_state mo_at mo_from mo_tapeA mo_kindA _ _ _ hP hD hS (lv_sub hl [0] rfl) h
  · replace h := o_f c_2 h
    refine lv_aload_n hx hb dX6_read_197 rfl (lv_at hl 0 rfl) ?_
    refine lv_iconst (v := 0) hx hb dX6_read_198 (by decide) ?_
    refine va_put (D := D) (ci := 6) (v := .int (0 : Int32)) (ty := .int) (C := RX6) (T := TX6) (N := 26) hx hb ht inX6 tyX6 tyX6_ok nmX6 hown hE.1 hP hD hS 0 rfl rfl 5 (by decide) (ht _ kw_519) (fun _ h9 => h9) rfl (by decide +kernel) rfl rfl (Nat.le_of_ble_eq_true rfl) dX6_read_199 (fun H locs hP hD hS => ?_)
    have hP : va_P D vwCl [(a_mo, .inr (6, [.int mo_thrown, .ref a_motape, .int (0 : Int32), .int mo_fault, .int mo_place, .int (0 : Int32), .ref a_mokind, .ref a_mofirst, .ref a_mocount, .ref a_mobegins, .ref a_monumbers, .int mo_used, .int mo_state, .int mo_at, .int mo_many, .int mo_labels, .int mo_sign, .long mo_value, .int mo_from, .int mo_to, .ref a_moout, .int mo_printed, .ref a_mofresh, .int mo_written, .int mo_over, .ref a_modigits])), (a_motape, .inl (cI, 4000, .inl mo_tapeA)), (a_mokind, .inl (cI, 64, .inl mo_kindA)), (a_mofirst, .inl (cI, 64, .inl mo_firstA)), (a_mocount, .inl (cI, 64, .inl mo_countA)), (a_mobegins, .inl (cI, 64, .inl mo_beginsA)), (a_monumbers, .inl (cL, 4200, .inr (.inl mo_numbersA))), (a_moout, .inl (cI, 4000, .inl mo_outA)), (a_mofresh, .inl (cI, 4000, .inl mo_freshA)), (a_modigits, .inl (cI, 20, .inl mo_digitsA))] H := hP
    have hD : va_D A [(a_mo, .inr (6, [.int mo_thrown, .ref a_motape, .int (0 : Int32), .int mo_fault, .int mo_place, .int (0 : Int32), .ref a_mokind, .ref a_mofirst, .ref a_mocount, .ref a_mobegins, .ref a_monumbers, .int mo_used, .int mo_state, .int mo_at, .int mo_many, .int mo_labels, .int mo_sign, .long mo_value, .int mo_from, .int mo_to, .ref a_moout, .int mo_printed, .ref a_mofresh, .int mo_written, .int mo_over, .ref a_modigits])), (a_motape, .inl (cI, 4000, .inl mo_tapeA)), (a_mokind, .inl (cI, 64, .inl mo_kindA)), (a_mofirst, .inl (cI, 64, .inl mo_firstA)), (a_mocount, .inl (cI, 64, .inl mo_countA)), (a_mobegins, .inl (cI, 64, .inl mo_beginsA)), (a_monumbers, .inl (cL, 4200, .inr (.inl mo_numbersA))), (a_moout, .inl (cI, 4000, .inl mo_outA)), (a_mofresh, .inl (cI, 4000, .inl mo_freshA)), (a_modigits, .inl (cI, 20, .inl mo_digitsA))] := hD
    exact k_X6_read_J202 C hE hA  (0 : Int32) mo_fault mo_place (0 : Int32) mo_used mo_state mo_at mo_from mo_tapeA mo_kindA _ _ _ hP hD hS (lv_sub hl [0] rfl) h
set_option maxHeartbeats 4000000 in
set_option maxRecDepth 100000 in
theorem k_X6_read_J173 {l : Launch} {p : Program} {e : Env} {s : State} {m : MethodId} {args : Array Value} {below : List Frame} {meth : Method} {c : Code} {A : Nat → Prop} {D : va_G} {cB cI cL : ClassId} {a_mo a_motape a_mokind a_mofirst a_mocount a_mobegins a_monumbers a_moout a_mofresh a_modigits : Nat} {mo_thrown : Int32} {mo_many : Int32} {mo_labels : Int32} {mo_sign : Int32} {mo_value : Int64} {mo_to : Int32} {mo_printed : Int32} {mo_written : Int32} {mo_over : Int32} {mo_firstA : Nat → Int32} {mo_countA : Nat → Int32} {mo_beginsA : Nat → Int32} {mo_numbersA : Nat → Int64} {mo_outA : Nat → Int32} {mo_freshA : Nat → Int32} {mo_digitsA : Nat → Int32} {res : Int32 × Int32 × Int32 × Int32 × Int32 × Int32 × Int32 × Int32 × Int32} (C : kx p s m args meth c prog_8_method_29_code 4 (some .int) "LinkTextModel" (.code (⟨"LinkTextModel", "read", "(I)I"⟩ : MethodName) prog_8_method_29_code 4 (some .int) :: k_tbl)) (hE : ev D cB cI cL A s) (hA : ∀ q : Nat, s.heap.size ≤ q → A q) :
    ∀ (mo_taped : Int32) (mo_fault : Int32) (mo_place : Int32) (mo_lines : Int32) (mo_used : Int32) (mo_state : Int32) (mo_at : Int32) (mo_from : Int32) (mo_tapeA : Nat → Int32) (mo_kindA : Nat → Int32) (x1 : Int32) (H : Heap) (locs : List Loc) (ls : Array Slot), va_P D vwCl [(a_mo, .inr (6, [.int mo_thrown, .ref a_motape, .int mo_taped, .int mo_fault, .int mo_place, .int mo_lines, .ref a_mokind, .ref a_mofirst, .ref a_mocount, .ref a_mobegins, .ref a_monumbers, .int mo_used, .int mo_state, .int mo_at, .int mo_many, .int mo_labels, .int mo_sign, .long mo_value, .int mo_from, .int mo_to, .ref a_moout, .int mo_printed, .ref a_mofresh, .int mo_written, .int mo_over, .ref a_modigits])), (a_motape, .inl (cI, 4000, .inl mo_tapeA)), (a_mokind, .inl (cI, 64, .inl mo_kindA)), (a_mofirst, .inl (cI, 64, .inl mo_firstA)), (a_mocount, .inl (cI, 64, .inl mo_countA)), (a_mobegins, .inl (cI, 64, .inl mo_beginsA)), (a_monumbers, .inl (cL, 4200, .inr (.inl mo_numbersA))), (a_moout, .inl (cI, 4000, .inl mo_outA)), (a_mofresh, .inl (cI, 4000, .inl mo_freshA)), (a_modigits, .inl (cI, 20, .inl mo_digitsA))] H → va_D A [(a_mo, .inr (6, [.int mo_thrown, .ref a_motape, .int mo_taped, .int mo_fault, .int mo_place, .int mo_lines, .ref a_mokind, .ref a_mofirst, .ref a_mocount, .ref a_mobegins, .ref a_monumbers, .int mo_used, .int mo_state, .int mo_at, .int mo_many, .int mo_labels, .int mo_sign, .long mo_value, .int mo_from, .int mo_to, .ref a_moout, .int mo_printed, .ref a_mofresh, .int mo_written, .int mo_over, .ref a_modigits])), (a_motape, .inl (cI, 4000, .inl mo_tapeA)), (a_mokind, .inl (cI, 64, .inl mo_kindA)), (a_mofirst, .inl (cI, 64, .inl mo_firstA)), (a_mocount, .inl (cI, 64, .inl mo_countA)), (a_mobegins, .inl (cI, 64, .inl mo_beginsA)), (a_monumbers, .inl (cL, 4200, .inr (.inl mo_numbersA))), (a_moout, .inl (cI, 4000, .inl mo_outA)), (a_mofresh, .inl (cI, 4000, .inl mo_freshA)), (a_modigits, .inl (cI, 20, .inl mo_digitsA))] → va_S A s.heap H locs → lv_has ls 4 [(0, .ref a_mo), (1, .int x1)] → m_X6_read_J173  mo_taped mo_fault mo_place mo_lines mo_used mo_state mo_at mo_from mo_tapeA mo_kindA x1 = some res → W p l e ({ frames := 2, cells := 0, slots := 0, locals := 43 } : Room) s m args below meth c H locs 0 0 (MQ below (kQi D vwCl [(a_mo, .inr (6, [.int mo_thrown, .ref a_motape, .int res.2.1, .int res.2.2.1, .int res.2.2.2.1, .int res.2.2.2.2.1, .ref a_mokind, .ref a_mofirst, .ref a_mocount, .ref a_mobegins, .ref a_monumbers, .int res.2.2.2.2.2.1, .int res.2.2.2.2.2.2.1, .int res.2.2.2.2.2.2.2.1, .int mo_many, .int mo_labels, .int mo_sign, .long mo_value, .int res.2.2.2.2.2.2.2.2, .int mo_to, .ref a_moout, .int mo_printed, .ref a_mofresh, .int mo_written, .int mo_over, .ref a_modigits])), (a_motape, .inl (cI, 4000, .inl mo_tapeA)), (a_mokind, .inl (cI, 64, .inl mo_kindA)), (a_mofirst, .inl (cI, 64, .inl mo_firstA)), (a_mocount, .inl (cI, 64, .inl mo_countA)), (a_mobegins, .inl (cI, 64, .inl mo_beginsA)), (a_monumbers, .inl (cL, 4200, .inr (.inl mo_numbersA))), (a_moout, .inl (cI, 4000, .inl mo_outA)), (a_mofresh, .inl (cI, 4000, .inl mo_freshA)), (a_modigits, .inl (cI, 20, .inl mo_digitsA))] res.1 A) args s 0 0 A) (F0 m 173 ls []) := by
  obtain ⟨hx, hb, hr, hml, hown, hts, hlocks⟩ := id C
  have ht : ∀ w ∈ k_tbl, w.before args s = true := fun w h => hts w (List.mem_cons_of_mem _ h)
  intro mo_taped mo_fault mo_place mo_lines mo_used mo_state mo_at mo_from mo_tapeA mo_kindA x1 H locs ls hP hD hS hl h
  unfold m_X6_read_J173 at h
  refine lv_aload_n hx hb dX6_read_173 rfl (lv_at hl 0 rfl) ?_
  refine va_get (D := D) (ci := 6) (v := .int mo_fault) (C := RX6) (T := TX6) (N := 26) hx hb ht inX6 hown hE.1 hP 0 rfl rfl 3 (by decide) (ht _ kw_517) (fun _ h9 => h9) rfl dX6_read_174 ?_
  refine lv_if_ne (tgt := 185) hx hb dX6_read_177 (by decide) (fun c_3 => ?_) (fun c_3 => ?_)
  · replace h := o_f c_3 h
    exact k_X6_read_J185 C hE hA  mo_taped mo_fault mo_place mo_lines mo_used mo_state mo_at mo_from mo_tapeA mo_kindA _ _ _ hP hD hS (lv_sub hl [0] rfl) h
  · replace h := o_t c_3 h
    refine lv_aload_n hx hb dX6_read_180 rfl (lv_at hl 0 rfl) ?_
    refine lv_iload_n hx hb dX6_read_181 rfl (lv_at hl 1 rfl) ?_
    obtain ⟨r_4, hr_4, h⟩ := o_b_s h
    refine kCv (w' := [(a_mo, .inr (6, [.int mo_thrown, .ref a_motape, .int mo_taped, .int r_4.1, .int r_4.2.1, .int r_4.2.2.1, .ref a_mokind, .ref a_mofirst, .ref a_mocount, .ref a_mobegins, .ref a_monumbers, .int mo_used, .int r_4.2.2.2, .int mo_at, .int mo_many, .int mo_labels, .int mo_sign, .long mo_value, .int mo_from, .int mo_to, .ref a_moout, .int mo_printed, .ref a_mofresh, .int mo_written, .int mo_over, .ref a_modigits])), (a_motape, .inl (cI, 4000, .inl mo_tapeA)), (a_mokind, .inl (cI, 64, .inl mo_kindA)), (a_mofirst, .inl (cI, 64, .inl mo_firstA)), (a_mocount, .inl (cI, 64, .inl mo_countA)), (a_mobegins, .inl (cI, 64, .inl mo_beginsA)), (a_monumbers, .inl (cL, 4200, .inr (.inl mo_numbersA))), (a_moout, .inl (cI, 4000, .inl mo_outA)), (a_mofresh, .inl (cI, 4000, .inl mo_freshA)), (a_modigits, .inl (cI, 20, .inl mo_digitsA))]) hP hD hS hA [0, 1, 2, 3, 4, 5, 6, 7, 8, 9] [] [0, 1, 2, 3, 4, 5, 6, 7, 8, 9] (kRunV (rest := []) C ev_ok hE hA hP hD hS [0, 1, 2, 3, 4, 5, 6, 7, 8, 9] rfl rfl rfl (c_X6_finish hr_4) hE.1 0 6 rfl rfl (cwV 1 ht (gV kw_609 kw_611 kp_26 kw_7 kw_612) rfl rfl rfl (by decide +kernel) ⟨Nat.le_of_ble_eq_true rfl, Nat.le_of_ble_eq_true rfl⟩) rfl hl.1 rfl (Nat.le_of_ble_eq_true rfl) dX6_read_182 ⟨Nat.le_of_ble_eq_true rfl, Nat.le_of_ble_eq_true rfl⟩) rfl rfl rfl (by decide) rfl rfl rfl (fun H locs hP hD hS => ?_)
    exact k_X6_read_J185 C hE hA  mo_taped r_4.1 r_4.2.1 r_4.2.2.1 mo_used r_4.2.2.2 mo_at mo_from mo_tapeA mo_kindA _ _ _ hP hD hS (lv_sub hl [0] rfl) h
set_option maxHeartbeats 4000000 in
set_option maxRecDepth 100000 in
theorem k_X6_read_J170 {l : Launch} {p : Program} {e : Env} {s : State} {m : MethodId} {args : Array Value} {below : List Frame} {meth : Method} {c : Code} {A : Nat → Prop} {D : va_G} {cB cI cL : ClassId} {a_mo a_motape a_mokind a_mofirst a_mocount a_mobegins a_monumbers a_moout a_mofresh a_modigits : Nat} {mo_thrown : Int32} {mo_many : Int32} {mo_labels : Int32} {mo_sign : Int32} {mo_value : Int64} {mo_to : Int32} {mo_printed : Int32} {mo_written : Int32} {mo_over : Int32} {mo_firstA : Nat → Int32} {mo_countA : Nat → Int32} {mo_beginsA : Nat → Int32} {mo_numbersA : Nat → Int64} {mo_outA : Nat → Int32} {mo_freshA : Nat → Int32} {mo_digitsA : Nat → Int32} {res : Int32 × Int32 × Int32 × Int32 × Int32 × Int32 × Int32 × Int32 × Int32} (C : kx p s m args meth c prog_8_method_29_code 4 (some .int) "LinkTextModel" (.code (⟨"LinkTextModel", "read", "(I)I"⟩ : MethodName) prog_8_method_29_code 4 (some .int) :: k_tbl)) (hE : ev D cB cI cL A s) (hA : ∀ q : Nat, s.heap.size ≤ q → A q) {b_47 : Int32 → Int32 → Int32 → Int32 → Int32 → Int32 → Int32 → Int32 → (Nat → Int32) → (Nat → Int32) → Int32 → Int32 → Option (Int32 × Int32 × Int32 × Int32 × Int32 × Int32 × Int32 × Int32 × Int32)} (hb_47 : ∀ (mo_taped : Int32) (mo_fault : Int32) (mo_place : Int32) (mo_lines : Int32) (mo_used : Int32) (mo_state : Int32) (mo_at : Int32) (mo_from : Int32) (mo_tapeA : Nat → Int32) (mo_kindA : Nat → Int32) (x1 : Int32) (x2 : Int32) (H : Heap) (locs : List Loc) (ls : Array Slot), va_P D vwCl [(a_mo, .inr (6, [.int mo_thrown, .ref a_motape, .int mo_taped, .int mo_fault, .int mo_place, .int mo_lines, .ref a_mokind, .ref a_mofirst, .ref a_mocount, .ref a_mobegins, .ref a_monumbers, .int mo_used, .int mo_state, .int mo_at, .int mo_many, .int mo_labels, .int mo_sign, .long mo_value, .int mo_from, .int mo_to, .ref a_moout, .int mo_printed, .ref a_mofresh, .int mo_written, .int mo_over, .ref a_modigits])), (a_motape, .inl (cI, 4000, .inl mo_tapeA)), (a_mokind, .inl (cI, 64, .inl mo_kindA)), (a_mofirst, .inl (cI, 64, .inl mo_firstA)), (a_mocount, .inl (cI, 64, .inl mo_countA)), (a_mobegins, .inl (cI, 64, .inl mo_beginsA)), (a_monumbers, .inl (cL, 4200, .inr (.inl mo_numbersA))), (a_moout, .inl (cI, 4000, .inl mo_outA)), (a_mofresh, .inl (cI, 4000, .inl mo_freshA)), (a_modigits, .inl (cI, 20, .inl mo_digitsA))] H → va_D A [(a_mo, .inr (6, [.int mo_thrown, .ref a_motape, .int mo_taped, .int mo_fault, .int mo_place, .int mo_lines, .ref a_mokind, .ref a_mofirst, .ref a_mocount, .ref a_mobegins, .ref a_monumbers, .int mo_used, .int mo_state, .int mo_at, .int mo_many, .int mo_labels, .int mo_sign, .long mo_value, .int mo_from, .int mo_to, .ref a_moout, .int mo_printed, .ref a_mofresh, .int mo_written, .int mo_over, .ref a_modigits])), (a_motape, .inl (cI, 4000, .inl mo_tapeA)), (a_mokind, .inl (cI, 64, .inl mo_kindA)), (a_mofirst, .inl (cI, 64, .inl mo_firstA)), (a_mocount, .inl (cI, 64, .inl mo_countA)), (a_mobegins, .inl (cI, 64, .inl mo_beginsA)), (a_monumbers, .inl (cL, 4200, .inr (.inl mo_numbersA))), (a_moout, .inl (cI, 4000, .inl mo_outA)), (a_mofresh, .inl (cI, 4000, .inl mo_freshA)), (a_modigits, .inl (cI, 20, .inl mo_digitsA))] → va_S A s.heap H locs → lv_has ls 4 [(0, .ref a_mo), (1, .int x1), (2, .int x2)] → b_47 mo_taped mo_fault mo_place mo_lines mo_used mo_state mo_at mo_from mo_tapeA mo_kindA x1 x2 = some res → W p l e ({ frames := 2, cells := 0, slots := 0, locals := 43 } : Room) s m args below meth c H locs 0 0 (MQ below (kQi D vwCl [(a_mo, .inr (6, [.int mo_thrown, .ref a_motape, .int res.2.1, .int res.2.2.1, .int res.2.2.2.1, .int res.2.2.2.2.1, .ref a_mokind, .ref a_mofirst, .ref a_mocount, .ref a_mobegins, .ref a_monumbers, .int res.2.2.2.2.2.1, .int res.2.2.2.2.2.2.1, .int res.2.2.2.2.2.2.2.1, .int mo_many, .int mo_labels, .int mo_sign, .long mo_value, .int res.2.2.2.2.2.2.2.2, .int mo_to, .ref a_moout, .int mo_printed, .ref a_mofresh, .int mo_written, .int mo_over, .ref a_modigits])), (a_motape, .inl (cI, 4000, .inl mo_tapeA)), (a_mokind, .inl (cI, 64, .inl mo_kindA)), (a_mofirst, .inl (cI, 64, .inl mo_firstA)), (a_mocount, .inl (cI, 64, .inl mo_countA)), (a_mobegins, .inl (cI, 64, .inl mo_beginsA)), (a_monumbers, .inl (cL, 4200, .inr (.inl mo_numbersA))), (a_moout, .inl (cI, 4000, .inl mo_outA)), (a_mofresh, .inl (cI, 4000, .inl mo_freshA)), (a_modigits, .inl (cI, 20, .inl mo_digitsA))] res.1 A) args s 0 0 A) (F0 m 47 ls [])) :
    ∀ (mo_taped : Int32) (mo_fault : Int32) (mo_place : Int32) (mo_lines : Int32) (mo_used : Int32) (mo_state : Int32) (mo_at : Int32) (mo_from : Int32) (mo_tapeA : Nat → Int32) (mo_kindA : Nat → Int32) (x1 : Int32) (x2 : Int32) (H : Heap) (locs : List Loc) (ls : Array Slot), va_P D vwCl [(a_mo, .inr (6, [.int mo_thrown, .ref a_motape, .int mo_taped, .int mo_fault, .int mo_place, .int mo_lines, .ref a_mokind, .ref a_mofirst, .ref a_mocount, .ref a_mobegins, .ref a_monumbers, .int mo_used, .int mo_state, .int mo_at, .int mo_many, .int mo_labels, .int mo_sign, .long mo_value, .int mo_from, .int mo_to, .ref a_moout, .int mo_printed, .ref a_mofresh, .int mo_written, .int mo_over, .ref a_modigits])), (a_motape, .inl (cI, 4000, .inl mo_tapeA)), (a_mokind, .inl (cI, 64, .inl mo_kindA)), (a_mofirst, .inl (cI, 64, .inl mo_firstA)), (a_mocount, .inl (cI, 64, .inl mo_countA)), (a_mobegins, .inl (cI, 64, .inl mo_beginsA)), (a_monumbers, .inl (cL, 4200, .inr (.inl mo_numbersA))), (a_moout, .inl (cI, 4000, .inl mo_outA)), (a_mofresh, .inl (cI, 4000, .inl mo_freshA)), (a_modigits, .inl (cI, 20, .inl mo_digitsA))] H → va_D A [(a_mo, .inr (6, [.int mo_thrown, .ref a_motape, .int mo_taped, .int mo_fault, .int mo_place, .int mo_lines, .ref a_mokind, .ref a_mofirst, .ref a_mocount, .ref a_mobegins, .ref a_monumbers, .int mo_used, .int mo_state, .int mo_at, .int mo_many, .int mo_labels, .int mo_sign, .long mo_value, .int mo_from, .int mo_to, .ref a_moout, .int mo_printed, .ref a_mofresh, .int mo_written, .int mo_over, .ref a_modigits])), (a_motape, .inl (cI, 4000, .inl mo_tapeA)), (a_mokind, .inl (cI, 64, .inl mo_kindA)), (a_mofirst, .inl (cI, 64, .inl mo_firstA)), (a_mocount, .inl (cI, 64, .inl mo_countA)), (a_mobegins, .inl (cI, 64, .inl mo_beginsA)), (a_monumbers, .inl (cL, 4200, .inr (.inl mo_numbersA))), (a_moout, .inl (cI, 4000, .inl mo_outA)), (a_mofresh, .inl (cI, 4000, .inl mo_freshA)), (a_modigits, .inl (cI, 20, .inl mo_digitsA))] → va_S A s.heap H locs → lv_has ls 4 [(0, .ref a_mo), (1, .int x1), (2, .int x2)] → m_X6_read_J170 b_47 mo_taped mo_fault mo_place mo_lines mo_used mo_state mo_at mo_from mo_tapeA mo_kindA x1 x2 = some res → W p l e ({ frames := 2, cells := 0, slots := 0, locals := 43 } : Room) s m args below meth c H locs 0 0 (MQ below (kQi D vwCl [(a_mo, .inr (6, [.int mo_thrown, .ref a_motape, .int res.2.1, .int res.2.2.1, .int res.2.2.2.1, .int res.2.2.2.2.1, .ref a_mokind, .ref a_mofirst, .ref a_mocount, .ref a_mobegins, .ref a_monumbers, .int res.2.2.2.2.2.1, .int res.2.2.2.2.2.2.1, .int res.2.2.2.2.2.2.2.1, .int mo_many, .int mo_labels, .int mo_sign, .long mo_value, .int res.2.2.2.2.2.2.2.2, .int mo_to, .ref a_moout, .int mo_printed, .ref a_mofresh, .int mo_written, .int mo_over, .ref a_modigits])), (a_motape, .inl (cI, 4000, .inl mo_tapeA)), (a_mokind, .inl (cI, 64, .inl mo_kindA)), (a_mofirst, .inl (cI, 64, .inl mo_firstA)), (a_mocount, .inl (cI, 64, .inl mo_countA)), (a_mobegins, .inl (cI, 64, .inl mo_beginsA)), (a_monumbers, .inl (cL, 4200, .inr (.inl mo_numbersA))), (a_moout, .inl (cI, 4000, .inl mo_outA)), (a_mofresh, .inl (cI, 4000, .inl mo_freshA)), (a_modigits, .inl (cI, 20, .inl mo_digitsA))] res.1 A) args s 0 0 A) (F0 m 170 ls []) := by
  obtain ⟨hx, hb, hr, hml, hown, hts, hlocks⟩ := id C
  have ht : ∀ w ∈ k_tbl, w.before args s = true := fun w h => hts w (List.mem_cons_of_mem _ h)
  intro mo_taped mo_fault mo_place mo_lines mo_used mo_state mo_at mo_from mo_tapeA mo_kindA x1 x2 H locs ls hP hD hS hl h
  unfold m_X6_read_J170 at h
  refine lv_goto (tgt := 47) hx hb dX6_read_170 (by decide) ?_
  exact hb_47 mo_taped mo_fault mo_place mo_lines mo_used mo_state mo_at mo_from mo_tapeA mo_kindA x1 x2 _ _ _ hP hD hS (lv_sub hl [0, 1, 2] rfl) h
set_option maxHeartbeats 4000000 in
set_option maxRecDepth 100000 in
theorem k_X6_read_J154 {l : Launch} {p : Program} {e : Env} {s : State} {m : MethodId} {args : Array Value} {below : List Frame} {meth : Method} {c : Code} {A : Nat → Prop} {D : va_G} {cB cI cL : ClassId} {a_mo a_motape a_mokind a_mofirst a_mocount a_mobegins a_monumbers a_moout a_mofresh a_modigits : Nat} {mo_thrown : Int32} {mo_many : Int32} {mo_labels : Int32} {mo_sign : Int32} {mo_value : Int64} {mo_to : Int32} {mo_printed : Int32} {mo_written : Int32} {mo_over : Int32} {mo_firstA : Nat → Int32} {mo_countA : Nat → Int32} {mo_beginsA : Nat → Int32} {mo_numbersA : Nat → Int64} {mo_outA : Nat → Int32} {mo_freshA : Nat → Int32} {mo_digitsA : Nat → Int32} {res : Int32 × Int32 × Int32 × Int32 × Int32 × Int32 × Int32 × Int32 × Int32} (C : kx p s m args meth c prog_8_method_29_code 4 (some .int) "LinkTextModel" (.code (⟨"LinkTextModel", "read", "(I)I"⟩ : MethodName) prog_8_method_29_code 4 (some .int) :: k_tbl)) (hE : ev D cB cI cL A s) (hA : ∀ q : Nat, s.heap.size ≤ q → A q) {b_47 : Int32 → Int32 → Int32 → Int32 → Int32 → Int32 → Int32 → Int32 → (Nat → Int32) → (Nat → Int32) → Int32 → Int32 → Option (Int32 × Int32 × Int32 × Int32 × Int32 × Int32 × Int32 × Int32 × Int32)} (hb_47 : ∀ (mo_taped : Int32) (mo_fault : Int32) (mo_place : Int32) (mo_lines : Int32) (mo_used : Int32) (mo_state : Int32) (mo_at : Int32) (mo_from : Int32) (mo_tapeA : Nat → Int32) (mo_kindA : Nat → Int32) (x1 : Int32) (x2 : Int32) (H : Heap) (locs : List Loc) (ls : Array Slot), va_P D vwCl [(a_mo, .inr (6, [.int mo_thrown, .ref a_motape, .int mo_taped, .int mo_fault, .int mo_place, .int mo_lines, .ref a_mokind, .ref a_mofirst, .ref a_mocount, .ref a_mobegins, .ref a_monumbers, .int mo_used, .int mo_state, .int mo_at, .int mo_many, .int mo_labels, .int mo_sign, .long mo_value, .int mo_from, .int mo_to, .ref a_moout, .int mo_printed, .ref a_mofresh, .int mo_written, .int mo_over, .ref a_modigits])), (a_motape, .inl (cI, 4000, .inl mo_tapeA)), (a_mokind, .inl (cI, 64, .inl mo_kindA)), (a_mofirst, .inl (cI, 64, .inl mo_firstA)), (a_mocount, .inl (cI, 64, .inl mo_countA)), (a_mobegins, .inl (cI, 64, .inl mo_beginsA)), (a_monumbers, .inl (cL, 4200, .inr (.inl mo_numbersA))), (a_moout, .inl (cI, 4000, .inl mo_outA)), (a_mofresh, .inl (cI, 4000, .inl mo_freshA)), (a_modigits, .inl (cI, 20, .inl mo_digitsA))] H → va_D A [(a_mo, .inr (6, [.int mo_thrown, .ref a_motape, .int mo_taped, .int mo_fault, .int mo_place, .int mo_lines, .ref a_mokind, .ref a_mofirst, .ref a_mocount, .ref a_mobegins, .ref a_monumbers, .int mo_used, .int mo_state, .int mo_at, .int mo_many, .int mo_labels, .int mo_sign, .long mo_value, .int mo_from, .int mo_to, .ref a_moout, .int mo_printed, .ref a_mofresh, .int mo_written, .int mo_over, .ref a_modigits])), (a_motape, .inl (cI, 4000, .inl mo_tapeA)), (a_mokind, .inl (cI, 64, .inl mo_kindA)), (a_mofirst, .inl (cI, 64, .inl mo_firstA)), (a_mocount, .inl (cI, 64, .inl mo_countA)), (a_mobegins, .inl (cI, 64, .inl mo_beginsA)), (a_monumbers, .inl (cL, 4200, .inr (.inl mo_numbersA))), (a_moout, .inl (cI, 4000, .inl mo_outA)), (a_mofresh, .inl (cI, 4000, .inl mo_freshA)), (a_modigits, .inl (cI, 20, .inl mo_digitsA))] → va_S A s.heap H locs → lv_has ls 4 [(0, .ref a_mo), (1, .int x1), (2, .int x2)] → b_47 mo_taped mo_fault mo_place mo_lines mo_used mo_state mo_at mo_from mo_tapeA mo_kindA x1 x2 = some res → W p l e ({ frames := 2, cells := 0, slots := 0, locals := 43 } : Room) s m args below meth c H locs 0 0 (MQ below (kQi D vwCl [(a_mo, .inr (6, [.int mo_thrown, .ref a_motape, .int res.2.1, .int res.2.2.1, .int res.2.2.2.1, .int res.2.2.2.2.1, .ref a_mokind, .ref a_mofirst, .ref a_mocount, .ref a_mobegins, .ref a_monumbers, .int res.2.2.2.2.2.1, .int res.2.2.2.2.2.2.1, .int res.2.2.2.2.2.2.2.1, .int mo_many, .int mo_labels, .int mo_sign, .long mo_value, .int res.2.2.2.2.2.2.2.2, .int mo_to, .ref a_moout, .int mo_printed, .ref a_mofresh, .int mo_written, .int mo_over, .ref a_modigits])), (a_motape, .inl (cI, 4000, .inl mo_tapeA)), (a_mokind, .inl (cI, 64, .inl mo_kindA)), (a_mofirst, .inl (cI, 64, .inl mo_firstA)), (a_mocount, .inl (cI, 64, .inl mo_countA)), (a_mobegins, .inl (cI, 64, .inl mo_beginsA)), (a_monumbers, .inl (cL, 4200, .inr (.inl mo_numbersA))), (a_moout, .inl (cI, 4000, .inl mo_outA)), (a_mofresh, .inl (cI, 4000, .inl mo_freshA)), (a_modigits, .inl (cI, 20, .inl mo_digitsA))] res.1 A) args s 0 0 A) (F0 m 47 ls [])) :
    ∀ (mo_taped : Int32) (mo_fault : Int32) (mo_place : Int32) (mo_lines : Int32) (mo_used : Int32) (mo_state : Int32) (mo_at : Int32) (mo_from : Int32) (mo_tapeA : Nat → Int32) (mo_kindA : Nat → Int32) (x1 : Int32) (x2 : Int32) (x3 : Int32) (H : Heap) (locs : List Loc) (ls : Array Slot), va_P D vwCl [(a_mo, .inr (6, [.int mo_thrown, .ref a_motape, .int mo_taped, .int mo_fault, .int mo_place, .int mo_lines, .ref a_mokind, .ref a_mofirst, .ref a_mocount, .ref a_mobegins, .ref a_monumbers, .int mo_used, .int mo_state, .int mo_at, .int mo_many, .int mo_labels, .int mo_sign, .long mo_value, .int mo_from, .int mo_to, .ref a_moout, .int mo_printed, .ref a_mofresh, .int mo_written, .int mo_over, .ref a_modigits])), (a_motape, .inl (cI, 4000, .inl mo_tapeA)), (a_mokind, .inl (cI, 64, .inl mo_kindA)), (a_mofirst, .inl (cI, 64, .inl mo_firstA)), (a_mocount, .inl (cI, 64, .inl mo_countA)), (a_mobegins, .inl (cI, 64, .inl mo_beginsA)), (a_monumbers, .inl (cL, 4200, .inr (.inl mo_numbersA))), (a_moout, .inl (cI, 4000, .inl mo_outA)), (a_mofresh, .inl (cI, 4000, .inl mo_freshA)), (a_modigits, .inl (cI, 20, .inl mo_digitsA))] H → va_D A [(a_mo, .inr (6, [.int mo_thrown, .ref a_motape, .int mo_taped, .int mo_fault, .int mo_place, .int mo_lines, .ref a_mokind, .ref a_mofirst, .ref a_mocount, .ref a_mobegins, .ref a_monumbers, .int mo_used, .int mo_state, .int mo_at, .int mo_many, .int mo_labels, .int mo_sign, .long mo_value, .int mo_from, .int mo_to, .ref a_moout, .int mo_printed, .ref a_mofresh, .int mo_written, .int mo_over, .ref a_modigits])), (a_motape, .inl (cI, 4000, .inl mo_tapeA)), (a_mokind, .inl (cI, 64, .inl mo_kindA)), (a_mofirst, .inl (cI, 64, .inl mo_firstA)), (a_mocount, .inl (cI, 64, .inl mo_countA)), (a_mobegins, .inl (cI, 64, .inl mo_beginsA)), (a_monumbers, .inl (cL, 4200, .inr (.inl mo_numbersA))), (a_moout, .inl (cI, 4000, .inl mo_outA)), (a_mofresh, .inl (cI, 4000, .inl mo_freshA)), (a_modigits, .inl (cI, 20, .inl mo_digitsA))] → va_S A s.heap H locs → lv_has ls 4 [(0, .ref a_mo), (1, .int x1), (2, .int x2), (3, .int x3)] → m_X6_read_J154 b_47 mo_taped mo_fault mo_place mo_lines mo_used mo_state mo_at mo_from mo_tapeA mo_kindA x1 x2 x3 = some res → W p l e ({ frames := 2, cells := 0, slots := 0, locals := 43 } : Room) s m args below meth c H locs 0 0 (MQ below (kQi D vwCl [(a_mo, .inr (6, [.int mo_thrown, .ref a_motape, .int res.2.1, .int res.2.2.1, .int res.2.2.2.1, .int res.2.2.2.2.1, .ref a_mokind, .ref a_mofirst, .ref a_mocount, .ref a_mobegins, .ref a_monumbers, .int res.2.2.2.2.2.1, .int res.2.2.2.2.2.2.1, .int res.2.2.2.2.2.2.2.1, .int mo_many, .int mo_labels, .int mo_sign, .long mo_value, .int res.2.2.2.2.2.2.2.2, .int mo_to, .ref a_moout, .int mo_printed, .ref a_mofresh, .int mo_written, .int mo_over, .ref a_modigits])), (a_motape, .inl (cI, 4000, .inl mo_tapeA)), (a_mokind, .inl (cI, 64, .inl mo_kindA)), (a_mofirst, .inl (cI, 64, .inl mo_firstA)), (a_mocount, .inl (cI, 64, .inl mo_countA)), (a_mobegins, .inl (cI, 64, .inl mo_beginsA)), (a_monumbers, .inl (cL, 4200, .inr (.inl mo_numbersA))), (a_moout, .inl (cI, 4000, .inl mo_outA)), (a_mofresh, .inl (cI, 4000, .inl mo_freshA)), (a_modigits, .inl (cI, 20, .inl mo_digitsA))] res.1 A) args s 0 0 A) (F0 m 154 ls []) := by
  obtain ⟨hx, hb, hr, hml, hown, hts, hlocks⟩ := id C
  have ht : ∀ w ∈ k_tbl, w.before args s = true := fun w h => hts w (List.mem_cons_of_mem _ h)
  intro mo_taped mo_fault mo_place mo_lines mo_used mo_state mo_at mo_from mo_tapeA mo_kindA x1 x2 x3 H locs ls hP hD hS hl h
  unfold m_X6_read_J154 at h
  refine lv_iload_n hx hb dX6_read_154 rfl (lv_at hl 2 rfl) ?_
  refine lv_if_ne (tgt := 170) hx hb dX6_read_155 (by decide) (fun c_5 => ?_) (fun c_5 => ?_)
  · replace h := o_f c_5 h
    exact k_X6_read_J170 C hE hA hb_47 mo_taped mo_fault mo_place mo_lines mo_used mo_state mo_at mo_from mo_tapeA mo_kindA x1 x2 _ _ _ hP hD hS (lv_sub hl [0, 1, 2] rfl) h
  · replace h := o_t c_5 h
    refine lv_iload_n hx hb dX6_read_158 rfl (lv_at hl 3 rfl) ?_
    refine lv_bipush (v := 32) hx hb dX6_read_159 (by decide) ?_
    refine lv_icmp_eq (tgt := 170) hx hb dX6_read_161 (by decide) (fun c_6 => ?_) (fun c_6 => ?_)
    · replace h := o_t c_6 h
      exact k_X6_read_J170 C hE hA hb_47 mo_taped mo_fault mo_place mo_lines mo_used mo_state mo_at mo_from mo_tapeA mo_kindA x1 x2 _ _ _ hP hD hS (lv_sub hl [0, 1, 2] rfl) h
    · replace h := o_f c_6 h
      refine lv_aload_n hx hb dX6_read_164 rfl (lv_at hl 0 rfl) ?_
      refine lv_iload_n hx hb dX6_read_165 rfl (lv_at hl 3 rfl) ?_
      refine lv_iload_n hx hb dX6_read_166 rfl (lv_at hl 1 rfl) ?_
      cases h
set_option maxHeartbeats 4000000 in
set_option maxRecDepth 100000 in
theorem k_X6_read_J120 {l : Launch} {p : Program} {e : Env} {s : State} {m : MethodId} {args : Array Value} {below : List Frame} {meth : Method} {c : Code} {A : Nat → Prop} {D : va_G} {cB cI cL : ClassId} {a_mo a_motape a_mokind a_mofirst a_mocount a_mobegins a_monumbers a_moout a_mofresh a_modigits : Nat} {mo_thrown : Int32} {mo_many : Int32} {mo_labels : Int32} {mo_sign : Int32} {mo_value : Int64} {mo_to : Int32} {mo_printed : Int32} {mo_written : Int32} {mo_over : Int32} {mo_firstA : Nat → Int32} {mo_countA : Nat → Int32} {mo_beginsA : Nat → Int32} {mo_numbersA : Nat → Int64} {mo_outA : Nat → Int32} {mo_freshA : Nat → Int32} {mo_digitsA : Nat → Int32} {res : Int32 × Int32 × Int32 × Int32 × Int32 × Int32 × Int32 × Int32 × Int32} (C : kx p s m args meth c prog_8_method_29_code 4 (some .int) "LinkTextModel" (.code (⟨"LinkTextModel", "read", "(I)I"⟩ : MethodName) prog_8_method_29_code 4 (some .int) :: k_tbl)) (hE : ev D cB cI cL A s) (hA : ∀ q : Nat, s.heap.size ≤ q → A q) {b_47 : Int32 → Int32 → Int32 → Int32 → Int32 → Int32 → Int32 → Int32 → (Nat → Int32) → (Nat → Int32) → Int32 → Int32 → Option (Int32 × Int32 × Int32 × Int32 × Int32 × Int32 × Int32 × Int32 × Int32)} (hb_47 : ∀ (mo_taped : Int32) (mo_fault : Int32) (mo_place : Int32) (mo_lines : Int32) (mo_used : Int32) (mo_state : Int32) (mo_at : Int32) (mo_from : Int32) (mo_tapeA : Nat → Int32) (mo_kindA : Nat → Int32) (x1 : Int32) (x2 : Int32) (H : Heap) (locs : List Loc) (ls : Array Slot), va_P D vwCl [(a_mo, .inr (6, [.int mo_thrown, .ref a_motape, .int mo_taped, .int mo_fault, .int mo_place, .int mo_lines, .ref a_mokind, .ref a_mofirst, .ref a_mocount, .ref a_mobegins, .ref a_monumbers, .int mo_used, .int mo_state, .int mo_at, .int mo_many, .int mo_labels, .int mo_sign, .long mo_value, .int mo_from, .int mo_to, .ref a_moout, .int mo_printed, .ref a_mofresh, .int mo_written, .int mo_over, .ref a_modigits])), (a_motape, .inl (cI, 4000, .inl mo_tapeA)), (a_mokind, .inl (cI, 64, .inl mo_kindA)), (a_mofirst, .inl (cI, 64, .inl mo_firstA)), (a_mocount, .inl (cI, 64, .inl mo_countA)), (a_mobegins, .inl (cI, 64, .inl mo_beginsA)), (a_monumbers, .inl (cL, 4200, .inr (.inl mo_numbersA))), (a_moout, .inl (cI, 4000, .inl mo_outA)), (a_mofresh, .inl (cI, 4000, .inl mo_freshA)), (a_modigits, .inl (cI, 20, .inl mo_digitsA))] H → va_D A [(a_mo, .inr (6, [.int mo_thrown, .ref a_motape, .int mo_taped, .int mo_fault, .int mo_place, .int mo_lines, .ref a_mokind, .ref a_mofirst, .ref a_mocount, .ref a_mobegins, .ref a_monumbers, .int mo_used, .int mo_state, .int mo_at, .int mo_many, .int mo_labels, .int mo_sign, .long mo_value, .int mo_from, .int mo_to, .ref a_moout, .int mo_printed, .ref a_mofresh, .int mo_written, .int mo_over, .ref a_modigits])), (a_motape, .inl (cI, 4000, .inl mo_tapeA)), (a_mokind, .inl (cI, 64, .inl mo_kindA)), (a_mofirst, .inl (cI, 64, .inl mo_firstA)), (a_mocount, .inl (cI, 64, .inl mo_countA)), (a_mobegins, .inl (cI, 64, .inl mo_beginsA)), (a_monumbers, .inl (cL, 4200, .inr (.inl mo_numbersA))), (a_moout, .inl (cI, 4000, .inl mo_outA)), (a_mofresh, .inl (cI, 4000, .inl mo_freshA)), (a_modigits, .inl (cI, 20, .inl mo_digitsA))] → va_S A s.heap H locs → lv_has ls 4 [(0, .ref a_mo), (1, .int x1), (2, .int x2)] → b_47 mo_taped mo_fault mo_place mo_lines mo_used mo_state mo_at mo_from mo_tapeA mo_kindA x1 x2 = some res → W p l e ({ frames := 2, cells := 0, slots := 0, locals := 43 } : Room) s m args below meth c H locs 0 0 (MQ below (kQi D vwCl [(a_mo, .inr (6, [.int mo_thrown, .ref a_motape, .int res.2.1, .int res.2.2.1, .int res.2.2.2.1, .int res.2.2.2.2.1, .ref a_mokind, .ref a_mofirst, .ref a_mocount, .ref a_mobegins, .ref a_monumbers, .int res.2.2.2.2.2.1, .int res.2.2.2.2.2.2.1, .int res.2.2.2.2.2.2.2.1, .int mo_many, .int mo_labels, .int mo_sign, .long mo_value, .int res.2.2.2.2.2.2.2.2, .int mo_to, .ref a_moout, .int mo_printed, .ref a_mofresh, .int mo_written, .int mo_over, .ref a_modigits])), (a_motape, .inl (cI, 4000, .inl mo_tapeA)), (a_mokind, .inl (cI, 64, .inl mo_kindA)), (a_mofirst, .inl (cI, 64, .inl mo_firstA)), (a_mocount, .inl (cI, 64, .inl mo_countA)), (a_mobegins, .inl (cI, 64, .inl mo_beginsA)), (a_monumbers, .inl (cL, 4200, .inr (.inl mo_numbersA))), (a_moout, .inl (cI, 4000, .inl mo_outA)), (a_mofresh, .inl (cI, 4000, .inl mo_freshA)), (a_modigits, .inl (cI, 20, .inl mo_digitsA))] res.1 A) args s 0 0 A) (F0 m 47 ls [])) :
    ∀ (mo_taped : Int32) (mo_fault : Int32) (mo_place : Int32) (mo_lines : Int32) (mo_used : Int32) (mo_state : Int32) (mo_at : Int32) (mo_from : Int32) (mo_tapeA : Nat → Int32) (mo_kindA : Nat → Int32) (x1 : Int32) (x2 : Int32) (x3 : Int32) (H : Heap) (locs : List Loc) (ls : Array Slot), va_P D vwCl [(a_mo, .inr (6, [.int mo_thrown, .ref a_motape, .int mo_taped, .int mo_fault, .int mo_place, .int mo_lines, .ref a_mokind, .ref a_mofirst, .ref a_mocount, .ref a_mobegins, .ref a_monumbers, .int mo_used, .int mo_state, .int mo_at, .int mo_many, .int mo_labels, .int mo_sign, .long mo_value, .int mo_from, .int mo_to, .ref a_moout, .int mo_printed, .ref a_mofresh, .int mo_written, .int mo_over, .ref a_modigits])), (a_motape, .inl (cI, 4000, .inl mo_tapeA)), (a_mokind, .inl (cI, 64, .inl mo_kindA)), (a_mofirst, .inl (cI, 64, .inl mo_firstA)), (a_mocount, .inl (cI, 64, .inl mo_countA)), (a_mobegins, .inl (cI, 64, .inl mo_beginsA)), (a_monumbers, .inl (cL, 4200, .inr (.inl mo_numbersA))), (a_moout, .inl (cI, 4000, .inl mo_outA)), (a_mofresh, .inl (cI, 4000, .inl mo_freshA)), (a_modigits, .inl (cI, 20, .inl mo_digitsA))] H → va_D A [(a_mo, .inr (6, [.int mo_thrown, .ref a_motape, .int mo_taped, .int mo_fault, .int mo_place, .int mo_lines, .ref a_mokind, .ref a_mofirst, .ref a_mocount, .ref a_mobegins, .ref a_monumbers, .int mo_used, .int mo_state, .int mo_at, .int mo_many, .int mo_labels, .int mo_sign, .long mo_value, .int mo_from, .int mo_to, .ref a_moout, .int mo_printed, .ref a_mofresh, .int mo_written, .int mo_over, .ref a_modigits])), (a_motape, .inl (cI, 4000, .inl mo_tapeA)), (a_mokind, .inl (cI, 64, .inl mo_kindA)), (a_mofirst, .inl (cI, 64, .inl mo_firstA)), (a_mocount, .inl (cI, 64, .inl mo_countA)), (a_mobegins, .inl (cI, 64, .inl mo_beginsA)), (a_monumbers, .inl (cL, 4200, .inr (.inl mo_numbersA))), (a_moout, .inl (cI, 4000, .inl mo_outA)), (a_mofresh, .inl (cI, 4000, .inl mo_freshA)), (a_modigits, .inl (cI, 20, .inl mo_digitsA))] → va_S A s.heap H locs → lv_has ls 4 [(0, .ref a_mo), (1, .int x1), (2, .int x2), (3, .int x3)] → m_X6_read_J120 b_47 mo_taped mo_fault mo_place mo_lines mo_used mo_state mo_at mo_from mo_tapeA mo_kindA x1 x2 x3 = some res → W p l e ({ frames := 2, cells := 0, slots := 0, locals := 43 } : Room) s m args below meth c H locs 0 0 (MQ below (kQi D vwCl [(a_mo, .inr (6, [.int mo_thrown, .ref a_motape, .int res.2.1, .int res.2.2.1, .int res.2.2.2.1, .int res.2.2.2.2.1, .ref a_mokind, .ref a_mofirst, .ref a_mocount, .ref a_mobegins, .ref a_monumbers, .int res.2.2.2.2.2.1, .int res.2.2.2.2.2.2.1, .int res.2.2.2.2.2.2.2.1, .int mo_many, .int mo_labels, .int mo_sign, .long mo_value, .int res.2.2.2.2.2.2.2.2, .int mo_to, .ref a_moout, .int mo_printed, .ref a_mofresh, .int mo_written, .int mo_over, .ref a_modigits])), (a_motape, .inl (cI, 4000, .inl mo_tapeA)), (a_mokind, .inl (cI, 64, .inl mo_kindA)), (a_mofirst, .inl (cI, 64, .inl mo_firstA)), (a_mocount, .inl (cI, 64, .inl mo_countA)), (a_mobegins, .inl (cI, 64, .inl mo_beginsA)), (a_monumbers, .inl (cL, 4200, .inr (.inl mo_numbersA))), (a_moout, .inl (cI, 4000, .inl mo_outA)), (a_mofresh, .inl (cI, 4000, .inl mo_freshA)), (a_modigits, .inl (cI, 20, .inl mo_digitsA))] res.1 A) args s 0 0 A) (F0 m 120 ls []) := by
  obtain ⟨hx, hb, hr, hml, hown, hts, hlocks⟩ := id C
  have ht : ∀ w ∈ k_tbl, w.before args s = true := fun w h => hts w (List.mem_cons_of_mem _ h)
  intro mo_taped mo_fault mo_place mo_lines mo_used mo_state mo_at mo_from mo_tapeA mo_kindA x1 x2 x3 H locs ls hP hD hS hl h
  unfold m_X6_read_J120 at h
  refine lv_iload_n hx hb dX6_read_120 rfl (lv_at hl 3 rfl) ?_
  refine lv_bipush (v := 10) hx hb dX6_read_121 (by decide) ?_
  refine lv_icmp_ne (tgt := 139) hx hb dX6_read_123 (by decide) (fun c_7 => ?_) (fun c_7 => ?_)
  · replace h := o_f c_7 h
    refine lv_iload_n hx hb dX6_read_139 rfl (lv_at hl 2 rfl) ?_
    refine lv_if_ne (tgt := 154) hx hb dX6_read_140 (by decide) (fun c_8 => ?_) (fun c_8 => ?_)
    · replace h := o_f c_8 h
      exact k_X6_read_J154 C hE hA hb_47 mo_taped mo_fault mo_place mo_lines mo_used mo_state mo_at mo_from mo_tapeA mo_kindA x1 x2 x3 _ _ _ hP hD hS (lv_sub hl [0, 1, 2, 3] rfl) h
    · replace h := o_t c_8 h
      refine lv_iload_n hx hb dX6_read_143 rfl (lv_at hl 3 rfl) ?_
      refine lv_bipush (v := 35) hx hb dX6_read_144 (by decide) ?_
      refine lv_icmp_ne (tgt := 154) hx hb dX6_read_146 (by decide) (fun c_9 => ?_) (fun c_9 => ?_)
      · replace h := o_f c_9 h
        exact k_X6_read_J154 C hE hA hb_47 mo_taped mo_fault mo_place mo_lines mo_used mo_state mo_at mo_from mo_tapeA mo_kindA x1 x2 x3 _ _ _ hP hD hS (lv_sub hl [0, 1, 2, 3] rfl) h
      · replace h := o_t c_9 h
        refine lv_iconst (v := 1) hx hb dX6_read_149 (by decide) ?_
        refine lv_istore_n (lv' := [(2, .int (1 : Int32)), (0, .ref a_mo), (1, .int x1), (3, .int x3)]) hx hb dX6_read_150 rfl hl (by decide) rfl (fun ls hl => ?_)
        refine lv_goto (tgt := 170) hx hb dX6_read_151 (by decide) ?_
        exact k_X6_read_J170 C hE hA hb_47 mo_taped mo_fault mo_place mo_lines mo_used mo_state mo_at mo_from mo_tapeA mo_kindA x1 (1 : Int32) _ _ _ hP hD hS (lv_sub hl [1, 2, 0] rfl) h
  · replace h := o_t c_7 h
    refine lv_aload_n hx hb dX6_read_126 rfl (lv_at hl 0 rfl) ?_
    refine lv_aload_n hx hb dX6_read_127 rfl (lv_at hl 0 rfl) ?_
    refine va_get (D := D) (ci := 6) (v := .int mo_from) (C := RX6) (T := TX6) (N := 26) hx hb ht inX6 hown hE.1 hP 0 rfl rfl 18 (by decide) (ht _ kw_532) (fun _ h9 => h9) rfl dX6_read_128 ?_
    obtain ⟨r_10, hr_10, h⟩ := o_b_s h
    refine kCv (w' := [(a_mo, .inr (6, [.int mo_thrown, .ref a_motape, .int mo_taped, .int r_10.1, .int r_10.2.1, .int r_10.2.2.1, .ref a_mokind, .ref a_mofirst, .ref a_mocount, .ref a_mobegins, .ref a_monumbers, .int mo_used, .int r_10.2.2.2, .int mo_at, .int mo_many, .int mo_labels, .int mo_sign, .long mo_value, .int mo_from, .int mo_to, .ref a_moout, .int mo_printed, .ref a_mofresh, .int mo_written, .int mo_over, .ref a_modigits])), (a_motape, .inl (cI, 4000, .inl mo_tapeA)), (a_mokind, .inl (cI, 64, .inl mo_kindA)), (a_mofirst, .inl (cI, 64, .inl mo_firstA)), (a_mocount, .inl (cI, 64, .inl mo_countA)), (a_mobegins, .inl (cI, 64, .inl mo_beginsA)), (a_monumbers, .inl (cL, 4200, .inr (.inl mo_numbersA))), (a_moout, .inl (cI, 4000, .inl mo_outA)), (a_mofresh, .inl (cI, 4000, .inl mo_freshA)), (a_modigits, .inl (cI, 20, .inl mo_digitsA))]) hP hD hS hA [0, 1, 2, 3, 4, 5, 6, 7, 8, 9] [] [0, 1, 2, 3, 4, 5, 6, 7, 8, 9] (kRunV (rest := []) C ev_ok hE hA hP hD hS [0, 1, 2, 3, 4, 5, 6, 7, 8, 9] rfl rfl rfl (c_X6_finish hr_10) hE.1 0 6 rfl rfl (cwV 1 ht (gV kw_609 kw_611 kp_26 kw_7 kw_612) rfl rfl rfl (by decide +kernel) ⟨Nat.le_of_ble_eq_true rfl, Nat.le_of_ble_eq_true rfl⟩) rfl hl.1 rfl (Nat.le_of_ble_eq_true rfl) dX6_read_131 ⟨Nat.le_of_ble_eq_true rfl, Nat.le_of_ble_eq_true rfl⟩) rfl rfl rfl (by decide) rfl rfl rfl (fun H locs hP hD hS => ?_)
    refine lv_iconst (v := 0) hx hb dX6_read_134 (by decide) ?_
    refine lv_istore_n (lv' := [(2, .int (0 : Int32)), (0, .ref a_mo), (1, .int x1), (3, .int x3)]) hx hb dX6_read_135 rfl hl (by decide) rfl (fun ls hl => ?_)
    refine lv_goto (tgt := 170) hx hb dX6_read_136 (by decide) ?_
    exact k_X6_read_J170 C hE hA hb_47 mo_taped r_10.1 r_10.2.1 r_10.2.2.1 mo_used r_10.2.2.2 mo_at mo_from mo_tapeA mo_kindA x1 (0 : Int32) _ _ _ hP hD hS (lv_sub hl [1, 2, 0] rfl) h
set_option maxHeartbeats 4000000 in
set_option maxRecDepth 100000 in
theorem k_X6_read_J108 {l : Launch} {p : Program} {e : Env} {s : State} {m : MethodId} {args : Array Value} {below : List Frame} {meth : Method} {c : Code} {A : Nat → Prop} {D : va_G} {cB cI cL : ClassId} {a_mo a_motape a_mokind a_mofirst a_mocount a_mobegins a_monumbers a_moout a_mofresh a_modigits : Nat} {mo_thrown : Int32} {mo_many : Int32} {mo_labels : Int32} {mo_sign : Int32} {mo_value : Int64} {mo_to : Int32} {mo_printed : Int32} {mo_written : Int32} {mo_over : Int32} {mo_firstA : Nat → Int32} {mo_countA : Nat → Int32} {mo_beginsA : Nat → Int32} {mo_numbersA : Nat → Int64} {mo_outA : Nat → Int32} {mo_freshA : Nat → Int32} {mo_digitsA : Nat → Int32} {res : Int32 × Int32 × Int32 × Int32 × Int32 × Int32 × Int32 × Int32 × Int32} (C : kx p s m args meth c prog_8_method_29_code 4 (some .int) "LinkTextModel" (.code (⟨"LinkTextModel", "read", "(I)I"⟩ : MethodName) prog_8_method_29_code 4 (some .int) :: k_tbl)) (hE : ev D cB cI cL A s) (hA : ∀ q : Nat, s.heap.size ≤ q → A q) {b_47 : Int32 → Int32 → Int32 → Int32 → Int32 → Int32 → Int32 → Int32 → (Nat → Int32) → (Nat → Int32) → Int32 → Int32 → Option (Int32 × Int32 × Int32 × Int32 × Int32 × Int32 × Int32 × Int32 × Int32)} (hb_47 : ∀ (mo_taped : Int32) (mo_fault : Int32) (mo_place : Int32) (mo_lines : Int32) (mo_used : Int32) (mo_state : Int32) (mo_at : Int32) (mo_from : Int32) (mo_tapeA : Nat → Int32) (mo_kindA : Nat → Int32) (x1 : Int32) (x2 : Int32) (H : Heap) (locs : List Loc) (ls : Array Slot), va_P D vwCl [(a_mo, .inr (6, [.int mo_thrown, .ref a_motape, .int mo_taped, .int mo_fault, .int mo_place, .int mo_lines, .ref a_mokind, .ref a_mofirst, .ref a_mocount, .ref a_mobegins, .ref a_monumbers, .int mo_used, .int mo_state, .int mo_at, .int mo_many, .int mo_labels, .int mo_sign, .long mo_value, .int mo_from, .int mo_to, .ref a_moout, .int mo_printed, .ref a_mofresh, .int mo_written, .int mo_over, .ref a_modigits])), (a_motape, .inl (cI, 4000, .inl mo_tapeA)), (a_mokind, .inl (cI, 64, .inl mo_kindA)), (a_mofirst, .inl (cI, 64, .inl mo_firstA)), (a_mocount, .inl (cI, 64, .inl mo_countA)), (a_mobegins, .inl (cI, 64, .inl mo_beginsA)), (a_monumbers, .inl (cL, 4200, .inr (.inl mo_numbersA))), (a_moout, .inl (cI, 4000, .inl mo_outA)), (a_mofresh, .inl (cI, 4000, .inl mo_freshA)), (a_modigits, .inl (cI, 20, .inl mo_digitsA))] H → va_D A [(a_mo, .inr (6, [.int mo_thrown, .ref a_motape, .int mo_taped, .int mo_fault, .int mo_place, .int mo_lines, .ref a_mokind, .ref a_mofirst, .ref a_mocount, .ref a_mobegins, .ref a_monumbers, .int mo_used, .int mo_state, .int mo_at, .int mo_many, .int mo_labels, .int mo_sign, .long mo_value, .int mo_from, .int mo_to, .ref a_moout, .int mo_printed, .ref a_mofresh, .int mo_written, .int mo_over, .ref a_modigits])), (a_motape, .inl (cI, 4000, .inl mo_tapeA)), (a_mokind, .inl (cI, 64, .inl mo_kindA)), (a_mofirst, .inl (cI, 64, .inl mo_firstA)), (a_mocount, .inl (cI, 64, .inl mo_countA)), (a_mobegins, .inl (cI, 64, .inl mo_beginsA)), (a_monumbers, .inl (cL, 4200, .inr (.inl mo_numbersA))), (a_moout, .inl (cI, 4000, .inl mo_outA)), (a_mofresh, .inl (cI, 4000, .inl mo_freshA)), (a_modigits, .inl (cI, 20, .inl mo_digitsA))] → va_S A s.heap H locs → lv_has ls 4 [(0, .ref a_mo), (1, .int x1), (2, .int x2)] → b_47 mo_taped mo_fault mo_place mo_lines mo_used mo_state mo_at mo_from mo_tapeA mo_kindA x1 x2 = some res → W p l e ({ frames := 2, cells := 0, slots := 0, locals := 43 } : Room) s m args below meth c H locs 0 0 (MQ below (kQi D vwCl [(a_mo, .inr (6, [.int mo_thrown, .ref a_motape, .int res.2.1, .int res.2.2.1, .int res.2.2.2.1, .int res.2.2.2.2.1, .ref a_mokind, .ref a_mofirst, .ref a_mocount, .ref a_mobegins, .ref a_monumbers, .int res.2.2.2.2.2.1, .int res.2.2.2.2.2.2.1, .int res.2.2.2.2.2.2.2.1, .int mo_many, .int mo_labels, .int mo_sign, .long mo_value, .int res.2.2.2.2.2.2.2.2, .int mo_to, .ref a_moout, .int mo_printed, .ref a_mofresh, .int mo_written, .int mo_over, .ref a_modigits])), (a_motape, .inl (cI, 4000, .inl mo_tapeA)), (a_mokind, .inl (cI, 64, .inl mo_kindA)), (a_mofirst, .inl (cI, 64, .inl mo_firstA)), (a_mocount, .inl (cI, 64, .inl mo_countA)), (a_mobegins, .inl (cI, 64, .inl mo_beginsA)), (a_monumbers, .inl (cL, 4200, .inr (.inl mo_numbersA))), (a_moout, .inl (cI, 4000, .inl mo_outA)), (a_mofresh, .inl (cI, 4000, .inl mo_freshA)), (a_modigits, .inl (cI, 20, .inl mo_digitsA))] res.1 A) args s 0 0 A) (F0 m 47 ls [])) :
    ∀ (mo_taped : Int32) (mo_fault : Int32) (mo_place : Int32) (mo_lines : Int32) (mo_used : Int32) (mo_state : Int32) (mo_at : Int32) (mo_from : Int32) (mo_tapeA : Nat → Int32) (mo_kindA : Nat → Int32) (x1 : Int32) (x2 : Int32) (H : Heap) (locs : List Loc) (ls : Array Slot), va_P D vwCl [(a_mo, .inr (6, [.int mo_thrown, .ref a_motape, .int mo_taped, .int mo_fault, .int mo_place, .int mo_lines, .ref a_mokind, .ref a_mofirst, .ref a_mocount, .ref a_mobegins, .ref a_monumbers, .int mo_used, .int mo_state, .int mo_at, .int mo_many, .int mo_labels, .int mo_sign, .long mo_value, .int mo_from, .int mo_to, .ref a_moout, .int mo_printed, .ref a_mofresh, .int mo_written, .int mo_over, .ref a_modigits])), (a_motape, .inl (cI, 4000, .inl mo_tapeA)), (a_mokind, .inl (cI, 64, .inl mo_kindA)), (a_mofirst, .inl (cI, 64, .inl mo_firstA)), (a_mocount, .inl (cI, 64, .inl mo_countA)), (a_mobegins, .inl (cI, 64, .inl mo_beginsA)), (a_monumbers, .inl (cL, 4200, .inr (.inl mo_numbersA))), (a_moout, .inl (cI, 4000, .inl mo_outA)), (a_mofresh, .inl (cI, 4000, .inl mo_freshA)), (a_modigits, .inl (cI, 20, .inl mo_digitsA))] H → va_D A [(a_mo, .inr (6, [.int mo_thrown, .ref a_motape, .int mo_taped, .int mo_fault, .int mo_place, .int mo_lines, .ref a_mokind, .ref a_mofirst, .ref a_mocount, .ref a_mobegins, .ref a_monumbers, .int mo_used, .int mo_state, .int mo_at, .int mo_many, .int mo_labels, .int mo_sign, .long mo_value, .int mo_from, .int mo_to, .ref a_moout, .int mo_printed, .ref a_mofresh, .int mo_written, .int mo_over, .ref a_modigits])), (a_motape, .inl (cI, 4000, .inl mo_tapeA)), (a_mokind, .inl (cI, 64, .inl mo_kindA)), (a_mofirst, .inl (cI, 64, .inl mo_firstA)), (a_mocount, .inl (cI, 64, .inl mo_countA)), (a_mobegins, .inl (cI, 64, .inl mo_beginsA)), (a_monumbers, .inl (cL, 4200, .inr (.inl mo_numbersA))), (a_moout, .inl (cI, 4000, .inl mo_outA)), (a_mofresh, .inl (cI, 4000, .inl mo_freshA)), (a_modigits, .inl (cI, 20, .inl mo_digitsA))] → va_S A s.heap H locs → lv_has ls 4 [(0, .ref a_mo), (1, .int x1), (2, .int x2)] → m_X6_read_J108 b_47 mo_taped mo_fault mo_place mo_lines mo_used mo_state mo_at mo_from mo_tapeA mo_kindA x1 x2 = some res → W p l e ({ frames := 2, cells := 0, slots := 0, locals := 43 } : Room) s m args below meth c H locs 0 0 (MQ below (kQi D vwCl [(a_mo, .inr (6, [.int mo_thrown, .ref a_motape, .int res.2.1, .int res.2.2.1, .int res.2.2.2.1, .int res.2.2.2.2.1, .ref a_mokind, .ref a_mofirst, .ref a_mocount, .ref a_mobegins, .ref a_monumbers, .int res.2.2.2.2.2.1, .int res.2.2.2.2.2.2.1, .int res.2.2.2.2.2.2.2.1, .int mo_many, .int mo_labels, .int mo_sign, .long mo_value, .int res.2.2.2.2.2.2.2.2, .int mo_to, .ref a_moout, .int mo_printed, .ref a_mofresh, .int mo_written, .int mo_over, .ref a_modigits])), (a_motape, .inl (cI, 4000, .inl mo_tapeA)), (a_mokind, .inl (cI, 64, .inl mo_kindA)), (a_mofirst, .inl (cI, 64, .inl mo_firstA)), (a_mocount, .inl (cI, 64, .inl mo_countA)), (a_mobegins, .inl (cI, 64, .inl mo_beginsA)), (a_monumbers, .inl (cL, 4200, .inr (.inl mo_numbersA))), (a_moout, .inl (cI, 4000, .inl mo_outA)), (a_mofresh, .inl (cI, 4000, .inl mo_freshA)), (a_modigits, .inl (cI, 20, .inl mo_digitsA))] res.1 A) args s 0 0 A) (F0 m 108 ls []) := by
  obtain ⟨hx, hb, hr, hml, hown, hts, hlocks⟩ := id C
  have ht : ∀ w ∈ k_tbl, w.before args s = true := fun w h => hts w (List.mem_cons_of_mem _ h)
  intro mo_taped mo_fault mo_place mo_lines mo_used mo_state mo_at mo_from mo_tapeA mo_kindA x1 x2 H locs ls hP hD hS hl h
  unfold m_X6_read_J108 at h
  refine lv_aload_n hx hb dX6_read_108 rfl (lv_at hl 0 rfl) ?_
  refine lv_iconst (v := 1) hx hb dX6_read_109 (by decide) ?_
  refine lv_aload_n hx hb dX6_read_110 rfl (lv_at hl 0 rfl) ?_
  refine va_get (D := D) (ci := 6) (v := .int mo_from) (C := RX6) (T := TX6) (N := 26) hx hb ht inX6 hown hE.1 hP 0 rfl rfl 18 (by decide) (ht _ kw_532) (fun _ h9 => h9) rfl dX6_read_111 ?_
  obtain ⟨r_11, hr_11, h⟩ := o_b_s h
  refine kCv (w' := [(a_mo, .inr (6, [.int mo_thrown, .ref a_motape, .int mo_taped, .int r_11.1, .int r_11.2, .int mo_lines, .ref a_mokind, .ref a_mofirst, .ref a_mocount, .ref a_mobegins, .ref a_monumbers, .int mo_used, .int mo_state, .int mo_at, .int mo_many, .int mo_labels, .int mo_sign, .long mo_value, .int mo_from, .int mo_to, .ref a_moout, .int mo_printed, .ref a_mofresh, .int mo_written, .int mo_over, .ref a_modigits])), (a_motape, .inl (cI, 4000, .inl mo_tapeA)), (a_mokind, .inl (cI, 64, .inl mo_kindA)), (a_mofirst, .inl (cI, 64, .inl mo_firstA)), (a_mocount, .inl (cI, 64, .inl mo_countA)), (a_mobegins, .inl (cI, 64, .inl mo_beginsA)), (a_monumbers, .inl (cL, 4200, .inr (.inl mo_numbersA))), (a_moout, .inl (cI, 4000, .inl mo_outA)), (a_mofresh, .inl (cI, 4000, .inl mo_freshA)), (a_modigits, .inl (cI, 20, .inl mo_digitsA))]) hP hD hS hA [0, 1, 2, 3, 4, 5, 6, 7, 8, 9] [] [0, 1, 2, 3, 4, 5, 6, 7, 8, 9] (kRunV (rest := []) C ev_ok hE hA hP hD hS [0, 1, 2, 3, 4, 5, 6, 7, 8, 9] rfl rfl rfl (c_X6_stop hr_11) hE.1 0 6 rfl rfl (cwV 2 ht (gV kw_605 kw_607 kp_25 kw_7 kw_608) rfl rfl rfl (by decide +kernel) ⟨Nat.le_of_ble_eq_true rfl, Nat.le_of_ble_eq_true rfl⟩) rfl hl.1 rfl (Nat.le_of_ble_eq_true rfl) dX6_read_114 ⟨Nat.le_of_ble_eq_true rfl, Nat.le_of_ble_eq_true rfl⟩) rfl rfl rfl (by decide) rfl rfl rfl (fun H locs hP hD hS => ?_)
  refine lv_goto (tgt := 170) hx hb dX6_read_117 (by decide) ?_
  exact k_X6_read_J170 C hE hA hb_47 mo_taped r_11.1 r_11.2 mo_lines mo_used mo_state mo_at mo_from mo_tapeA mo_kindA x1 x2 _ _ _ hP hD hS (lv_sub hl [0, 1, 2] rfl) h
set_option maxHeartbeats 4000000 in
set_option maxRecDepth 100000 in
theorem k_X6_read_L47 {l : Launch} {p : Program} {e : Env} {s : State} {m : MethodId} {args : Array Value} {below : List Frame} {meth : Method} {c : Code} {A : Nat → Prop} {D : va_G} {cB cI cL : ClassId} {a_mo a_motape a_mokind a_mofirst a_mocount a_mobegins a_monumbers a_moout a_mofresh a_modigits : Nat} {mo_thrown : Int32} {mo_many : Int32} {mo_labels : Int32} {mo_sign : Int32} {mo_value : Int64} {mo_to : Int32} {mo_printed : Int32} {mo_written : Int32} {mo_over : Int32} {mo_firstA : Nat → Int32} {mo_countA : Nat → Int32} {mo_beginsA : Nat → Int32} {mo_numbersA : Nat → Int64} {mo_outA : Nat → Int32} {mo_freshA : Nat → Int32} {mo_digitsA : Nat → Int32} {res : Int32 × Int32 × Int32 × Int32 × Int32 × Int32 × Int32 × Int32 × Int32} (C : kx p s m args meth c prog_8_method_29_code 4 (some .int) "LinkTextModel" (.code (⟨"LinkTextModel", "read", "(I)I"⟩ : MethodName) prog_8_method_29_code 4 (some .int) :: k_tbl)) (hE : ev D cB cI cL A s) (hA : ∀ q : Nat, s.heap.size ≤ q → A q) :
    ∀ (n : Nat) (mo_taped : Int32) (mo_fault : Int32) (mo_place : Int32) (mo_lines : Int32) (mo_used : Int32) (mo_state : Int32) (mo_at : Int32) (mo_from : Int32) (mo_tapeA : Nat → Int32) (mo_kindA : Nat → Int32) (x1 : Int32) (x2 : Int32) (H : Heap) (locs : List Loc) (ls : Array Slot), va_P D vwCl [(a_mo, .inr (6, [.int mo_thrown, .ref a_motape, .int mo_taped, .int mo_fault, .int mo_place, .int mo_lines, .ref a_mokind, .ref a_mofirst, .ref a_mocount, .ref a_mobegins, .ref a_monumbers, .int mo_used, .int mo_state, .int mo_at, .int mo_many, .int mo_labels, .int mo_sign, .long mo_value, .int mo_from, .int mo_to, .ref a_moout, .int mo_printed, .ref a_mofresh, .int mo_written, .int mo_over, .ref a_modigits])), (a_motape, .inl (cI, 4000, .inl mo_tapeA)), (a_mokind, .inl (cI, 64, .inl mo_kindA)), (a_mofirst, .inl (cI, 64, .inl mo_firstA)), (a_mocount, .inl (cI, 64, .inl mo_countA)), (a_mobegins, .inl (cI, 64, .inl mo_beginsA)), (a_monumbers, .inl (cL, 4200, .inr (.inl mo_numbersA))), (a_moout, .inl (cI, 4000, .inl mo_outA)), (a_mofresh, .inl (cI, 4000, .inl mo_freshA)), (a_modigits, .inl (cI, 20, .inl mo_digitsA))] H → va_D A [(a_mo, .inr (6, [.int mo_thrown, .ref a_motape, .int mo_taped, .int mo_fault, .int mo_place, .int mo_lines, .ref a_mokind, .ref a_mofirst, .ref a_mocount, .ref a_mobegins, .ref a_monumbers, .int mo_used, .int mo_state, .int mo_at, .int mo_many, .int mo_labels, .int mo_sign, .long mo_value, .int mo_from, .int mo_to, .ref a_moout, .int mo_printed, .ref a_mofresh, .int mo_written, .int mo_over, .ref a_modigits])), (a_motape, .inl (cI, 4000, .inl mo_tapeA)), (a_mokind, .inl (cI, 64, .inl mo_kindA)), (a_mofirst, .inl (cI, 64, .inl mo_firstA)), (a_mocount, .inl (cI, 64, .inl mo_countA)), (a_mobegins, .inl (cI, 64, .inl mo_beginsA)), (a_monumbers, .inl (cL, 4200, .inr (.inl mo_numbersA))), (a_moout, .inl (cI, 4000, .inl mo_outA)), (a_mofresh, .inl (cI, 4000, .inl mo_freshA)), (a_modigits, .inl (cI, 20, .inl mo_digitsA))] → va_S A s.heap H locs → lv_has ls 4 [(0, .ref a_mo), (1, .int x1), (2, .int x2)] → m_X6_read_L47  n mo_taped mo_fault mo_place mo_lines mo_used mo_state mo_at mo_from mo_tapeA mo_kindA x1 x2 = some res → W p l e ({ frames := 2, cells := 0, slots := 0, locals := 43 } : Room) s m args below meth c H locs 0 0 (MQ below (kQi D vwCl [(a_mo, .inr (6, [.int mo_thrown, .ref a_motape, .int res.2.1, .int res.2.2.1, .int res.2.2.2.1, .int res.2.2.2.2.1, .ref a_mokind, .ref a_mofirst, .ref a_mocount, .ref a_mobegins, .ref a_monumbers, .int res.2.2.2.2.2.1, .int res.2.2.2.2.2.2.1, .int res.2.2.2.2.2.2.2.1, .int mo_many, .int mo_labels, .int mo_sign, .long mo_value, .int res.2.2.2.2.2.2.2.2, .int mo_to, .ref a_moout, .int mo_printed, .ref a_mofresh, .int mo_written, .int mo_over, .ref a_modigits])), (a_motape, .inl (cI, 4000, .inl mo_tapeA)), (a_mokind, .inl (cI, 64, .inl mo_kindA)), (a_mofirst, .inl (cI, 64, .inl mo_firstA)), (a_mocount, .inl (cI, 64, .inl mo_countA)), (a_mobegins, .inl (cI, 64, .inl mo_beginsA)), (a_monumbers, .inl (cL, 4200, .inr (.inl mo_numbersA))), (a_moout, .inl (cI, 4000, .inl mo_outA)), (a_mofresh, .inl (cI, 4000, .inl mo_freshA)), (a_modigits, .inl (cI, 20, .inl mo_digitsA))] res.1 A) args s 0 0 A) (F0 m 47 ls []) := by
  obtain ⟨hx, hb, hr, hml, hown, hts, hlocks⟩ := id C
  have ht : ∀ w ∈ k_tbl, w.before args s = true := fun w h => hts w (List.mem_cons_of_mem _ h)
  intro n
  induction n with
  | zero =>
    intro _ _ _ _ _ _ _ _ _ _ _ _ _ _ _ _ _ _ _ h
    cases h
  | succ n ih =>
    intro mo_taped mo_fault mo_place mo_lines mo_used mo_state mo_at mo_from mo_tapeA mo_kindA x1 x2 H locs ls hP hD hS hl h
    rw [m_X6_read_L47] at h
    refine lv_aload_n hx hb dX6_read_47 rfl (lv_at hl 0 rfl) ?_
    refine va_get (D := D) (ci := 6) (v := .int mo_at) (C := RX6) (T := TX6) (N := 26) hx hb ht inX6 hown hE.1 hP 0 rfl rfl 13 (by decide) (ht _ kw_527) (fun _ h9 => h9) rfl dX6_read_48 ?_
    refine lv_iload_n hx hb dX6_read_51 rfl (lv_at hl 1 rfl) ?_
    refine lv_icmp_ge (tgt := 173) hx hb dX6_read_52 (by decide) (fun c_12 => ?_) (fun c_12 => ?_)
    · replace h := o_t c_12 h
      exact k_X6_read_J173 C hE hA  mo_taped mo_fault mo_place mo_lines mo_used mo_state mo_at mo_from mo_tapeA mo_kindA x1 _ _ _ hP hD hS (lv_sub hl [0, 1] rfl) h
    · replace h := o_f c_12 h
      refine lv_aload_n hx hb dX6_read_55 rfl (lv_at hl 0 rfl) ?_
      refine va_get (D := D) (ci := 6) (v := .int mo_fault) (C := RX6) (T := TX6) (N := 26) hx hb ht inX6 hown hE.1 hP 0 rfl rfl 3 (by decide) (ht _ kw_517) (fun _ h9 => h9) rfl dX6_read_56 ?_
      refine lv_if_ne (tgt := 173) hx hb dX6_read_59 (by decide) (fun c_13 => ?_) (fun c_13 => ?_)
      · replace h := o_f c_13 h
        exact k_X6_read_J173 C hE hA  mo_taped mo_fault mo_place mo_lines mo_used mo_state mo_at mo_from mo_tapeA mo_kindA x1 _ _ _ hP hD hS (lv_sub hl [0, 1] rfl) h
      · replace h := o_t c_13 h
        refine lv_aload_n hx hb dX6_read_62 rfl (lv_at hl 0 rfl) ?_
        refine va_get (D := D) (ci := 6) (v := .ref a_motape) (C := RX6) (T := TX6) (N := 26) hx hb ht inX6 hown hE.1 hP 0 rfl rfl 1 (by decide) (ht _ kw_515) (fun _ h9 => h9) rfl dX6_read_63 ?_
        refine lv_aload_n hx hb dX6_read_66 rfl (lv_at hl 0 rfl) ?_
        refine va_get (D := D) (ci := 6) (v := .int mo_at) (C := RX6) (T := TX6) (N := 26) hx hb ht inX6 hown hE.1 hP 0 rfl rfl 13 (by decide) (ht _ kw_527) (fun _ h9 => h9) rfl dX6_read_67 ?_
        obtain ⟨hz_14, h⟩ := o_in_s h
        refine va_iald hx hb hE.1 hP 1 1 rfl rfl hz_14 dX6_read_70 ?_
        refine lv_topi (fun t_15 et_15 => ?_)
        replace h := o_let_s et_15 h
        refine lv_istore_n (lv' := [(3, .int t_15), (0, .ref a_mo), (1, .int x1), (2, .int x2)]) hx hb dX6_read_71 rfl hl (by decide) rfl (fun ls hl => ?_)
        refine lv_aload_n hx hb dX6_read_72 rfl (lv_at hl 1 rfl) ?_
        refine lv_aload_n hx hb dX6_read_73 rfl (lv_at hl 1 rfl) ?_
        refine va_get (D := D) (ci := 6) (v := .int mo_at) (C := RX6) (T := TX6) (N := 26) hx hb ht inX6 hown hE.1 hP 0 rfl rfl 13 (by decide) (ht _ kw_527) (fun _ h9 => h9) rfl dX6_read_74 ?_
        refine va_put (D := D) (ci := 6) (v := .int mo_at) (ty := .int) (C := RX6) (T := TX6) (N := 26) hx hb ht inX6 tyX6 tyX6_ok nmX6 hown hE.1 hP hD hS 0 rfl rfl 18 (by decide) (ht _ kw_532) (fun _ h9 => h9) rfl (by decide +kernel) rfl rfl (Nat.le_of_ble_eq_true rfl) dX6_read_77 (fun H locs hP hD hS => ?_)
        have hP : va_P D vwCl [(a_mo, .inr (6, [.int mo_thrown, .ref a_motape, .int mo_taped, .int mo_fault, .int mo_place, .int mo_lines, .ref a_mokind, .ref a_mofirst, .ref a_mocount, .ref a_mobegins, .ref a_monumbers, .int mo_used, .int mo_state, .int mo_at, .int mo_many, .int mo_labels, .int mo_sign, .long mo_value, .int mo_at, .int mo_to, .ref a_moout, .int mo_printed, .ref a_mofresh, .int mo_written, .int mo_over, .ref a_modigits])), (a_motape, .inl (cI, 4000, .inl mo_tapeA)), (a_mokind, .inl (cI, 64, .inl mo_kindA)), (a_mofirst, .inl (cI, 64, .inl mo_firstA)), (a_mocount, .inl (cI, 64, .inl mo_countA)), (a_mobegins, .inl (cI, 64, .inl mo_beginsA)), (a_monumbers, .inl (cL, 4200, .inr (.inl mo_numbersA))), (a_moout, .inl (cI, 4000, .inl mo_outA)), (a_mofresh, .inl (cI, 4000, .inl mo_freshA)), (a_modigits, .inl (cI, 20, .inl mo_digitsA))] H := hP
        have hD : va_D A [(a_mo, .inr (6, [.int mo_thrown, .ref a_motape, .int mo_taped, .int mo_fault, .int mo_place, .int mo_lines, .ref a_mokind, .ref a_mofirst, .ref a_mocount, .ref a_mobegins, .ref a_monumbers, .int mo_used, .int mo_state, .int mo_at, .int mo_many, .int mo_labels, .int mo_sign, .long mo_value, .int mo_at, .int mo_to, .ref a_moout, .int mo_printed, .ref a_mofresh, .int mo_written, .int mo_over, .ref a_modigits])), (a_motape, .inl (cI, 4000, .inl mo_tapeA)), (a_mokind, .inl (cI, 64, .inl mo_kindA)), (a_mofirst, .inl (cI, 64, .inl mo_firstA)), (a_mocount, .inl (cI, 64, .inl mo_countA)), (a_mobegins, .inl (cI, 64, .inl mo_beginsA)), (a_monumbers, .inl (cL, 4200, .inr (.inl mo_numbersA))), (a_moout, .inl (cI, 4000, .inl mo_outA)), (a_mofresh, .inl (cI, 4000, .inl mo_freshA)), (a_modigits, .inl (cI, 20, .inl mo_digitsA))] := hD
        refine lv_aload_n hx hb dX6_read_80 rfl (lv_at hl 1 rfl) ?_
        refine lv_dup hx hb dX6_read_81 rfl ?_
        refine va_get (D := D) (ci := 6) (v := .int mo_at) (C := RX6) (T := TX6) (N := 26) hx hb ht inX6 hown hE.1 hP 0 rfl rfl 13 (by decide) (ht _ kw_527) (fun _ h9 => h9) rfl dX6_read_82 ?_
        refine lv_iconst (v := 1) hx hb dX6_read_85 (by decide) ?_
        refine lv_iadd hx hb dX6_read_86 ?_
        refine lv_topi (fun t_16 et_16 => ?_)
        replace h := o_let_s et_16 h
        refine va_put (D := D) (ci := 6) (v := .int t_16) (ty := .int) (C := RX6) (T := TX6) (N := 26) hx hb ht inX6 tyX6 tyX6_ok nmX6 hown hE.1 hP hD hS 0 rfl rfl 13 (by decide) (ht _ kw_527) (fun _ h9 => h9) rfl (by decide +kernel) rfl rfl (Nat.le_of_ble_eq_true rfl) dX6_read_87 (fun H locs hP hD hS => ?_)
        have hP : va_P D vwCl [(a_mo, .inr (6, [.int mo_thrown, .ref a_motape, .int mo_taped, .int mo_fault, .int mo_place, .int mo_lines, .ref a_mokind, .ref a_mofirst, .ref a_mocount, .ref a_mobegins, .ref a_monumbers, .int mo_used, .int mo_state, .int t_16, .int mo_many, .int mo_labels, .int mo_sign, .long mo_value, .int mo_at, .int mo_to, .ref a_moout, .int mo_printed, .ref a_mofresh, .int mo_written, .int mo_over, .ref a_modigits])), (a_motape, .inl (cI, 4000, .inl mo_tapeA)), (a_mokind, .inl (cI, 64, .inl mo_kindA)), (a_mofirst, .inl (cI, 64, .inl mo_firstA)), (a_mocount, .inl (cI, 64, .inl mo_countA)), (a_mobegins, .inl (cI, 64, .inl mo_beginsA)), (a_monumbers, .inl (cL, 4200, .inr (.inl mo_numbersA))), (a_moout, .inl (cI, 4000, .inl mo_outA)), (a_mofresh, .inl (cI, 4000, .inl mo_freshA)), (a_modigits, .inl (cI, 20, .inl mo_digitsA))] H := hP
        have hD : va_D A [(a_mo, .inr (6, [.int mo_thrown, .ref a_motape, .int mo_taped, .int mo_fault, .int mo_place, .int mo_lines, .ref a_mokind, .ref a_mofirst, .ref a_mocount, .ref a_mobegins, .ref a_monumbers, .int mo_used, .int mo_state, .int t_16, .int mo_many, .int mo_labels, .int mo_sign, .long mo_value, .int mo_at, .int mo_to, .ref a_moout, .int mo_printed, .ref a_mofresh, .int mo_written, .int mo_over, .ref a_modigits])), (a_motape, .inl (cI, 4000, .inl mo_tapeA)), (a_mokind, .inl (cI, 64, .inl mo_kindA)), (a_mofirst, .inl (cI, 64, .inl mo_firstA)), (a_mocount, .inl (cI, 64, .inl mo_countA)), (a_mobegins, .inl (cI, 64, .inl mo_beginsA)), (a_monumbers, .inl (cL, 4200, .inr (.inl mo_numbersA))), (a_moout, .inl (cI, 4000, .inl mo_outA)), (a_mofresh, .inl (cI, 4000, .inl mo_freshA)), (a_modigits, .inl (cI, 20, .inl mo_digitsA))] := hD
        refine lv_iload_n hx hb dX6_read_90 rfl (lv_at hl 0 rfl) ?_
        refine lv_bipush (v := 10) hx hb dX6_read_91 (by decide) ?_
        refine lv_icmp_eq (tgt := 120) hx hb dX6_read_93 (by decide) (fun c_17 => ?_) (fun c_17 => ?_)
        · replace h := o_t c_17 h
          exact k_X6_read_J120 C hE hA ih mo_taped mo_fault mo_place mo_lines mo_used mo_state t_16 mo_at mo_tapeA mo_kindA x1 x2 t_15 _ _ _ hP hD hS (lv_sub hl [1, 2, 3, 0] rfl) h
        · replace h := o_f c_17 h
          refine lv_iload_n hx hb dX6_read_96 rfl (lv_at hl 0 rfl) ?_
          refine lv_bipush (v := 32) hx hb dX6_read_97 (by decide) ?_
          refine lv_icmp_lt (tgt := 108) hx hb dX6_read_99 (by decide) (fun c_18 => ?_) (fun c_18 => ?_)
          · replace h := o_t c_18 h
            exact k_X6_read_J108 C hE hA ih mo_taped mo_fault mo_place mo_lines mo_used mo_state t_16 mo_at mo_tapeA mo_kindA x1 x2 _ _ _ hP hD hS (lv_sub hl [1, 2, 3] rfl) h
          · replace h := o_f c_18 h
            refine lv_iload_n hx hb dX6_read_102 rfl (lv_at hl 0 rfl) ?_
            refine lv_bipush (v := 126) hx hb dX6_read_103 (by decide) ?_
            refine lv_icmp_le (tgt := 120) hx hb dX6_read_105 (by decide) (fun c_19 => ?_) (fun c_19 => ?_)
            · replace h := o_t c_19 h
              exact k_X6_read_J120 C hE hA ih mo_taped mo_fault mo_place mo_lines mo_used mo_state t_16 mo_at mo_tapeA mo_kindA x1 x2 t_15 _ _ _ hP hD hS (lv_sub hl [1, 2, 3, 0] rfl) h
            · replace h := o_f c_19 h
              exact k_X6_read_J108 C hE hA ih mo_taped mo_fault mo_place mo_lines mo_used mo_state t_16 mo_at mo_tapeA mo_kindA x1 x2 _ _ _ hP hD hS (lv_sub hl [1, 2, 3] rfl) h
set_option maxHeartbeats 4000000 in
set_option maxRecDepth 100000 in
theorem c_X6_read {l : Launch} {D : va_G} {cB cI cL : ClassId} {a_mo a_motape a_mokind a_mofirst a_mocount a_mobegins a_monumbers a_moout a_mofresh a_modigits : Nat} {mo_thrown : Int32} {mo_taped : Int32} {mo_fault : Int32} {mo_place : Int32} {mo_lines : Int32} {mo_used : Int32} {mo_state : Int32} {mo_at : Int32} {mo_many : Int32} {mo_labels : Int32} {mo_sign : Int32} {mo_value : Int64} {mo_from : Int32} {mo_to : Int32} {mo_printed : Int32} {mo_written : Int32} {mo_over : Int32} {mo_tapeA : Nat → Int32} {mo_kindA : Nat → Int32} {mo_firstA : Nat → Int32} {mo_countA : Nat → Int32} {mo_beginsA : Nat → Int32} {mo_numbersA : Nat → Int64} {mo_outA : Nat → Int32} {mo_freshA : Nat → Int32} {mo_digitsA : Nat → Int32} {p0 : Int32} {res : Int32 × Int32 × Int32 × Int32 × Int32 × Int32 × Int32 × Int32 × Int32} (h : m_X6_read mo_taped mo_fault mo_place mo_lines mo_used mo_state mo_at mo_from mo_tapeA mo_kindA p0 = some res) : KMet l (⟨"LinkTextModel", "read", "(I)I"⟩ : MethodName) (.code (⟨"LinkTextModel", "read", "(I)I"⟩ : MethodName) prog_8_method_29_code 4 (some .int) :: k_tbl) ({ frames := 2, cells := 0, slots := 0, locals := 43 } : Room) (ev D cB cI cL) D vwCl [.ref a_mo, .int p0] [(a_mo, .inr (6, [.int mo_thrown, .ref a_motape, .int mo_taped, .int mo_fault, .int mo_place, .int mo_lines, .ref a_mokind, .ref a_mofirst, .ref a_mocount, .ref a_mobegins, .ref a_monumbers, .int mo_used, .int mo_state, .int mo_at, .int mo_many, .int mo_labels, .int mo_sign, .long mo_value, .int mo_from, .int mo_to, .ref a_moout, .int mo_printed, .ref a_mofresh, .int mo_written, .int mo_over, .ref a_modigits])), (a_motape, .inl (cI, 4000, .inl mo_tapeA)), (a_mokind, .inl (cI, 64, .inl mo_kindA)), (a_mofirst, .inl (cI, 64, .inl mo_firstA)), (a_mocount, .inl (cI, 64, .inl mo_countA)), (a_mobegins, .inl (cI, 64, .inl mo_beginsA)), (a_monumbers, .inl (cL, 4200, .inr (.inl mo_numbersA))), (a_moout, .inl (cI, 4000, .inl mo_outA)), (a_mofresh, .inl (cI, 4000, .inl mo_freshA)), (a_modigits, .inl (cI, 20, .inl mo_digitsA))] (kQi D vwCl [(a_mo, .inr (6, [.int mo_thrown, .ref a_motape, .int res.2.1, .int res.2.2.1, .int res.2.2.2.1, .int res.2.2.2.2.1, .ref a_mokind, .ref a_mofirst, .ref a_mocount, .ref a_mobegins, .ref a_monumbers, .int res.2.2.2.2.2.1, .int res.2.2.2.2.2.2.1, .int res.2.2.2.2.2.2.2.1, .int mo_many, .int mo_labels, .int mo_sign, .long mo_value, .int res.2.2.2.2.2.2.2.2, .int mo_to, .ref a_moout, .int mo_printed, .ref a_mofresh, .int mo_written, .int mo_over, .ref a_modigits])), (a_motape, .inl (cI, 4000, .inl mo_tapeA)), (a_mokind, .inl (cI, 64, .inl mo_kindA)), (a_mofirst, .inl (cI, 64, .inl mo_firstA)), (a_mocount, .inl (cI, 64, .inl mo_countA)), (a_mobegins, .inl (cI, 64, .inl mo_beginsA)), (a_monumbers, .inl (cL, 4200, .inr (.inl mo_numbersA))), (a_moout, .inl (cI, 4000, .inl mo_outA)), (a_mofresh, .inl (cI, 4000, .inl mo_freshA)), (a_modigits, .inl (cI, 20, .inl mo_digitsA))] res.1) := by
  unfold m_X6_read at h
  refine kMet (cc := prog_8_method_29_code) (mL := 4) (ret := (some .int)) (own := "LinkTextModel") (by decide) rfl rfl (Nat.le_of_ble_eq_true rfl) ?_
  intro p e s m below meth c A C hnm hE hA hP hD ls hl
  generalize ([.ref a_mo, .int p0] : List Value).toArray = args at C ⊢
  obtain ⟨hx, hb, hr, hml, hown, hts, hlocks⟩ := id C
  have ht : ∀ w ∈ k_tbl, w.before args s = true := fun w h => hts w (List.mem_cons_of_mem _ h)
  have hS : va_S A s.heap s.heap [] := va_S.rf
  have hl : lv_has ls 4 [(0, .ref a_mo), (1, .int p0)] := hl
  refine lv_iload_n hx hb dX6_read_0 rfl (lv_at hl 1 rfl) ?_
  refine lv_if_lt (tgt := 12) hx hb dX6_read_1 (by decide) (fun c_20 => ?_) (fun c_20 => ?_)
  · replace h := o_t c_20 h
    refine lv_bipush (v := -2) hx hb dX6_read_12 (by decide) ?_
    obtain rfl := Option.some.inj h
    exact kRet_i C hP hD hS dX6_read_14
  · replace h := o_f c_20 h
    refine lv_iload_n hx hb dX6_read_4 rfl (lv_at hl 1 rfl) ?_
    refine lv_aload_n hx hb dX6_read_5 rfl (lv_at hl 0 rfl) ?_
    refine va_get (D := D) (ci := 6) (v := .int mo_taped) (C := RX6) (T := TX6) (N := 26) hx hb ht inX6 hown hE.1 hP 0 rfl rfl 2 (by decide) (ht _ kw_516) (fun _ h9 => h9) rfl dX6_read_6 ?_
    refine lv_icmp_le (tgt := 15) hx hb dX6_read_9 (by decide) (fun c_21 => ?_) (fun c_21 => ?_)
    · replace h := o_t c_21 h
      refine lv_aload_n hx hb dX6_read_15 rfl (lv_at hl 0 rfl) ?_
      refine lv_iconst (v := 0) hx hb dX6_read_16 (by decide) ?_
      refine va_put (D := D) (ci := 6) (v := .int (0 : Int32)) (ty := .int) (C := RX6) (T := TX6) (N := 26) hx hb ht inX6 tyX6 tyX6_ok nmX6 hown hE.1 hP hD hS 0 rfl rfl 3 (by decide) (ht _ kw_517) (fun _ h9 => h9) rfl (by decide +kernel) rfl rfl (Nat.le_of_ble_eq_true rfl) dX6_read_17 (fun H locs hP hD hS => ?_)
      have hP : va_P D vwCl [(a_mo, .inr (6, [.int mo_thrown, .ref a_motape, .int mo_taped, .int (0 : Int32), .int mo_place, .int mo_lines, .ref a_mokind, .ref a_mofirst, .ref a_mocount, .ref a_mobegins, .ref a_monumbers, .int mo_used, .int mo_state, .int mo_at, .int mo_many, .int mo_labels, .int mo_sign, .long mo_value, .int mo_from, .int mo_to, .ref a_moout, .int mo_printed, .ref a_mofresh, .int mo_written, .int mo_over, .ref a_modigits])), (a_motape, .inl (cI, 4000, .inl mo_tapeA)), (a_mokind, .inl (cI, 64, .inl mo_kindA)), (a_mofirst, .inl (cI, 64, .inl mo_firstA)), (a_mocount, .inl (cI, 64, .inl mo_countA)), (a_mobegins, .inl (cI, 64, .inl mo_beginsA)), (a_monumbers, .inl (cL, 4200, .inr (.inl mo_numbersA))), (a_moout, .inl (cI, 4000, .inl mo_outA)), (a_mofresh, .inl (cI, 4000, .inl mo_freshA)), (a_modigits, .inl (cI, 20, .inl mo_digitsA))] H := hP
      have hD : va_D A [(a_mo, .inr (6, [.int mo_thrown, .ref a_motape, .int mo_taped, .int (0 : Int32), .int mo_place, .int mo_lines, .ref a_mokind, .ref a_mofirst, .ref a_mocount, .ref a_mobegins, .ref a_monumbers, .int mo_used, .int mo_state, .int mo_at, .int mo_many, .int mo_labels, .int mo_sign, .long mo_value, .int mo_from, .int mo_to, .ref a_moout, .int mo_printed, .ref a_mofresh, .int mo_written, .int mo_over, .ref a_modigits])), (a_motape, .inl (cI, 4000, .inl mo_tapeA)), (a_mokind, .inl (cI, 64, .inl mo_kindA)), (a_mofirst, .inl (cI, 64, .inl mo_firstA)), (a_mocount, .inl (cI, 64, .inl mo_countA)), (a_mobegins, .inl (cI, 64, .inl mo_beginsA)), (a_monumbers, .inl (cL, 4200, .inr (.inl mo_numbersA))), (a_moout, .inl (cI, 4000, .inl mo_outA)), (a_mofresh, .inl (cI, 4000, .inl mo_freshA)), (a_modigits, .inl (cI, 20, .inl mo_digitsA))] := hD
      refine lv_aload_n hx hb dX6_read_20 rfl (lv_at hl 0 rfl) ?_
      refine lv_iconst (v := -1) hx hb dX6_read_21 (by decide) ?_
      refine va_put (D := D) (ci := 6) (v := .int (-1 : Int32)) (ty := .int) (C := RX6) (T := TX6) (N := 26) hx hb ht inX6 tyX6 tyX6_ok nmX6 hown hE.1 hP hD hS 0 rfl rfl 4 (by decide) (ht _ kw_518) (fun _ h9 => h9) rfl (by decide +kernel) rfl rfl (Nat.le_of_ble_eq_true rfl) dX6_read_22 (fun H locs hP hD hS => ?_)
      have hP : va_P D vwCl [(a_mo, .inr (6, [.int mo_thrown, .ref a_motape, .int mo_taped, .int (0 : Int32), .int (-1 : Int32), .int mo_lines, .ref a_mokind, .ref a_mofirst, .ref a_mocount, .ref a_mobegins, .ref a_monumbers, .int mo_used, .int mo_state, .int mo_at, .int mo_many, .int mo_labels, .int mo_sign, .long mo_value, .int mo_from, .int mo_to, .ref a_moout, .int mo_printed, .ref a_mofresh, .int mo_written, .int mo_over, .ref a_modigits])), (a_motape, .inl (cI, 4000, .inl mo_tapeA)), (a_mokind, .inl (cI, 64, .inl mo_kindA)), (a_mofirst, .inl (cI, 64, .inl mo_firstA)), (a_mocount, .inl (cI, 64, .inl mo_countA)), (a_mobegins, .inl (cI, 64, .inl mo_beginsA)), (a_monumbers, .inl (cL, 4200, .inr (.inl mo_numbersA))), (a_moout, .inl (cI, 4000, .inl mo_outA)), (a_mofresh, .inl (cI, 4000, .inl mo_freshA)), (a_modigits, .inl (cI, 20, .inl mo_digitsA))] H := hP
      have hD : va_D A [(a_mo, .inr (6, [.int mo_thrown, .ref a_motape, .int mo_taped, .int (0 : Int32), .int (-1 : Int32), .int mo_lines, .ref a_mokind, .ref a_mofirst, .ref a_mocount, .ref a_mobegins, .ref a_monumbers, .int mo_used, .int mo_state, .int mo_at, .int mo_many, .int mo_labels, .int mo_sign, .long mo_value, .int mo_from, .int mo_to, .ref a_moout, .int mo_printed, .ref a_mofresh, .int mo_written, .int mo_over, .ref a_modigits])), (a_motape, .inl (cI, 4000, .inl mo_tapeA)), (a_mokind, .inl (cI, 64, .inl mo_kindA)), (a_mofirst, .inl (cI, 64, .inl mo_firstA)), (a_mocount, .inl (cI, 64, .inl mo_countA)), (a_mobegins, .inl (cI, 64, .inl mo_beginsA)), (a_monumbers, .inl (cL, 4200, .inr (.inl mo_numbersA))), (a_moout, .inl (cI, 4000, .inl mo_outA)), (a_mofresh, .inl (cI, 4000, .inl mo_freshA)), (a_modigits, .inl (cI, 20, .inl mo_digitsA))] := hD
      refine lv_aload_n hx hb dX6_read_25 rfl (lv_at hl 0 rfl) ?_
      refine lv_iconst (v := 0) hx hb dX6_read_26 (by decide) ?_
      refine va_put (D := D) (ci := 6) (v := .int (0 : Int32)) (ty := .int) (C := RX6) (T := TX6) (N := 26) hx hb ht inX6 tyX6 tyX6_ok nmX6 hown hE.1 hP hD hS 0 rfl rfl 5 (by decide) (ht _ kw_519) (fun _ h9 => h9) rfl (by decide +kernel) rfl rfl (Nat.le_of_ble_eq_true rfl) dX6_read_27 (fun H locs hP hD hS => ?_)
      have hP : va_P D vwCl [(a_mo, .inr (6, [.int mo_thrown, .ref a_motape, .int mo_taped, .int (0 : Int32), .int (-1 : Int32), .int (0 : Int32), .ref a_mokind, .ref a_mofirst, .ref a_mocount, .ref a_mobegins, .ref a_monumbers, .int mo_used, .int mo_state, .int mo_at, .int mo_many, .int mo_labels, .int mo_sign, .long mo_value, .int mo_from, .int mo_to, .ref a_moout, .int mo_printed, .ref a_mofresh, .int mo_written, .int mo_over, .ref a_modigits])), (a_motape, .inl (cI, 4000, .inl mo_tapeA)), (a_mokind, .inl (cI, 64, .inl mo_kindA)), (a_mofirst, .inl (cI, 64, .inl mo_firstA)), (a_mocount, .inl (cI, 64, .inl mo_countA)), (a_mobegins, .inl (cI, 64, .inl mo_beginsA)), (a_monumbers, .inl (cL, 4200, .inr (.inl mo_numbersA))), (a_moout, .inl (cI, 4000, .inl mo_outA)), (a_mofresh, .inl (cI, 4000, .inl mo_freshA)), (a_modigits, .inl (cI, 20, .inl mo_digitsA))] H := hP
      have hD : va_D A [(a_mo, .inr (6, [.int mo_thrown, .ref a_motape, .int mo_taped, .int (0 : Int32), .int (-1 : Int32), .int (0 : Int32), .ref a_mokind, .ref a_mofirst, .ref a_mocount, .ref a_mobegins, .ref a_monumbers, .int mo_used, .int mo_state, .int mo_at, .int mo_many, .int mo_labels, .int mo_sign, .long mo_value, .int mo_from, .int mo_to, .ref a_moout, .int mo_printed, .ref a_mofresh, .int mo_written, .int mo_over, .ref a_modigits])), (a_motape, .inl (cI, 4000, .inl mo_tapeA)), (a_mokind, .inl (cI, 64, .inl mo_kindA)), (a_mofirst, .inl (cI, 64, .inl mo_firstA)), (a_mocount, .inl (cI, 64, .inl mo_countA)), (a_mobegins, .inl (cI, 64, .inl mo_beginsA)), (a_monumbers, .inl (cL, 4200, .inr (.inl mo_numbersA))), (a_moout, .inl (cI, 4000, .inl mo_outA)), (a_mofresh, .inl (cI, 4000, .inl mo_freshA)), (a_modigits, .inl (cI, 20, .inl mo_digitsA))] := hD
      refine lv_aload_n hx hb dX6_read_30 rfl (lv_at hl 0 rfl) ?_
      refine lv_iconst (v := 0) hx hb dX6_read_31 (by decide) ?_
      refine va_put (D := D) (ci := 6) (v := .int (0 : Int32)) (ty := .int) (C := RX6) (T := TX6) (N := 26) hx hb ht inX6 tyX6 tyX6_ok nmX6 hown hE.1 hP hD hS 0 rfl rfl 11 (by decide) (ht _ kw_525) (fun _ h9 => h9) rfl (by decide +kernel) rfl rfl (Nat.le_of_ble_eq_true rfl) dX6_read_32 (fun H locs hP hD hS => ?_)
      have hP : va_P D vwCl [(a_mo, .inr (6, [.int mo_thrown, .ref a_motape, .int mo_taped, .int (0 : Int32), .int (-1 : Int32), .int (0 : Int32), .ref a_mokind, .ref a_mofirst, .ref a_mocount, .ref a_mobegins, .ref a_monumbers, .int (0 : Int32), .int mo_state, .int mo_at, .int mo_many, .int mo_labels, .int mo_sign, .long mo_value, .int mo_from, .int mo_to, .ref a_moout, .int mo_printed, .ref a_mofresh, .int mo_written, .int mo_over, .ref a_modigits])), (a_motape, .inl (cI, 4000, .inl mo_tapeA)), (a_mokind, .inl (cI, 64, .inl mo_kindA)), (a_mofirst, .inl (cI, 64, .inl mo_firstA)), (a_mocount, .inl (cI, 64, .inl mo_countA)), (a_mobegins, .inl (cI, 64, .inl mo_beginsA)), (a_monumbers, .inl (cL, 4200, .inr (.inl mo_numbersA))), (a_moout, .inl (cI, 4000, .inl mo_outA)), (a_mofresh, .inl (cI, 4000, .inl mo_freshA)), (a_modigits, .inl (cI, 20, .inl mo_digitsA))] H := hP
      have hD : va_D A [(a_mo, .inr (6, [.int mo_thrown, .ref a_motape, .int mo_taped, .int (0 : Int32), .int (-1 : Int32), .int (0 : Int32), .ref a_mokind, .ref a_mofirst, .ref a_mocount, .ref a_mobegins, .ref a_monumbers, .int (0 : Int32), .int mo_state, .int mo_at, .int mo_many, .int mo_labels, .int mo_sign, .long mo_value, .int mo_from, .int mo_to, .ref a_moout, .int mo_printed, .ref a_mofresh, .int mo_written, .int mo_over, .ref a_modigits])), (a_motape, .inl (cI, 4000, .inl mo_tapeA)), (a_mokind, .inl (cI, 64, .inl mo_kindA)), (a_mofirst, .inl (cI, 64, .inl mo_firstA)), (a_mocount, .inl (cI, 64, .inl mo_countA)), (a_mobegins, .inl (cI, 64, .inl mo_beginsA)), (a_monumbers, .inl (cL, 4200, .inr (.inl mo_numbersA))), (a_moout, .inl (cI, 4000, .inl mo_outA)), (a_mofresh, .inl (cI, 4000, .inl mo_freshA)), (a_modigits, .inl (cI, 20, .inl mo_digitsA))] := hD
      refine lv_aload_n hx hb dX6_read_35 rfl (lv_at hl 0 rfl) ?_
      refine lv_iconst (v := 0) hx hb dX6_read_36 (by decide) ?_
      refine va_put (D := D) (ci := 6) (v := .int (0 : Int32)) (ty := .int) (C := RX6) (T := TX6) (N := 26) hx hb ht inX6 tyX6 tyX6_ok nmX6 hown hE.1 hP hD hS 0 rfl rfl 12 (by decide) (ht _ kw_526) (fun _ h9 => h9) rfl (by decide +kernel) rfl rfl (Nat.le_of_ble_eq_true rfl) dX6_read_37 (fun H locs hP hD hS => ?_)
      have hP : va_P D vwCl [(a_mo, .inr (6, [.int mo_thrown, .ref a_motape, .int mo_taped, .int (0 : Int32), .int (-1 : Int32), .int (0 : Int32), .ref a_mokind, .ref a_mofirst, .ref a_mocount, .ref a_mobegins, .ref a_monumbers, .int (0 : Int32), .int (0 : Int32), .int mo_at, .int mo_many, .int mo_labels, .int mo_sign, .long mo_value, .int mo_from, .int mo_to, .ref a_moout, .int mo_printed, .ref a_mofresh, .int mo_written, .int mo_over, .ref a_modigits])), (a_motape, .inl (cI, 4000, .inl mo_tapeA)), (a_mokind, .inl (cI, 64, .inl mo_kindA)), (a_mofirst, .inl (cI, 64, .inl mo_firstA)), (a_mocount, .inl (cI, 64, .inl mo_countA)), (a_mobegins, .inl (cI, 64, .inl mo_beginsA)), (a_monumbers, .inl (cL, 4200, .inr (.inl mo_numbersA))), (a_moout, .inl (cI, 4000, .inl mo_outA)), (a_mofresh, .inl (cI, 4000, .inl mo_freshA)), (a_modigits, .inl (cI, 20, .inl mo_digitsA))] H := hP
      have hD : va_D A [(a_mo, .inr (6, [.int mo_thrown, .ref a_motape, .int mo_taped, .int (0 : Int32), .int (-1 : Int32), .int (0 : Int32), .ref a_mokind, .ref a_mofirst, .ref a_mocount, .ref a_mobegins, .ref a_monumbers, .int (0 : Int32), .int (0 : Int32), .int mo_at, .int mo_many, .int mo_labels, .int mo_sign, .long mo_value, .int mo_from, .int mo_to, .ref a_moout, .int mo_printed, .ref a_mofresh, .int mo_written, .int mo_over, .ref a_modigits])), (a_motape, .inl (cI, 4000, .inl mo_tapeA)), (a_mokind, .inl (cI, 64, .inl mo_kindA)), (a_mofirst, .inl (cI, 64, .inl mo_firstA)), (a_mocount, .inl (cI, 64, .inl mo_countA)), (a_mobegins, .inl (cI, 64, .inl mo_beginsA)), (a_monumbers, .inl (cL, 4200, .inr (.inl mo_numbersA))), (a_moout, .inl (cI, 4000, .inl mo_outA)), (a_mofresh, .inl (cI, 4000, .inl mo_freshA)), (a_modigits, .inl (cI, 20, .inl mo_digitsA))] := hD
      refine lv_aload_n hx hb dX6_read_40 rfl (lv_at hl 0 rfl) ?_
      refine lv_iconst (v := 0) hx hb dX6_read_41 (by decide) ?_
      refine va_put (D := D) (ci := 6) (v := .int (0 : Int32)) (ty := .int) (C := RX6) (T := TX6) (N := 26) hx hb ht inX6 tyX6 tyX6_ok nmX6 hown hE.1 hP hD hS 0 rfl rfl 13 (by decide) (ht _ kw_527) (fun _ h9 => h9) rfl (by decide +kernel) rfl rfl (Nat.le_of_ble_eq_true rfl) dX6_read_42 (fun H locs hP hD hS => ?_)
      have hP : va_P D vwCl [(a_mo, .inr (6, [.int mo_thrown, .ref a_motape, .int mo_taped, .int (0 : Int32), .int (-1 : Int32), .int (0 : Int32), .ref a_mokind, .ref a_mofirst, .ref a_mocount, .ref a_mobegins, .ref a_monumbers, .int (0 : Int32), .int (0 : Int32), .int (0 : Int32), .int mo_many, .int mo_labels, .int mo_sign, .long mo_value, .int mo_from, .int mo_to, .ref a_moout, .int mo_printed, .ref a_mofresh, .int mo_written, .int mo_over, .ref a_modigits])), (a_motape, .inl (cI, 4000, .inl mo_tapeA)), (a_mokind, .inl (cI, 64, .inl mo_kindA)), (a_mofirst, .inl (cI, 64, .inl mo_firstA)), (a_mocount, .inl (cI, 64, .inl mo_countA)), (a_mobegins, .inl (cI, 64, .inl mo_beginsA)), (a_monumbers, .inl (cL, 4200, .inr (.inl mo_numbersA))), (a_moout, .inl (cI, 4000, .inl mo_outA)), (a_mofresh, .inl (cI, 4000, .inl mo_freshA)), (a_modigits, .inl (cI, 20, .inl mo_digitsA))] H := hP
      have hD : va_D A [(a_mo, .inr (6, [.int mo_thrown, .ref a_motape, .int mo_taped, .int (0 : Int32), .int (-1 : Int32), .int (0 : Int32), .ref a_mokind, .ref a_mofirst, .ref a_mocount, .ref a_mobegins, .ref a_monumbers, .int (0 : Int32), .int (0 : Int32), .int (0 : Int32), .int mo_many, .int mo_labels, .int mo_sign, .long mo_value, .int mo_from, .int mo_to, .ref a_moout, .int mo_printed, .ref a_mofresh, .int mo_written, .int mo_over, .ref a_modigits])), (a_motape, .inl (cI, 4000, .inl mo_tapeA)), (a_mokind, .inl (cI, 64, .inl mo_kindA)), (a_mofirst, .inl (cI, 64, .inl mo_firstA)), (a_mocount, .inl (cI, 64, .inl mo_countA)), (a_mobegins, .inl (cI, 64, .inl mo_beginsA)), (a_monumbers, .inl (cL, 4200, .inr (.inl mo_numbersA))), (a_moout, .inl (cI, 4000, .inl mo_outA)), (a_mofresh, .inl (cI, 4000, .inl mo_freshA)), (a_modigits, .inl (cI, 20, .inl mo_digitsA))] := hD
      refine lv_iconst (v := 0) hx hb dX6_read_45 (by decide) ?_
      refine lv_istore_n (lv' := [(2, .int (0 : Int32)), (0, .ref a_mo), (1, .int p0)]) hx hb dX6_read_46 rfl hl (by decide) rfl (fun ls hl => ?_)
      exact k_X6_read_L47 C hE hA  fu mo_taped (0 : Int32) (-1 : Int32) (0 : Int32) (0 : Int32) (0 : Int32) (0 : Int32) mo_from mo_tapeA mo_kindA p0 (0 : Int32) _ _ _ hP hD hS (lv_sub hl [1, 2, 0] rfl) h
    · replace h := o_f c_21 h
      refine lv_bipush (v := -2) hx hb dX6_read_12 (by decide) ?_
      obtain rfl := Option.some.inj h
      exact kRet_i C hP hD hS dX6_read_14
set_option maxHeartbeats 4000000 in
set_option maxRecDepth 100000 in
theorem c_X6_fault {l : Launch} {D : va_G} {cB cI cL : ClassId} {a_mo a_motape a_mokind a_mofirst a_mocount a_mobegins a_monumbers a_moout a_mofresh a_modigits : Nat} {mo_thrown : Int32} {mo_taped : Int32} {mo_fault : Int32} {mo_place : Int32} {mo_lines : Int32} {mo_used : Int32} {mo_state : Int32} {mo_at : Int32} {mo_many : Int32} {mo_labels : Int32} {mo_sign : Int32} {mo_value : Int64} {mo_from : Int32} {mo_to : Int32} {mo_printed : Int32} {mo_written : Int32} {mo_over : Int32} {mo_tapeA : Nat → Int32} {mo_kindA : Nat → Int32} {mo_firstA : Nat → Int32} {mo_countA : Nat → Int32} {mo_beginsA : Nat → Int32} {mo_numbersA : Nat → Int64} {mo_outA : Nat → Int32} {mo_freshA : Nat → Int32} {mo_digitsA : Nat → Int32} {p0 : Int32} {res : Int32} (h : m_X6_fault mo_fault mo_place p0 = some res) : KMet l (⟨"LinkTextModel", "fault", "(I)I"⟩ : MethodName) (.code (⟨"LinkTextModel", "fault", "(I)I"⟩ : MethodName) prog_8_method_31_code 2 (some .int) :: k_tbl) ({ frames := 0, cells := 0, slots := 0, locals := 0 } : Room) (ev D cB cI cL) D vwCl [.ref a_mo, .int p0] [(a_mo, .inr (6, [.int mo_thrown, .ref a_motape, .int mo_taped, .int mo_fault, .int mo_place, .int mo_lines, .ref a_mokind, .ref a_mofirst, .ref a_mocount, .ref a_mobegins, .ref a_monumbers, .int mo_used, .int mo_state, .int mo_at, .int mo_many, .int mo_labels, .int mo_sign, .long mo_value, .int mo_from, .int mo_to, .ref a_moout, .int mo_printed, .ref a_mofresh, .int mo_written, .int mo_over, .ref a_modigits])), (a_motape, .inl (cI, 4000, .inl mo_tapeA)), (a_mokind, .inl (cI, 64, .inl mo_kindA)), (a_mofirst, .inl (cI, 64, .inl mo_firstA)), (a_mocount, .inl (cI, 64, .inl mo_countA)), (a_mobegins, .inl (cI, 64, .inl mo_beginsA)), (a_monumbers, .inl (cL, 4200, .inr (.inl mo_numbersA))), (a_moout, .inl (cI, 4000, .inl mo_outA)), (a_mofresh, .inl (cI, 4000, .inl mo_freshA)), (a_modigits, .inl (cI, 20, .inl mo_digitsA))] (kQi D vwCl [(a_mo, .inr (6, [.int mo_thrown, .ref a_motape, .int mo_taped, .int mo_fault, .int mo_place, .int mo_lines, .ref a_mokind, .ref a_mofirst, .ref a_mocount, .ref a_mobegins, .ref a_monumbers, .int mo_used, .int mo_state, .int mo_at, .int mo_many, .int mo_labels, .int mo_sign, .long mo_value, .int mo_from, .int mo_to, .ref a_moout, .int mo_printed, .ref a_mofresh, .int mo_written, .int mo_over, .ref a_modigits])), (a_motape, .inl (cI, 4000, .inl mo_tapeA)), (a_mokind, .inl (cI, 64, .inl mo_kindA)), (a_mofirst, .inl (cI, 64, .inl mo_firstA)), (a_mocount, .inl (cI, 64, .inl mo_countA)), (a_mobegins, .inl (cI, 64, .inl mo_beginsA)), (a_monumbers, .inl (cL, 4200, .inr (.inl mo_numbersA))), (a_moout, .inl (cI, 4000, .inl mo_outA)), (a_mofresh, .inl (cI, 4000, .inl mo_freshA)), (a_modigits, .inl (cI, 20, .inl mo_digitsA))] res) := by
  unfold m_X6_fault at h
  refine kMet (cc := prog_8_method_31_code) (mL := 2) (ret := (some .int)) (own := "LinkTextModel") (by decide) rfl rfl (Nat.le_of_ble_eq_true rfl) ?_
  intro p e s m below meth c A C hnm hE hA hP hD ls hl
  generalize ([.ref a_mo, .int p0] : List Value).toArray = args at C ⊢
  obtain ⟨hx, hb, hr, hml, hown, hts, hlocks⟩ := id C
  have ht : ∀ w ∈ k_tbl, w.before args s = true := fun w h => hts w (List.mem_cons_of_mem _ h)
  have hS : va_S A s.heap s.heap [] := va_S.rf
  have hl : lv_has ls 2 [(0, .ref a_mo), (1, .int p0)] := hl
  refine lv_iload_n hx hb dX6_fault_0 rfl (lv_at hl 1 rfl) ?_
  refine lv_if_ne (tgt := 11) hx hb dX6_fault_1 (by decide) (fun c_1 => ?_) (fun c_1 => ?_)
  · replace h := o_f c_1 h
    refine lv_iload_n hx hb dX6_fault_11 rfl (lv_at hl 1 rfl) ?_
    refine lv_iconst (v := 1) hx hb dX6_fault_12 (by decide) ?_
    refine lv_icmp_ne (tgt := 30) hx hb dX6_fault_13 (by decide) (fun c_2 => ?_) (fun c_2 => ?_)
    · replace h := o_f c_2 h
      refine lv_iconst (v := -1) hx hb dX6_fault_30 (by decide) ?_
      obtain rfl := Option.some.inj h
      exact kRet_i C hP hD hS dX6_fault_31
    · replace h := o_t c_2 h
      refine lv_aload_n hx hb dX6_fault_16 rfl (lv_at hl 0 rfl) ?_
      refine va_get (D := D) (ci := 6) (v := .int mo_fault) (C := RX6) (T := TX6) (N := 26) hx hb ht inX6 hown hE.1 hP 0 rfl rfl 3 (by decide) (ht _ kw_517) (fun _ h9 => h9) rfl dX6_fault_17 ?_
      refine lv_if_le (tgt := 30) hx hb dX6_fault_20 (by decide) (fun c_3 => ?_) (fun c_3 => ?_)
      · replace h := o_t c_3 h
        refine lv_iconst (v := -1) hx hb dX6_fault_30 (by decide) ?_
        obtain rfl := Option.some.inj h
        exact kRet_i C hP hD hS dX6_fault_31
      · replace h := o_f c_3 h
        refine lv_aload_n hx hb dX6_fault_23 rfl (lv_at hl 0 rfl) ?_
        refine va_get (D := D) (ci := 6) (v := .int mo_place) (C := RX6) (T := TX6) (N := 26) hx hb ht inX6 hown hE.1 hP 0 rfl rfl 4 (by decide) (ht _ kw_518) (fun _ h9 => h9) rfl dX6_fault_24 ?_
        refine lv_goto (tgt := 31) hx hb dX6_fault_27 (by decide) ?_
        obtain rfl := Option.some.inj h
        exact kRet_i C hP hD hS dX6_fault_31
  · replace h := o_t c_1 h
    refine lv_aload_n hx hb dX6_fault_4 rfl (lv_at hl 0 rfl) ?_
    refine va_get (D := D) (ci := 6) (v := .int mo_fault) (C := RX6) (T := TX6) (N := 26) hx hb ht inX6 hown hE.1 hP 0 rfl rfl 3 (by decide) (ht _ kw_517) (fun _ h9 => h9) rfl dX6_fault_5 ?_
    refine lv_goto (tgt := 31) hx hb dX6_fault_8 (by decide) ?_
    obtain rfl := Option.some.inj h
    exact kRet_i C hP hD hS dX6_fault_31
set_option maxHeartbeats 4000000 in
set_option maxRecDepth 100000 in
theorem c_X6_line {l : Launch} {D : va_G} {cB cI cL : ClassId} {a_mo a_motape a_mokind a_mofirst a_mocount a_mobegins a_monumbers a_moout a_mofresh a_modigits : Nat} {mo_thrown : Int32} {mo_taped : Int32} {mo_fault : Int32} {mo_place : Int32} {mo_lines : Int32} {mo_used : Int32} {mo_state : Int32} {mo_at : Int32} {mo_many : Int32} {mo_labels : Int32} {mo_sign : Int32} {mo_value : Int64} {mo_from : Int32} {mo_to : Int32} {mo_printed : Int32} {mo_written : Int32} {mo_over : Int32} {mo_tapeA : Nat → Int32} {mo_kindA : Nat → Int32} {mo_firstA : Nat → Int32} {mo_countA : Nat → Int32} {mo_beginsA : Nat → Int32} {mo_numbersA : Nat → Int64} {mo_outA : Nat → Int32} {mo_freshA : Nat → Int32} {mo_digitsA : Nat → Int32} {p0 : Int32} {p1 : Int32} {res : Int32} (h : m_X6_line mo_lines mo_kindA mo_countA mo_beginsA p0 p1 = some res) : KMet l (⟨"LinkTextModel", "line", "(II)I"⟩ : MethodName) (.code (⟨"LinkTextModel", "line", "(II)I"⟩ : MethodName) prog_8_method_33_code 3 (some .int) :: k_tbl) ({ frames := 1, cells := 0, slots := 0, locals := 21 } : Room) (ev D cB cI cL) D vwCl [.ref a_mo, .int p0, .int p1] [(a_mo, .inr (6, [.int mo_thrown, .ref a_motape, .int mo_taped, .int mo_fault, .int mo_place, .int mo_lines, .ref a_mokind, .ref a_mofirst, .ref a_mocount, .ref a_mobegins, .ref a_monumbers, .int mo_used, .int mo_state, .int mo_at, .int mo_many, .int mo_labels, .int mo_sign, .long mo_value, .int mo_from, .int mo_to, .ref a_moout, .int mo_printed, .ref a_mofresh, .int mo_written, .int mo_over, .ref a_modigits])), (a_motape, .inl (cI, 4000, .inl mo_tapeA)), (a_mokind, .inl (cI, 64, .inl mo_kindA)), (a_mofirst, .inl (cI, 64, .inl mo_firstA)), (a_mocount, .inl (cI, 64, .inl mo_countA)), (a_mobegins, .inl (cI, 64, .inl mo_beginsA)), (a_monumbers, .inl (cL, 4200, .inr (.inl mo_numbersA))), (a_moout, .inl (cI, 4000, .inl mo_outA)), (a_mofresh, .inl (cI, 4000, .inl mo_freshA)), (a_modigits, .inl (cI, 20, .inl mo_digitsA))] (kQi D vwCl [(a_mo, .inr (6, [.int mo_thrown, .ref a_motape, .int mo_taped, .int mo_fault, .int mo_place, .int mo_lines, .ref a_mokind, .ref a_mofirst, .ref a_mocount, .ref a_mobegins, .ref a_monumbers, .int mo_used, .int mo_state, .int mo_at, .int mo_many, .int mo_labels, .int mo_sign, .long mo_value, .int mo_from, .int mo_to, .ref a_moout, .int mo_printed, .ref a_mofresh, .int mo_written, .int mo_over, .ref a_modigits])), (a_motape, .inl (cI, 4000, .inl mo_tapeA)), (a_mokind, .inl (cI, 64, .inl mo_kindA)), (a_mofirst, .inl (cI, 64, .inl mo_firstA)), (a_mocount, .inl (cI, 64, .inl mo_countA)), (a_mobegins, .inl (cI, 64, .inl mo_beginsA)), (a_monumbers, .inl (cL, 4200, .inr (.inl mo_numbersA))), (a_moout, .inl (cI, 4000, .inl mo_outA)), (a_mofresh, .inl (cI, 4000, .inl mo_freshA)), (a_modigits, .inl (cI, 20, .inl mo_digitsA))] res) := by
  unfold m_X6_line at h
  refine kMet (cc := prog_8_method_33_code) (mL := 3) (ret := (some .int)) (own := "LinkTextModel") (by decide) rfl rfl (Nat.le_of_ble_eq_true rfl) ?_
  intro p e s m below meth c A C hnm hE hA hP hD ls hl
  generalize ([.ref a_mo, .int p0, .int p1] : List Value).toArray = args at C ⊢
  obtain ⟨hx, hb, hr, hml, hown, hts, hlocks⟩ := id C
  have ht : ∀ w ∈ k_tbl, w.before args s = true := fun w h => hts w (List.mem_cons_of_mem _ h)
  have hS : va_S A s.heap s.heap [] := va_S.rf
  have hl : lv_has ls 3 [(0, .ref a_mo), (1, .int p0), (2, .int p1)] := hl
  refine lv_aload_n hx hb dX6_line_0 rfl (lv_at hl 0 rfl) ?_
  refine lv_iload_n hx hb dX6_line_1 rfl (lv_at hl 1 rfl) ?_
  obtain ⟨r_1, hr_1, h⟩ := o_b_s h
  refine kCi (w' := [(a_mo, .inr (6, [.int mo_thrown, .ref a_motape, .int mo_taped, .int mo_fault, .int mo_place, .int mo_lines, .ref a_mokind, .ref a_mofirst, .ref a_mocount, .ref a_mobegins, .ref a_monumbers, .int mo_used, .int mo_state, .int mo_at, .int mo_many, .int mo_labels, .int mo_sign, .long mo_value, .int mo_from, .int mo_to, .ref a_moout, .int mo_printed, .ref a_mofresh, .int mo_written, .int mo_over, .ref a_modigits])), (a_motape, .inl (cI, 4000, .inl mo_tapeA)), (a_mokind, .inl (cI, 64, .inl mo_kindA)), (a_mofirst, .inl (cI, 64, .inl mo_firstA)), (a_mocount, .inl (cI, 64, .inl mo_countA)), (a_mobegins, .inl (cI, 64, .inl mo_beginsA)), (a_monumbers, .inl (cL, 4200, .inr (.inl mo_numbersA))), (a_moout, .inl (cI, 4000, .inl mo_outA)), (a_mofresh, .inl (cI, 4000, .inl mo_freshA)), (a_modigits, .inl (cI, 20, .inl mo_digitsA))]) hP hD hS hA [0, 1, 2, 3, 4, 5, 6, 7, 8, 9] [] [0, 1, 2, 3, 4, 5, 6, 7, 8, 9] (kRunV (rest := []) C ev_ok hE hA hP hD hS [0, 1, 2, 3, 4, 5, 6, 7, 8, 9] rfl rfl rfl (c_X6_isLine hr_1) hE.1 0 6 rfl rfl (cwV 1 ht (gV kw_722 kw_724 kp_46 kw_7 kw_725) rfl rfl rfl (by decide +kernel) ⟨Nat.le_of_ble_eq_true rfl, Nat.le_of_ble_eq_true rfl⟩) rfl hl.1 rfl (Nat.le_of_ble_eq_true rfl) dX6_line_2 ⟨Nat.le_of_ble_eq_true rfl, Nat.le_of_ble_eq_true rfl⟩) rfl rfl rfl (by decide) rfl rfl rfl (fun H locs hP hD hS => ?_)
  refine lv_if_ne (tgt := 10) hx hb dX6_line_5 (by decide) (fun c_2 => ?_) (fun c_2 => ?_)
  · replace h := o_f c_2 h
    refine lv_iload_n hx hb dX6_line_10 rfl (lv_at hl 2 rfl) ?_
    refine lv_if_ne (tgt := 23) hx hb dX6_line_11 (by decide) (fun c_3 => ?_) (fun c_3 => ?_)
    · replace h := o_f c_3 h
      refine lv_iload_n hx hb dX6_line_23 rfl (lv_at hl 2 rfl) ?_
      refine lv_iconst (v := 1) hx hb dX6_line_24 (by decide) ?_
      refine lv_icmp_ne (tgt := 37) hx hb dX6_line_25 (by decide) (fun c_4 => ?_) (fun c_4 => ?_)
      · replace h := o_f c_4 h
        refine lv_iload_n hx hb dX6_line_37 rfl (lv_at hl 2 rfl) ?_
        refine lv_iconst (v := 2) hx hb dX6_line_38 (by decide) ?_
        refine lv_icmp_ne (tgt := 51) hx hb dX6_line_39 (by decide) (fun c_5 => ?_) (fun c_5 => ?_)
        · replace h := o_f c_5 h
          refine lv_iconst (v := -1) hx hb dX6_line_51 (by decide) ?_
          obtain rfl := Option.some.inj h
          exact kRet_i C hP hD hS dX6_line_52
        · replace h := o_t c_5 h
          refine lv_aload_n hx hb dX6_line_42 rfl (lv_at hl 0 rfl) ?_
          refine va_get (D := D) (ci := 6) (v := .ref a_mobegins) (C := RX6) (T := TX6) (N := 26) hx hb ht inX6 hown hE.1 hP 0 rfl rfl 9 (by decide) (ht _ kw_523) (fun _ h9 => h9) rfl dX6_line_43 ?_
          refine lv_iload_n hx hb dX6_line_46 rfl (lv_at hl 1 rfl) ?_
          obtain ⟨hz_6, h⟩ := o_in_s h
          refine va_iald hx hb hE.1 hP 5 1 rfl rfl hz_6 dX6_line_47 ?_
          refine lv_topi (fun t_7 et_7 => ?_)
          replace h := o_let_s et_7 h
          refine lv_goto (tgt := 52) hx hb dX6_line_48 (by decide) ?_
          obtain rfl := Option.some.inj h
          exact kRet_i C hP hD hS dX6_line_52
      · replace h := o_t c_4 h
        refine lv_aload_n hx hb dX6_line_28 rfl (lv_at hl 0 rfl) ?_
        refine va_get (D := D) (ci := 6) (v := .ref a_mocount) (C := RX6) (T := TX6) (N := 26) hx hb ht inX6 hown hE.1 hP 0 rfl rfl 8 (by decide) (ht _ kw_522) (fun _ h9 => h9) rfl dX6_line_29 ?_
        refine lv_iload_n hx hb dX6_line_32 rfl (lv_at hl 1 rfl) ?_
        obtain ⟨hz_8, h⟩ := o_in_s h
        refine va_iald hx hb hE.1 hP 4 1 rfl rfl hz_8 dX6_line_33 ?_
        refine lv_topi (fun t_9 et_9 => ?_)
        replace h := o_let_s et_9 h
        refine lv_goto (tgt := 52) hx hb dX6_line_34 (by decide) ?_
        obtain rfl := Option.some.inj h
        exact kRet_i C hP hD hS dX6_line_52
    · replace h := o_t c_3 h
      refine lv_aload_n hx hb dX6_line_14 rfl (lv_at hl 0 rfl) ?_
      refine va_get (D := D) (ci := 6) (v := .ref a_mokind) (C := RX6) (T := TX6) (N := 26) hx hb ht inX6 hown hE.1 hP 0 rfl rfl 6 (by decide) (ht _ kw_520) (fun _ h9 => h9) rfl dX6_line_15 ?_
      refine lv_iload_n hx hb dX6_line_18 rfl (lv_at hl 1 rfl) ?_
      obtain ⟨hz_10, h⟩ := o_in_s h
      refine va_iald hx hb hE.1 hP 2 1 rfl rfl hz_10 dX6_line_19 ?_
      refine lv_topi (fun t_11 et_11 => ?_)
      replace h := o_let_s et_11 h
      refine lv_goto (tgt := 52) hx hb dX6_line_20 (by decide) ?_
      obtain rfl := Option.some.inj h
      exact kRet_i C hP hD hS dX6_line_52
  · replace h := o_t c_2 h
    refine lv_iconst (v := -1) hx hb dX6_line_8 (by decide) ?_
    obtain rfl := Option.some.inj h
    exact kRet_i C hP hD hS dX6_line_9
set_option maxHeartbeats 4000000 in
set_option maxRecDepth 100000 in
theorem c_X6_number1 {l : Launch} {D : va_G} {cB cI cL : ClassId} {a_mo a_motape a_mokind a_mofirst a_mocount a_mobegins a_monumbers a_moout a_mofresh a_modigits : Nat} {mo_thrown : Int32} {mo_taped : Int32} {mo_fault : Int32} {mo_place : Int32} {mo_lines : Int32} {mo_used : Int32} {mo_state : Int32} {mo_at : Int32} {mo_many : Int32} {mo_labels : Int32} {mo_sign : Int32} {mo_value : Int64} {mo_from : Int32} {mo_to : Int32} {mo_printed : Int32} {mo_written : Int32} {mo_over : Int32} {mo_tapeA : Nat → Int32} {mo_kindA : Nat → Int32} {mo_firstA : Nat → Int32} {mo_countA : Nat → Int32} {mo_beginsA : Nat → Int32} {mo_numbersA : Nat → Int64} {mo_outA : Nat → Int32} {mo_freshA : Nat → Int32} {mo_digitsA : Nat → Int32} {p0 : Int32} {p1 : Int32} {res : Int64} (h : m_X6_number1 mo_lines mo_firstA mo_countA mo_numbersA p0 p1 = some res) : KMet l (⟨"LinkTextModel", "number", "(II)J"⟩ : MethodName) (.code (⟨"LinkTextModel", "number", "(II)J"⟩ : MethodName) prog_8_method_34_code 3 (some .long) :: k_tbl) ({ frames := 1, cells := 0, slots := 0, locals := 21 } : Room) (ev D cB cI cL) D vwCl [.ref a_mo, .int p0, .int p1] [(a_mo, .inr (6, [.int mo_thrown, .ref a_motape, .int mo_taped, .int mo_fault, .int mo_place, .int mo_lines, .ref a_mokind, .ref a_mofirst, .ref a_mocount, .ref a_mobegins, .ref a_monumbers, .int mo_used, .int mo_state, .int mo_at, .int mo_many, .int mo_labels, .int mo_sign, .long mo_value, .int mo_from, .int mo_to, .ref a_moout, .int mo_printed, .ref a_mofresh, .int mo_written, .int mo_over, .ref a_modigits])), (a_motape, .inl (cI, 4000, .inl mo_tapeA)), (a_mokind, .inl (cI, 64, .inl mo_kindA)), (a_mofirst, .inl (cI, 64, .inl mo_firstA)), (a_mocount, .inl (cI, 64, .inl mo_countA)), (a_mobegins, .inl (cI, 64, .inl mo_beginsA)), (a_monumbers, .inl (cL, 4200, .inr (.inl mo_numbersA))), (a_moout, .inl (cI, 4000, .inl mo_outA)), (a_mofresh, .inl (cI, 4000, .inl mo_freshA)), (a_modigits, .inl (cI, 20, .inl mo_digitsA))] (kQl D vwCl [(a_mo, .inr (6, [.int mo_thrown, .ref a_motape, .int mo_taped, .int mo_fault, .int mo_place, .int mo_lines, .ref a_mokind, .ref a_mofirst, .ref a_mocount, .ref a_mobegins, .ref a_monumbers, .int mo_used, .int mo_state, .int mo_at, .int mo_many, .int mo_labels, .int mo_sign, .long mo_value, .int mo_from, .int mo_to, .ref a_moout, .int mo_printed, .ref a_mofresh, .int mo_written, .int mo_over, .ref a_modigits])), (a_motape, .inl (cI, 4000, .inl mo_tapeA)), (a_mokind, .inl (cI, 64, .inl mo_kindA)), (a_mofirst, .inl (cI, 64, .inl mo_firstA)), (a_mocount, .inl (cI, 64, .inl mo_countA)), (a_mobegins, .inl (cI, 64, .inl mo_beginsA)), (a_monumbers, .inl (cL, 4200, .inr (.inl mo_numbersA))), (a_moout, .inl (cI, 4000, .inl mo_outA)), (a_mofresh, .inl (cI, 4000, .inl mo_freshA)), (a_modigits, .inl (cI, 20, .inl mo_digitsA))] res) := by
  unfold m_X6_number1 at h
  refine kMet (cc := prog_8_method_34_code) (mL := 3) (ret := (some .long)) (own := "LinkTextModel") (by decide) rfl rfl (Nat.le_of_ble_eq_true rfl) ?_
  intro p e s m below meth c A C hnm hE hA hP hD ls hl
  generalize ([.ref a_mo, .int p0, .int p1] : List Value).toArray = args at C ⊢
  obtain ⟨hx, hb, hr, hml, hown, hts, hlocks⟩ := id C
  have ht : ∀ w ∈ k_tbl, w.before args s = true := fun w h => hts w (List.mem_cons_of_mem _ h)
  have hS : va_S A s.heap s.heap [] := va_S.rf
  have hl : lv_has ls 3 [(0, .ref a_mo), (1, .int p0), (2, .int p1)] := hl
  refine lv_aload_n hx hb dX6_number1_0 rfl (lv_at hl 0 rfl) ?_
  refine lv_iload_n hx hb dX6_number1_1 rfl (lv_at hl 1 rfl) ?_
  obtain ⟨r_1, hr_1, h⟩ := o_b_s h
  refine kCi (w' := [(a_mo, .inr (6, [.int mo_thrown, .ref a_motape, .int mo_taped, .int mo_fault, .int mo_place, .int mo_lines, .ref a_mokind, .ref a_mofirst, .ref a_mocount, .ref a_mobegins, .ref a_monumbers, .int mo_used, .int mo_state, .int mo_at, .int mo_many, .int mo_labels, .int mo_sign, .long mo_value, .int mo_from, .int mo_to, .ref a_moout, .int mo_printed, .ref a_mofresh, .int mo_written, .int mo_over, .ref a_modigits])), (a_motape, .inl (cI, 4000, .inl mo_tapeA)), (a_mokind, .inl (cI, 64, .inl mo_kindA)), (a_mofirst, .inl (cI, 64, .inl mo_firstA)), (a_mocount, .inl (cI, 64, .inl mo_countA)), (a_mobegins, .inl (cI, 64, .inl mo_beginsA)), (a_monumbers, .inl (cL, 4200, .inr (.inl mo_numbersA))), (a_moout, .inl (cI, 4000, .inl mo_outA)), (a_mofresh, .inl (cI, 4000, .inl mo_freshA)), (a_modigits, .inl (cI, 20, .inl mo_digitsA))]) hP hD hS hA [0, 1, 2, 3, 4, 5, 6, 7, 8, 9] [] [0, 1, 2, 3, 4, 5, 6, 7, 8, 9] (kRunV (rest := []) C ev_ok hE hA hP hD hS [0, 1, 2, 3, 4, 5, 6, 7, 8, 9] rfl rfl rfl (c_X6_isLine hr_1) hE.1 0 6 rfl rfl (cwV 1 ht (gV kw_722 kw_724 kp_46 kw_7 kw_725) rfl rfl rfl (by decide +kernel) ⟨Nat.le_of_ble_eq_true rfl, Nat.le_of_ble_eq_true rfl⟩) rfl hl.1 rfl (Nat.le_of_ble_eq_true rfl) dX6_number1_2 ⟨Nat.le_of_ble_eq_true rfl, Nat.le_of_ble_eq_true rfl⟩) rfl rfl rfl (by decide) rfl rfl rfl (fun H locs hP hD hS => ?_)
  refine lv_if_eq (tgt := 22) hx hb dX6_number1_5 (by decide) (fun c_2 => ?_) (fun c_2 => ?_)
  · replace h := o_t c_2 h
    refine lv_lconst (v := 0) hx hb dX6_number1_22 (by decide) ?_
    refine lv_goto (tgt := 39) hx hb dX6_number1_23 (by decide) ?_
    obtain rfl := Option.some.inj h
    exact kRet_l C hP hD hS dX6_number1_39
  · replace h := o_f c_2 h
    refine lv_iload_n hx hb dX6_number1_8 rfl (lv_at hl 2 rfl) ?_
    refine lv_if_lt (tgt := 22) hx hb dX6_number1_9 (by decide) (fun c_3 => ?_) (fun c_3 => ?_)
    · replace h := o_t c_3 h
      refine lv_lconst (v := 0) hx hb dX6_number1_22 (by decide) ?_
      refine lv_goto (tgt := 39) hx hb dX6_number1_23 (by decide) ?_
      obtain rfl := Option.some.inj h
      exact kRet_l C hP hD hS dX6_number1_39
    · replace h := o_f c_3 h
      refine lv_iload_n hx hb dX6_number1_12 rfl (lv_at hl 2 rfl) ?_
      refine lv_aload_n hx hb dX6_number1_13 rfl (lv_at hl 0 rfl) ?_
      refine va_get (D := D) (ci := 6) (v := .ref a_mocount) (C := RX6) (T := TX6) (N := 26) hx hb ht inX6 hown hE.1 hP 0 rfl rfl 8 (by decide) (ht _ kw_522) (fun _ h9 => h9) rfl dX6_number1_14 ?_
      refine lv_iload_n hx hb dX6_number1_17 rfl (lv_at hl 1 rfl) ?_
      obtain ⟨hz_4, h⟩ := o_in_s h
      refine va_iald hx hb hE.1 hP 4 1 rfl rfl hz_4 dX6_number1_18 ?_
      refine lv_icmp_lt (tgt := 26) hx hb dX6_number1_19 (by decide) (fun c_5 => ?_) (fun c_5 => ?_)
      · replace h := o_t c_5 h
        refine lv_aload_n hx hb dX6_number1_26 rfl (lv_at hl 0 rfl) ?_
        refine va_get (D := D) (ci := 6) (v := .ref a_monumbers) (C := RX6) (T := TX6) (N := 26) hx hb ht inX6 hown hE.1 hP 0 rfl rfl 10 (by decide) (ht _ kw_524) (fun _ h9 => h9) rfl dX6_number1_27 ?_
        refine lv_aload_n hx hb dX6_number1_30 rfl (lv_at hl 0 rfl) ?_
        refine va_get (D := D) (ci := 6) (v := .ref a_mofirst) (C := RX6) (T := TX6) (N := 26) hx hb ht inX6 hown hE.1 hP 0 rfl rfl 7 (by decide) (ht _ kw_521) (fun _ h9 => h9) rfl dX6_number1_31 ?_
        refine lv_iload_n hx hb dX6_number1_34 rfl (lv_at hl 1 rfl) ?_
        obtain ⟨hz_6, h⟩ := o_in_s h
        refine va_iald hx hb hE.1 hP 3 1 rfl rfl hz_6 dX6_number1_35 ?_
        refine lv_topi (fun t_7 et_7 => ?_)
        replace h := o_let_s et_7 h
        refine lv_iload_n hx hb dX6_number1_36 rfl (lv_at hl 2 rfl) ?_
        refine lv_iadd hx hb dX6_number1_37 ?_
        refine lv_topi (fun t_8 et_8 => ?_)
        replace h := o_let_s et_8 h
        obtain ⟨hz_9, h⟩ := o_in_s h
        refine va_lald hx hb hE.1 hP 6 2 rfl rfl hz_9 dX6_number1_38 ?_
        obtain rfl := Option.some.inj h
        exact kRet_l C hP hD hS dX6_number1_39
      · replace h := o_f c_5 h
        refine lv_lconst (v := 0) hx hb dX6_number1_22 (by decide) ?_
        refine lv_goto (tgt := 39) hx hb dX6_number1_23 (by decide) ?_
        obtain rfl := Option.some.inj h
        exact kRet_l C hP hD hS dX6_number1_39
set_option maxHeartbeats 4000000 in
set_option maxRecDepth 100000 in
theorem c_X6_print {l : Launch} {D : va_G} {cB cI cL : ClassId} {a_mo a_motape a_mokind a_mofirst a_mocount a_mobegins a_monumbers a_moout a_mofresh a_modigits : Nat} {mo_thrown : Int32} {mo_taped : Int32} {mo_fault : Int32} {mo_place : Int32} {mo_lines : Int32} {mo_used : Int32} {mo_state : Int32} {mo_at : Int32} {mo_many : Int32} {mo_labels : Int32} {mo_sign : Int32} {mo_value : Int64} {mo_from : Int32} {mo_to : Int32} {mo_printed : Int32} {mo_written : Int32} {mo_over : Int32} {mo_tapeA : Nat → Int32} {mo_kindA : Nat → Int32} {mo_firstA : Nat → Int32} {mo_countA : Nat → Int32} {mo_beginsA : Nat → Int32} {mo_numbersA : Nat → Int64} {mo_outA : Nat → Int32} {mo_freshA : Nat → Int32} {mo_digitsA : Nat → Int32} {p0 : Int32} {res : Int32 × Int32 × Int32} (h : m_X6_print mo_lines mo_written mo_over mo_kindA p0 = some res) : KMet l (⟨"LinkTextModel", "print", "(I)I"⟩ : MethodName) (.code (⟨"LinkTextModel", "print", "(I)I"⟩ : MethodName) prog_8_method_43_code 3 (some .int) :: k_tbl) ({ frames := 1, cells := 0, slots := 0, locals := 21 } : Room) (ev D cB cI cL) D vwCl [.ref a_mo, .int p0] [(a_mo, .inr (6, [.int mo_thrown, .ref a_motape, .int mo_taped, .int mo_fault, .int mo_place, .int mo_lines, .ref a_mokind, .ref a_mofirst, .ref a_mocount, .ref a_mobegins, .ref a_monumbers, .int mo_used, .int mo_state, .int mo_at, .int mo_many, .int mo_labels, .int mo_sign, .long mo_value, .int mo_from, .int mo_to, .ref a_moout, .int mo_printed, .ref a_mofresh, .int mo_written, .int mo_over, .ref a_modigits])), (a_motape, .inl (cI, 4000, .inl mo_tapeA)), (a_mokind, .inl (cI, 64, .inl mo_kindA)), (a_mofirst, .inl (cI, 64, .inl mo_firstA)), (a_mocount, .inl (cI, 64, .inl mo_countA)), (a_mobegins, .inl (cI, 64, .inl mo_beginsA)), (a_monumbers, .inl (cL, 4200, .inr (.inl mo_numbersA))), (a_moout, .inl (cI, 4000, .inl mo_outA)), (a_mofresh, .inl (cI, 4000, .inl mo_freshA)), (a_modigits, .inl (cI, 20, .inl mo_digitsA))] (kQi D vwCl [(a_mo, .inr (6, [.int mo_thrown, .ref a_motape, .int mo_taped, .int mo_fault, .int mo_place, .int mo_lines, .ref a_mokind, .ref a_mofirst, .ref a_mocount, .ref a_mobegins, .ref a_monumbers, .int mo_used, .int mo_state, .int mo_at, .int mo_many, .int mo_labels, .int mo_sign, .long mo_value, .int mo_from, .int mo_to, .ref a_moout, .int mo_printed, .ref a_mofresh, .int res.2.1, .int res.2.2, .ref a_modigits])), (a_motape, .inl (cI, 4000, .inl mo_tapeA)), (a_mokind, .inl (cI, 64, .inl mo_kindA)), (a_mofirst, .inl (cI, 64, .inl mo_firstA)), (a_mocount, .inl (cI, 64, .inl mo_countA)), (a_mobegins, .inl (cI, 64, .inl mo_beginsA)), (a_monumbers, .inl (cL, 4200, .inr (.inl mo_numbersA))), (a_moout, .inl (cI, 4000, .inl mo_outA)), (a_mofresh, .inl (cI, 4000, .inl mo_freshA)), (a_modigits, .inl (cI, 20, .inl mo_digitsA))] res.1) := by
  unfold m_X6_print at h
  refine kMet (cc := prog_8_method_43_code) (mL := 3) (ret := (some .int)) (own := "LinkTextModel") (by decide) rfl rfl (Nat.le_of_ble_eq_true rfl) ?_
  intro p e s m below meth c A C hnm hE hA hP hD ls hl
  generalize ([.ref a_mo, .int p0] : List Value).toArray = args at C ⊢
  obtain ⟨hx, hb, hr, hml, hown, hts, hlocks⟩ := id C
  have ht : ∀ w ∈ k_tbl, w.before args s = true := fun w h => hts w (List.mem_cons_of_mem _ h)
  have hS : va_S A s.heap s.heap [] := va_S.rf
  have hl : lv_has ls 3 [(0, .ref a_mo), (1, .int p0)] := hl
  refine lv_aload_n hx hb dX6_print_0 rfl (lv_at hl 0 rfl) ?_
  refine lv_iload_n hx hb dX6_print_1 rfl (lv_at hl 1 rfl) ?_
  obtain ⟨r_1, hr_1, h⟩ := o_b_s h
  refine kCi (w' := [(a_mo, .inr (6, [.int mo_thrown, .ref a_motape, .int mo_taped, .int mo_fault, .int mo_place, .int mo_lines, .ref a_mokind, .ref a_mofirst, .ref a_mocount, .ref a_mobegins, .ref a_monumbers, .int mo_used, .int mo_state, .int mo_at, .int mo_many, .int mo_labels, .int mo_sign, .long mo_value, .int mo_from, .int mo_to, .ref a_moout, .int mo_printed, .ref a_mofresh, .int mo_written, .int mo_over, .ref a_modigits])), (a_motape, .inl (cI, 4000, .inl mo_tapeA)), (a_mokind, .inl (cI, 64, .inl mo_kindA)), (a_mofirst, .inl (cI, 64, .inl mo_firstA)), (a_mocount, .inl (cI, 64, .inl mo_countA)), (a_mobegins, .inl (cI, 64, .inl mo_beginsA)), (a_monumbers, .inl (cL, 4200, .inr (.inl mo_numbersA))), (a_moout, .inl (cI, 4000, .inl mo_outA)), (a_mofresh, .inl (cI, 4000, .inl mo_freshA)), (a_modigits, .inl (cI, 20, .inl mo_digitsA))]) hP hD hS hA [0, 1, 2, 3, 4, 5, 6, 7, 8, 9] [] [0, 1, 2, 3, 4, 5, 6, 7, 8, 9] (kRunV (rest := []) C ev_ok hE hA hP hD hS [0, 1, 2, 3, 4, 5, 6, 7, 8, 9] rfl rfl rfl (c_X6_isLine hr_1) hE.1 0 6 rfl rfl (cwV 1 ht (gV kw_722 kw_724 kp_46 kw_7 kw_725) rfl rfl rfl (by decide +kernel) ⟨Nat.le_of_ble_eq_true rfl, Nat.le_of_ble_eq_true rfl⟩) rfl hl.1 rfl (Nat.le_of_ble_eq_true rfl) dX6_print_2 ⟨Nat.le_of_ble_eq_true rfl, Nat.le_of_ble_eq_true rfl⟩) rfl rfl rfl (by decide) rfl rfl rfl (fun H locs hP hD hS => ?_)
  refine lv_if_ne (tgt := 10) hx hb dX6_print_5 (by decide) (fun c_2 => ?_) (fun c_2 => ?_)
  · replace h := o_f c_2 h
    refine lv_aload_n hx hb dX6_print_10 rfl (lv_at hl 0 rfl) ?_
    refine lv_iconst (v := 0) hx hb dX6_print_11 (by decide) ?_
    refine va_put (D := D) (ci := 6) (v := .int (0 : Int32)) (ty := .int) (C := RX6) (T := TX6) (N := 26) hx hb ht inX6 tyX6 tyX6_ok nmX6 hown hE.1 hP hD hS 0 rfl rfl 23 (by decide) (ht _ kw_537) (fun _ h9 => h9) rfl (by decide +kernel) rfl rfl (Nat.le_of_ble_eq_true rfl) dX6_print_12 (fun H locs hP hD hS => ?_)
    have hP : va_P D vwCl [(a_mo, .inr (6, [.int mo_thrown, .ref a_motape, .int mo_taped, .int mo_fault, .int mo_place, .int mo_lines, .ref a_mokind, .ref a_mofirst, .ref a_mocount, .ref a_mobegins, .ref a_monumbers, .int mo_used, .int mo_state, .int mo_at, .int mo_many, .int mo_labels, .int mo_sign, .long mo_value, .int mo_from, .int mo_to, .ref a_moout, .int mo_printed, .ref a_mofresh, .int (0 : Int32), .int mo_over, .ref a_modigits])), (a_motape, .inl (cI, 4000, .inl mo_tapeA)), (a_mokind, .inl (cI, 64, .inl mo_kindA)), (a_mofirst, .inl (cI, 64, .inl mo_firstA)), (a_mocount, .inl (cI, 64, .inl mo_countA)), (a_mobegins, .inl (cI, 64, .inl mo_beginsA)), (a_monumbers, .inl (cL, 4200, .inr (.inl mo_numbersA))), (a_moout, .inl (cI, 4000, .inl mo_outA)), (a_mofresh, .inl (cI, 4000, .inl mo_freshA)), (a_modigits, .inl (cI, 20, .inl mo_digitsA))] H := hP
    have hD : va_D A [(a_mo, .inr (6, [.int mo_thrown, .ref a_motape, .int mo_taped, .int mo_fault, .int mo_place, .int mo_lines, .ref a_mokind, .ref a_mofirst, .ref a_mocount, .ref a_mobegins, .ref a_monumbers, .int mo_used, .int mo_state, .int mo_at, .int mo_many, .int mo_labels, .int mo_sign, .long mo_value, .int mo_from, .int mo_to, .ref a_moout, .int mo_printed, .ref a_mofresh, .int (0 : Int32), .int mo_over, .ref a_modigits])), (a_motape, .inl (cI, 4000, .inl mo_tapeA)), (a_mokind, .inl (cI, 64, .inl mo_kindA)), (a_mofirst, .inl (cI, 64, .inl mo_firstA)), (a_mocount, .inl (cI, 64, .inl mo_countA)), (a_mobegins, .inl (cI, 64, .inl mo_beginsA)), (a_monumbers, .inl (cL, 4200, .inr (.inl mo_numbersA))), (a_moout, .inl (cI, 4000, .inl mo_outA)), (a_mofresh, .inl (cI, 4000, .inl mo_freshA)), (a_modigits, .inl (cI, 20, .inl mo_digitsA))] := hD
    refine lv_aload_n hx hb dX6_print_15 rfl (lv_at hl 0 rfl) ?_
    refine lv_iconst (v := 0) hx hb dX6_print_16 (by decide) ?_
    refine va_put (D := D) (ci := 6) (v := .int (0 : Int32)) (ty := .boolean) (C := RX6) (T := TX6) (N := 26) hx hb ht inX6 tyX6 tyX6_ok nmX6 hown hE.1 hP hD hS 0 rfl rfl 24 (by decide) (ht _ kw_538) (fun _ h9 => h9) rfl (by decide +kernel) rfl rfl (Nat.le_of_ble_eq_true rfl) dX6_print_17 (fun H locs hP hD hS => ?_)
    have hP : va_P D vwCl [(a_mo, .inr (6, [.int mo_thrown, .ref a_motape, .int mo_taped, .int mo_fault, .int mo_place, .int mo_lines, .ref a_mokind, .ref a_mofirst, .ref a_mocount, .ref a_mobegins, .ref a_monumbers, .int mo_used, .int mo_state, .int mo_at, .int mo_many, .int mo_labels, .int mo_sign, .long mo_value, .int mo_from, .int mo_to, .ref a_moout, .int mo_printed, .ref a_mofresh, .int (0 : Int32), .int (0 : Int32), .ref a_modigits])), (a_motape, .inl (cI, 4000, .inl mo_tapeA)), (a_mokind, .inl (cI, 64, .inl mo_kindA)), (a_mofirst, .inl (cI, 64, .inl mo_firstA)), (a_mocount, .inl (cI, 64, .inl mo_countA)), (a_mobegins, .inl (cI, 64, .inl mo_beginsA)), (a_monumbers, .inl (cL, 4200, .inr (.inl mo_numbersA))), (a_moout, .inl (cI, 4000, .inl mo_outA)), (a_mofresh, .inl (cI, 4000, .inl mo_freshA)), (a_modigits, .inl (cI, 20, .inl mo_digitsA))] H := hP
    have hD : va_D A [(a_mo, .inr (6, [.int mo_thrown, .ref a_motape, .int mo_taped, .int mo_fault, .int mo_place, .int mo_lines, .ref a_mokind, .ref a_mofirst, .ref a_mocount, .ref a_mobegins, .ref a_monumbers, .int mo_used, .int mo_state, .int mo_at, .int mo_many, .int mo_labels, .int mo_sign, .long mo_value, .int mo_from, .int mo_to, .ref a_moout, .int mo_printed, .ref a_mofresh, .int (0 : Int32), .int (0 : Int32), .ref a_modigits])), (a_motape, .inl (cI, 4000, .inl mo_tapeA)), (a_mokind, .inl (cI, 64, .inl mo_kindA)), (a_mofirst, .inl (cI, 64, .inl mo_firstA)), (a_mocount, .inl (cI, 64, .inl mo_countA)), (a_mobegins, .inl (cI, 64, .inl mo_beginsA)), (a_monumbers, .inl (cL, 4200, .inr (.inl mo_numbersA))), (a_moout, .inl (cI, 4000, .inl mo_outA)), (a_mofresh, .inl (cI, 4000, .inl mo_freshA)), (a_modigits, .inl (cI, 20, .inl mo_digitsA))] := hD
    refine lv_aload_n hx hb dX6_print_20 rfl (lv_at hl 0 rfl) ?_
    refine lv_aload_n hx hb dX6_print_21 rfl (lv_at hl 0 rfl) ?_
    refine va_get (D := D) (ci := 6) (v := .ref a_mokind) (C := RX6) (T := TX6) (N := 26) hx hb ht inX6 hown hE.1 hP 0 rfl rfl 6 (by decide) (ht _ kw_520) (fun _ h9 => h9) rfl dX6_print_22 ?_
    refine lv_iload_n hx hb dX6_print_25 rfl (lv_at hl 1 rfl) ?_
    obtain ⟨hz_3, h⟩ := o_in_s h
    refine va_iald hx hb hE.1 hP 2 1 rfl rfl hz_3 dX6_print_26 ?_
    refine lv_topi (fun t_4 et_4 => ?_)
    replace h := o_let_s et_4 h
    cases h
  · replace h := o_t c_2 h
    refine lv_iconst (v := -1) hx hb dX6_print_8 (by decide) ?_
    obtain rfl := Option.some.inj h
    exact kRet_i C hP hD hS dX6_print_9
set_option maxHeartbeats 4000000 in
set_option maxRecDepth 100000 in
theorem c_X6_printed {l : Launch} {D : va_G} {cB cI cL : ClassId} {a_mo a_motape a_mokind a_mofirst a_mocount a_mobegins a_monumbers a_moout a_mofresh a_modigits : Nat} {mo_thrown : Int32} {mo_taped : Int32} {mo_fault : Int32} {mo_place : Int32} {mo_lines : Int32} {mo_used : Int32} {mo_state : Int32} {mo_at : Int32} {mo_many : Int32} {mo_labels : Int32} {mo_sign : Int32} {mo_value : Int64} {mo_from : Int32} {mo_to : Int32} {mo_printed : Int32} {mo_written : Int32} {mo_over : Int32} {mo_tapeA : Nat → Int32} {mo_kindA : Nat → Int32} {mo_firstA : Nat → Int32} {mo_countA : Nat → Int32} {mo_beginsA : Nat → Int32} {mo_numbersA : Nat → Int64} {mo_outA : Nat → Int32} {mo_freshA : Nat → Int32} {mo_digitsA : Nat → Int32} {p0 : Int32} {res : Int32} (h : m_X6_printed mo_printed mo_outA p0 = some res) : KMet l (⟨"LinkTextModel", "printed", "(I)I"⟩ : MethodName) (.code (⟨"LinkTextModel", "printed", "(I)I"⟩ : MethodName) prog_8_method_44_code 2 (some .int) :: k_tbl) ({ frames := 0, cells := 0, slots := 0, locals := 0 } : Room) (ev D cB cI cL) D vwCl [.ref a_mo, .int p0] [(a_mo, .inr (6, [.int mo_thrown, .ref a_motape, .int mo_taped, .int mo_fault, .int mo_place, .int mo_lines, .ref a_mokind, .ref a_mofirst, .ref a_mocount, .ref a_mobegins, .ref a_monumbers, .int mo_used, .int mo_state, .int mo_at, .int mo_many, .int mo_labels, .int mo_sign, .long mo_value, .int mo_from, .int mo_to, .ref a_moout, .int mo_printed, .ref a_mofresh, .int mo_written, .int mo_over, .ref a_modigits])), (a_motape, .inl (cI, 4000, .inl mo_tapeA)), (a_mokind, .inl (cI, 64, .inl mo_kindA)), (a_mofirst, .inl (cI, 64, .inl mo_firstA)), (a_mocount, .inl (cI, 64, .inl mo_countA)), (a_mobegins, .inl (cI, 64, .inl mo_beginsA)), (a_monumbers, .inl (cL, 4200, .inr (.inl mo_numbersA))), (a_moout, .inl (cI, 4000, .inl mo_outA)), (a_mofresh, .inl (cI, 4000, .inl mo_freshA)), (a_modigits, .inl (cI, 20, .inl mo_digitsA))] (kQi D vwCl [(a_mo, .inr (6, [.int mo_thrown, .ref a_motape, .int mo_taped, .int mo_fault, .int mo_place, .int mo_lines, .ref a_mokind, .ref a_mofirst, .ref a_mocount, .ref a_mobegins, .ref a_monumbers, .int mo_used, .int mo_state, .int mo_at, .int mo_many, .int mo_labels, .int mo_sign, .long mo_value, .int mo_from, .int mo_to, .ref a_moout, .int mo_printed, .ref a_mofresh, .int mo_written, .int mo_over, .ref a_modigits])), (a_motape, .inl (cI, 4000, .inl mo_tapeA)), (a_mokind, .inl (cI, 64, .inl mo_kindA)), (a_mofirst, .inl (cI, 64, .inl mo_firstA)), (a_mocount, .inl (cI, 64, .inl mo_countA)), (a_mobegins, .inl (cI, 64, .inl mo_beginsA)), (a_monumbers, .inl (cL, 4200, .inr (.inl mo_numbersA))), (a_moout, .inl (cI, 4000, .inl mo_outA)), (a_mofresh, .inl (cI, 4000, .inl mo_freshA)), (a_modigits, .inl (cI, 20, .inl mo_digitsA))] res) := by
  unfold m_X6_printed at h
  refine kMet (cc := prog_8_method_44_code) (mL := 2) (ret := (some .int)) (own := "LinkTextModel") (by decide) rfl rfl (Nat.le_of_ble_eq_true rfl) ?_
  intro p e s m below meth c A C hnm hE hA hP hD ls hl
  generalize ([.ref a_mo, .int p0] : List Value).toArray = args at C ⊢
  obtain ⟨hx, hb, hr, hml, hown, hts, hlocks⟩ := id C
  have ht : ∀ w ∈ k_tbl, w.before args s = true := fun w h => hts w (List.mem_cons_of_mem _ h)
  have hS : va_S A s.heap s.heap [] := va_S.rf
  have hl : lv_has ls 2 [(0, .ref a_mo), (1, .int p0)] := hl
  refine lv_iload_n hx hb dX6_printed_0 rfl (lv_at hl 1 rfl) ?_
  refine lv_if_lt (tgt := 12) hx hb dX6_printed_1 (by decide) (fun c_1 => ?_) (fun c_1 => ?_)
  · replace h := o_t c_1 h
    refine lv_iconst (v := -1) hx hb dX6_printed_12 (by decide) ?_
    refine lv_goto (tgt := 22) hx hb dX6_printed_13 (by decide) ?_
    obtain rfl := Option.some.inj h
    exact kRet_i C hP hD hS dX6_printed_22
  · replace h := o_f c_1 h
    refine lv_iload_n hx hb dX6_printed_4 rfl (lv_at hl 1 rfl) ?_
    refine lv_aload_n hx hb dX6_printed_5 rfl (lv_at hl 0 rfl) ?_
    refine va_get (D := D) (ci := 6) (v := .int mo_printed) (C := RX6) (T := TX6) (N := 26) hx hb ht inX6 hown hE.1 hP 0 rfl rfl 21 (by decide) (ht _ kw_535) (fun _ h9 => h9) rfl dX6_printed_6 ?_
    refine lv_icmp_lt (tgt := 16) hx hb dX6_printed_9 (by decide) (fun c_2 => ?_) (fun c_2 => ?_)
    · replace h := o_t c_2 h
      refine lv_aload_n hx hb dX6_printed_16 rfl (lv_at hl 0 rfl) ?_
      refine va_get (D := D) (ci := 6) (v := .ref a_moout) (C := RX6) (T := TX6) (N := 26) hx hb ht inX6 hown hE.1 hP 0 rfl rfl 20 (by decide) (ht _ kw_534) (fun _ h9 => h9) rfl dX6_printed_17 ?_
      refine lv_iload_n hx hb dX6_printed_20 rfl (lv_at hl 1 rfl) ?_
      obtain ⟨hz_3, h⟩ := o_in_s h
      refine va_iald hx hb hE.1 hP 7 1 rfl rfl hz_3 dX6_printed_21 ?_
      obtain rfl := Option.some.inj h
      exact kRet_i C hP hD hS dX6_printed_22
    · replace h := o_f c_2 h
      refine lv_iconst (v := -1) hx hb dX6_printed_12 (by decide) ?_
      refine lv_goto (tgt := 22) hx hb dX6_printed_13 (by decide) ?_
      obtain rfl := Option.some.inj h
      exact kRet_i C hP hD hS dX6_printed_22
set_option maxHeartbeats 4000000 in
set_option maxRecDepth 100000 in
theorem k_X6_wipe_J45 {l : Launch} {p : Program} {e : Env} {s : State} {m : MethodId} {args : Array Value} {below : List Frame} {meth : Method} {c : Code} {A : Nat → Prop} {D : va_G} {cB cI cL : ClassId} {a_mo a_motape a_mokind a_mofirst a_mocount a_mobegins a_monumbers a_moout a_mofresh a_modigits : Nat} {mo_thrown : Int32} {mo_fault : Int32} {mo_place : Int32} {mo_lines : Int32} {mo_used : Int32} {mo_state : Int32} {mo_at : Int32} {mo_many : Int32} {mo_labels : Int32} {mo_sign : Int32} {mo_value : Int64} {mo_from : Int32} {mo_to : Int32} {mo_written : Int32} {mo_over : Int32} {mo_kindA : Nat → Int32} {mo_firstA : Nat → Int32} {mo_countA : Nat → Int32} {mo_beginsA : Nat → Int32} {mo_numbersA : Nat → Int64} {mo_freshA : Nat → Int32} {mo_digitsA : Nat → Int32} {res : Int32 × Int32 × Int32 × (Nat → Int32)} (C : kx p s m args meth c prog_8_method_45_code 4 (some .int) "LinkTextModel" (.code (⟨"LinkTextModel", "wipe", "(Z)I"⟩ : MethodName) prog_8_method_45_code 4 (some .int) :: k_tbl)) (hE : ev D cB cI cL A s) (hA : ∀ q : Nat, s.heap.size ≤ q → A q) :
    ∀ (mo_taped : Int32) (mo_printed : Int32) (mo_tapeA : Nat → Int32) (mo_outA : Nat → Int32) (x2 : Int32) (H : Heap) (locs : List Loc) (ls : Array Slot), va_P D vwCl [(a_mo, .inr (6, [.int mo_thrown, .ref a_motape, .int mo_taped, .int mo_fault, .int mo_place, .int mo_lines, .ref a_mokind, .ref a_mofirst, .ref a_mocount, .ref a_mobegins, .ref a_monumbers, .int mo_used, .int mo_state, .int mo_at, .int mo_many, .int mo_labels, .int mo_sign, .long mo_value, .int mo_from, .int mo_to, .ref a_moout, .int mo_printed, .ref a_mofresh, .int mo_written, .int mo_over, .ref a_modigits])), (a_motape, .inl (cI, 4000, .inl mo_tapeA)), (a_mokind, .inl (cI, 64, .inl mo_kindA)), (a_mofirst, .inl (cI, 64, .inl mo_firstA)), (a_mocount, .inl (cI, 64, .inl mo_countA)), (a_mobegins, .inl (cI, 64, .inl mo_beginsA)), (a_monumbers, .inl (cL, 4200, .inr (.inl mo_numbersA))), (a_moout, .inl (cI, 4000, .inl mo_outA)), (a_mofresh, .inl (cI, 4000, .inl mo_freshA)), (a_modigits, .inl (cI, 20, .inl mo_digitsA))] H → va_D A [(a_mo, .inr (6, [.int mo_thrown, .ref a_motape, .int mo_taped, .int mo_fault, .int mo_place, .int mo_lines, .ref a_mokind, .ref a_mofirst, .ref a_mocount, .ref a_mobegins, .ref a_monumbers, .int mo_used, .int mo_state, .int mo_at, .int mo_many, .int mo_labels, .int mo_sign, .long mo_value, .int mo_from, .int mo_to, .ref a_moout, .int mo_printed, .ref a_mofresh, .int mo_written, .int mo_over, .ref a_modigits])), (a_motape, .inl (cI, 4000, .inl mo_tapeA)), (a_mokind, .inl (cI, 64, .inl mo_kindA)), (a_mofirst, .inl (cI, 64, .inl mo_firstA)), (a_mocount, .inl (cI, 64, .inl mo_countA)), (a_mobegins, .inl (cI, 64, .inl mo_beginsA)), (a_monumbers, .inl (cL, 4200, .inr (.inl mo_numbersA))), (a_moout, .inl (cI, 4000, .inl mo_outA)), (a_mofresh, .inl (cI, 4000, .inl mo_freshA)), (a_modigits, .inl (cI, 20, .inl mo_digitsA))] → va_S A s.heap H locs → lv_has ls 4 [(0, .ref a_mo), (2, .int x2)] → m_X6_wipe_J45  mo_taped mo_printed mo_tapeA mo_outA x2 = some res → W p l e ({ frames := 0, cells := 0, slots := 0, locals := 0 } : Room) s m args below meth c H locs 0 0 (MQ below (kQi D vwCl [(a_mo, .inr (6, [.int mo_thrown, .ref a_motape, .int res.2.1, .int mo_fault, .int mo_place, .int mo_lines, .ref a_mokind, .ref a_mofirst, .ref a_mocount, .ref a_mobegins, .ref a_monumbers, .int mo_used, .int mo_state, .int mo_at, .int mo_many, .int mo_labels, .int mo_sign, .long mo_value, .int mo_from, .int mo_to, .ref a_moout, .int res.2.2.1, .ref a_mofresh, .int mo_written, .int mo_over, .ref a_modigits])), (a_motape, .inl (cI, 4000, .inl res.2.2.2)), (a_mokind, .inl (cI, 64, .inl mo_kindA)), (a_mofirst, .inl (cI, 64, .inl mo_firstA)), (a_mocount, .inl (cI, 64, .inl mo_countA)), (a_mobegins, .inl (cI, 64, .inl mo_beginsA)), (a_monumbers, .inl (cL, 4200, .inr (.inl mo_numbersA))), (a_moout, .inl (cI, 4000, .inl mo_outA)), (a_mofresh, .inl (cI, 4000, .inl mo_freshA)), (a_modigits, .inl (cI, 20, .inl mo_digitsA))] res.1 A) args s 0 0 A) (F0 m 45 ls []) := by
  obtain ⟨hx, hb, hr, hml, hown, hts, hlocks⟩ := id C
  have ht : ∀ w ∈ k_tbl, w.before args s = true := fun w h => hts w (List.mem_cons_of_mem _ h)
  intro mo_taped mo_printed mo_tapeA mo_outA x2 H locs ls hP hD hS hl h
  unfold m_X6_wipe_J45 at h
  refine lv_aload_n hx hb dX6_wipe_45 rfl (lv_at hl 0 rfl) ?_
  refine lv_iconst (v := 0) hx hb dX6_wipe_46 (by decide) ?_
  refine va_put (D := D) (ci := 6) (v := .int (0 : Int32)) (ty := .int) (C := RX6) (T := TX6) (N := 26) hx hb ht inX6 tyX6 tyX6_ok nmX6 hown hE.1 hP hD hS 0 rfl rfl 21 (by decide) (ht _ kw_535) (fun _ h9 => h9) rfl (by decide +kernel) rfl rfl (Nat.le_of_ble_eq_true rfl) dX6_wipe_47 (fun H locs hP hD hS => ?_)
  have hP : va_P D vwCl [(a_mo, .inr (6, [.int mo_thrown, .ref a_motape, .int mo_taped, .int mo_fault, .int mo_place, .int mo_lines, .ref a_mokind, .ref a_mofirst, .ref a_mocount, .ref a_mobegins, .ref a_monumbers, .int mo_used, .int mo_state, .int mo_at, .int mo_many, .int mo_labels, .int mo_sign, .long mo_value, .int mo_from, .int mo_to, .ref a_moout, .int (0 : Int32), .ref a_mofresh, .int mo_written, .int mo_over, .ref a_modigits])), (a_motape, .inl (cI, 4000, .inl mo_tapeA)), (a_mokind, .inl (cI, 64, .inl mo_kindA)), (a_mofirst, .inl (cI, 64, .inl mo_firstA)), (a_mocount, .inl (cI, 64, .inl mo_countA)), (a_mobegins, .inl (cI, 64, .inl mo_beginsA)), (a_monumbers, .inl (cL, 4200, .inr (.inl mo_numbersA))), (a_moout, .inl (cI, 4000, .inl mo_outA)), (a_mofresh, .inl (cI, 4000, .inl mo_freshA)), (a_modigits, .inl (cI, 20, .inl mo_digitsA))] H := hP
  have hD : va_D A [(a_mo, .inr (6, [.int mo_thrown, .ref a_motape, .int mo_taped, .int mo_fault, .int mo_place, .int mo_lines, .ref a_mokind, .ref a_mofirst, .ref a_mocount, .ref a_mobegins, .ref a_monumbers, .int mo_used, .int mo_state, .int mo_at, .int mo_many, .int mo_labels, .int mo_sign, .long mo_value, .int mo_from, .int mo_to, .ref a_moout, .int (0 : Int32), .ref a_mofresh, .int mo_written, .int mo_over, .ref a_modigits])), (a_motape, .inl (cI, 4000, .inl mo_tapeA)), (a_mokind, .inl (cI, 64, .inl mo_kindA)), (a_mofirst, .inl (cI, 64, .inl mo_firstA)), (a_mocount, .inl (cI, 64, .inl mo_countA)), (a_mobegins, .inl (cI, 64, .inl mo_beginsA)), (a_monumbers, .inl (cL, 4200, .inr (.inl mo_numbersA))), (a_moout, .inl (cI, 4000, .inl mo_outA)), (a_mofresh, .inl (cI, 4000, .inl mo_freshA)), (a_modigits, .inl (cI, 20, .inl mo_digitsA))] := hD
  refine lv_iload_n hx hb dX6_wipe_50 rfl (lv_at hl 1 rfl) ?_
  obtain rfl := Option.some.inj h
  exact kRet_i C hP hD hS dX6_wipe_51
set_option maxHeartbeats 4000000 in
set_option maxRecDepth 100000 in
theorem k_X6_wipe_J37 {l : Launch} {p : Program} {e : Env} {s : State} {m : MethodId} {args : Array Value} {below : List Frame} {meth : Method} {c : Code} {A : Nat → Prop} {D : va_G} {cB cI cL : ClassId} {a_mo a_motape a_mokind a_mofirst a_mocount a_mobegins a_monumbers a_moout a_mofresh a_modigits : Nat} {mo_thrown : Int32} {mo_fault : Int32} {mo_place : Int32} {mo_lines : Int32} {mo_used : Int32} {mo_state : Int32} {mo_at : Int32} {mo_many : Int32} {mo_labels : Int32} {mo_sign : Int32} {mo_value : Int64} {mo_from : Int32} {mo_to : Int32} {mo_written : Int32} {mo_over : Int32} {mo_kindA : Nat → Int32} {mo_firstA : Nat → Int32} {mo_countA : Nat → Int32} {mo_beginsA : Nat → Int32} {mo_numbersA : Nat → Int64} {mo_freshA : Nat → Int32} {mo_digitsA : Nat → Int32} {res : Int32 × Int32 × Int32 × (Nat → Int32)} (C : kx p s m args meth c prog_8_method_45_code 4 (some .int) "LinkTextModel" (.code (⟨"LinkTextModel", "wipe", "(Z)I"⟩ : MethodName) prog_8_method_45_code 4 (some .int) :: k_tbl)) (hE : ev D cB cI cL A s) (hA : ∀ q : Nat, s.heap.size ≤ q → A q) :
    ∀ (mo_taped : Int32) (mo_printed : Int32) (mo_tapeA : Nat → Int32) (mo_outA : Nat → Int32) (x2 : Int32) (H : Heap) (locs : List Loc) (ls : Array Slot), va_P D vwCl [(a_mo, .inr (6, [.int mo_thrown, .ref a_motape, .int mo_taped, .int mo_fault, .int mo_place, .int mo_lines, .ref a_mokind, .ref a_mofirst, .ref a_mocount, .ref a_mobegins, .ref a_monumbers, .int mo_used, .int mo_state, .int mo_at, .int mo_many, .int mo_labels, .int mo_sign, .long mo_value, .int mo_from, .int mo_to, .ref a_moout, .int mo_printed, .ref a_mofresh, .int mo_written, .int mo_over, .ref a_modigits])), (a_motape, .inl (cI, 4000, .inl mo_tapeA)), (a_mokind, .inl (cI, 64, .inl mo_kindA)), (a_mofirst, .inl (cI, 64, .inl mo_firstA)), (a_mocount, .inl (cI, 64, .inl mo_countA)), (a_mobegins, .inl (cI, 64, .inl mo_beginsA)), (a_monumbers, .inl (cL, 4200, .inr (.inl mo_numbersA))), (a_moout, .inl (cI, 4000, .inl mo_outA)), (a_mofresh, .inl (cI, 4000, .inl mo_freshA)), (a_modigits, .inl (cI, 20, .inl mo_digitsA))] H → va_D A [(a_mo, .inr (6, [.int mo_thrown, .ref a_motape, .int mo_taped, .int mo_fault, .int mo_place, .int mo_lines, .ref a_mokind, .ref a_mofirst, .ref a_mocount, .ref a_mobegins, .ref a_monumbers, .int mo_used, .int mo_state, .int mo_at, .int mo_many, .int mo_labels, .int mo_sign, .long mo_value, .int mo_from, .int mo_to, .ref a_moout, .int mo_printed, .ref a_mofresh, .int mo_written, .int mo_over, .ref a_modigits])), (a_motape, .inl (cI, 4000, .inl mo_tapeA)), (a_mokind, .inl (cI, 64, .inl mo_kindA)), (a_mofirst, .inl (cI, 64, .inl mo_firstA)), (a_mocount, .inl (cI, 64, .inl mo_countA)), (a_mobegins, .inl (cI, 64, .inl mo_beginsA)), (a_monumbers, .inl (cL, 4200, .inr (.inl mo_numbersA))), (a_moout, .inl (cI, 4000, .inl mo_outA)), (a_mofresh, .inl (cI, 4000, .inl mo_freshA)), (a_modigits, .inl (cI, 20, .inl mo_digitsA))] → va_S A s.heap H locs → lv_has ls 4 [(0, .ref a_mo), (2, .int x2)] → m_X6_wipe_J37  mo_taped mo_printed mo_tapeA mo_outA x2 = some res → W p l e ({ frames := 0, cells := 0, slots := 0, locals := 0 } : Room) s m args below meth c H locs 0 0 (MQ below (kQi D vwCl [(a_mo, .inr (6, [.int mo_thrown, .ref a_motape, .int res.2.1, .int mo_fault, .int mo_place, .int mo_lines, .ref a_mokind, .ref a_mofirst, .ref a_mocount, .ref a_mobegins, .ref a_monumbers, .int mo_used, .int mo_state, .int mo_at, .int mo_many, .int mo_labels, .int mo_sign, .long mo_value, .int mo_from, .int mo_to, .ref a_moout, .int res.2.2.1, .ref a_mofresh, .int mo_written, .int mo_over, .ref a_modigits])), (a_motape, .inl (cI, 4000, .inl res.2.2.2)), (a_mokind, .inl (cI, 64, .inl mo_kindA)), (a_mofirst, .inl (cI, 64, .inl mo_firstA)), (a_mocount, .inl (cI, 64, .inl mo_countA)), (a_mobegins, .inl (cI, 64, .inl mo_beginsA)), (a_monumbers, .inl (cL, 4200, .inr (.inl mo_numbersA))), (a_moout, .inl (cI, 4000, .inl mo_outA)), (a_mofresh, .inl (cI, 4000, .inl mo_freshA)), (a_modigits, .inl (cI, 20, .inl mo_digitsA))] res.1 A) args s 0 0 A) (F0 m 37 ls []) := by
  obtain ⟨hx, hb, hr, hml, hown, hts, hlocks⟩ := id C
  have ht : ∀ w ∈ k_tbl, w.before args s = true := fun w h => hts w (List.mem_cons_of_mem _ h)
  intro mo_taped mo_printed mo_tapeA mo_outA x2 H locs ls hP hD hS hl h
  unfold m_X6_wipe_J37 at h
  refine lv_aload_n hx hb dX6_wipe_37 rfl (lv_at hl 0 rfl) ?_
  refine lv_aload_n hx hb dX6_wipe_38 rfl (lv_at hl 0 rfl) ?_
  refine va_get (D := D) (ci := 6) (v := .int mo_printed) (C := RX6) (T := TX6) (N := 26) hx hb ht inX6 hown hE.1 hP 0 rfl rfl 21 (by decide) (ht _ kw_535) (fun _ h9 => h9) rfl dX6_wipe_39 ?_
  refine va_put (D := D) (ci := 6) (v := .int mo_printed) (ty := .int) (C := RX6) (T := TX6) (N := 26) hx hb ht inX6 tyX6 tyX6_ok nmX6 hown hE.1 hP hD hS 0 rfl rfl 2 (by decide) (ht _ kw_516) (fun _ h9 => h9) rfl (by decide +kernel) rfl rfl (Nat.le_of_ble_eq_true rfl) dX6_wipe_42 (fun H locs hP hD hS => ?_)
  have hP : va_P D vwCl [(a_mo, .inr (6, [.int mo_thrown, .ref a_motape, .int mo_printed, .int mo_fault, .int mo_place, .int mo_lines, .ref a_mokind, .ref a_mofirst, .ref a_mocount, .ref a_mobegins, .ref a_monumbers, .int mo_used, .int mo_state, .int mo_at, .int mo_many, .int mo_labels, .int mo_sign, .long mo_value, .int mo_from, .int mo_to, .ref a_moout, .int mo_printed, .ref a_mofresh, .int mo_written, .int mo_over, .ref a_modigits])), (a_motape, .inl (cI, 4000, .inl mo_tapeA)), (a_mokind, .inl (cI, 64, .inl mo_kindA)), (a_mofirst, .inl (cI, 64, .inl mo_firstA)), (a_mocount, .inl (cI, 64, .inl mo_countA)), (a_mobegins, .inl (cI, 64, .inl mo_beginsA)), (a_monumbers, .inl (cL, 4200, .inr (.inl mo_numbersA))), (a_moout, .inl (cI, 4000, .inl mo_outA)), (a_mofresh, .inl (cI, 4000, .inl mo_freshA)), (a_modigits, .inl (cI, 20, .inl mo_digitsA))] H := hP
  have hD : va_D A [(a_mo, .inr (6, [.int mo_thrown, .ref a_motape, .int mo_printed, .int mo_fault, .int mo_place, .int mo_lines, .ref a_mokind, .ref a_mofirst, .ref a_mocount, .ref a_mobegins, .ref a_monumbers, .int mo_used, .int mo_state, .int mo_at, .int mo_many, .int mo_labels, .int mo_sign, .long mo_value, .int mo_from, .int mo_to, .ref a_moout, .int mo_printed, .ref a_mofresh, .int mo_written, .int mo_over, .ref a_modigits])), (a_motape, .inl (cI, 4000, .inl mo_tapeA)), (a_mokind, .inl (cI, 64, .inl mo_kindA)), (a_mofirst, .inl (cI, 64, .inl mo_firstA)), (a_mocount, .inl (cI, 64, .inl mo_countA)), (a_mobegins, .inl (cI, 64, .inl mo_beginsA)), (a_monumbers, .inl (cL, 4200, .inr (.inl mo_numbersA))), (a_moout, .inl (cI, 4000, .inl mo_outA)), (a_mofresh, .inl (cI, 4000, .inl mo_freshA)), (a_modigits, .inl (cI, 20, .inl mo_digitsA))] := hD
  exact k_X6_wipe_J45 C hE hA  mo_printed mo_printed mo_tapeA mo_outA x2 _ _ _ hP hD hS (lv_sub hl [0, 1] rfl) h
set_option maxHeartbeats 4000000 in
set_option maxRecDepth 100000 in
theorem k_X6_wipe_L11 {l : Launch} {p : Program} {e : Env} {s : State} {m : MethodId} {args : Array Value} {below : List Frame} {meth : Method} {c : Code} {A : Nat → Prop} {D : va_G} {cB cI cL : ClassId} {a_mo a_motape a_mokind a_mofirst a_mocount a_mobegins a_monumbers a_moout a_mofresh a_modigits : Nat} {mo_thrown : Int32} {mo_fault : Int32} {mo_place : Int32} {mo_lines : Int32} {mo_used : Int32} {mo_state : Int32} {mo_at : Int32} {mo_many : Int32} {mo_labels : Int32} {mo_sign : Int32} {mo_value : Int64} {mo_from : Int32} {mo_to : Int32} {mo_written : Int32} {mo_over : Int32} {mo_kindA : Nat → Int32} {mo_firstA : Nat → Int32} {mo_countA : Nat → Int32} {mo_beginsA : Nat → Int32} {mo_numbersA : Nat → Int64} {mo_freshA : Nat → Int32} {mo_digitsA : Nat → Int32} {res : Int32 × Int32 × Int32 × (Nat → Int32)} (C : kx p s m args meth c prog_8_method_45_code 4 (some .int) "LinkTextModel" (.code (⟨"LinkTextModel", "wipe", "(Z)I"⟩ : MethodName) prog_8_method_45_code 4 (some .int) :: k_tbl)) (hE : ev D cB cI cL A s) (hA : ∀ q : Nat, s.heap.size ≤ q → A q) :
    ∀ (n : Nat) (mo_taped : Int32) (mo_printed : Int32) (mo_tapeA : Nat → Int32) (mo_outA : Nat → Int32) (x2 : Int32) (x3 : Int32) (H : Heap) (locs : List Loc) (ls : Array Slot), va_P D vwCl [(a_mo, .inr (6, [.int mo_thrown, .ref a_motape, .int mo_taped, .int mo_fault, .int mo_place, .int mo_lines, .ref a_mokind, .ref a_mofirst, .ref a_mocount, .ref a_mobegins, .ref a_monumbers, .int mo_used, .int mo_state, .int mo_at, .int mo_many, .int mo_labels, .int mo_sign, .long mo_value, .int mo_from, .int mo_to, .ref a_moout, .int mo_printed, .ref a_mofresh, .int mo_written, .int mo_over, .ref a_modigits])), (a_motape, .inl (cI, 4000, .inl mo_tapeA)), (a_mokind, .inl (cI, 64, .inl mo_kindA)), (a_mofirst, .inl (cI, 64, .inl mo_firstA)), (a_mocount, .inl (cI, 64, .inl mo_countA)), (a_mobegins, .inl (cI, 64, .inl mo_beginsA)), (a_monumbers, .inl (cL, 4200, .inr (.inl mo_numbersA))), (a_moout, .inl (cI, 4000, .inl mo_outA)), (a_mofresh, .inl (cI, 4000, .inl mo_freshA)), (a_modigits, .inl (cI, 20, .inl mo_digitsA))] H → va_D A [(a_mo, .inr (6, [.int mo_thrown, .ref a_motape, .int mo_taped, .int mo_fault, .int mo_place, .int mo_lines, .ref a_mokind, .ref a_mofirst, .ref a_mocount, .ref a_mobegins, .ref a_monumbers, .int mo_used, .int mo_state, .int mo_at, .int mo_many, .int mo_labels, .int mo_sign, .long mo_value, .int mo_from, .int mo_to, .ref a_moout, .int mo_printed, .ref a_mofresh, .int mo_written, .int mo_over, .ref a_modigits])), (a_motape, .inl (cI, 4000, .inl mo_tapeA)), (a_mokind, .inl (cI, 64, .inl mo_kindA)), (a_mofirst, .inl (cI, 64, .inl mo_firstA)), (a_mocount, .inl (cI, 64, .inl mo_countA)), (a_mobegins, .inl (cI, 64, .inl mo_beginsA)), (a_monumbers, .inl (cL, 4200, .inr (.inl mo_numbersA))), (a_moout, .inl (cI, 4000, .inl mo_outA)), (a_mofresh, .inl (cI, 4000, .inl mo_freshA)), (a_modigits, .inl (cI, 20, .inl mo_digitsA))] → va_S A s.heap H locs → lv_has ls 4 [(0, .ref a_mo), (2, .int x2), (3, .int x3)] → m_X6_wipe_L11  n mo_taped mo_printed mo_tapeA mo_outA x2 x3 = some res → W p l e ({ frames := 0, cells := 0, slots := 0, locals := 0 } : Room) s m args below meth c H locs 0 0 (MQ below (kQi D vwCl [(a_mo, .inr (6, [.int mo_thrown, .ref a_motape, .int res.2.1, .int mo_fault, .int mo_place, .int mo_lines, .ref a_mokind, .ref a_mofirst, .ref a_mocount, .ref a_mobegins, .ref a_monumbers, .int mo_used, .int mo_state, .int mo_at, .int mo_many, .int mo_labels, .int mo_sign, .long mo_value, .int mo_from, .int mo_to, .ref a_moout, .int res.2.2.1, .ref a_mofresh, .int mo_written, .int mo_over, .ref a_modigits])), (a_motape, .inl (cI, 4000, .inl res.2.2.2)), (a_mokind, .inl (cI, 64, .inl mo_kindA)), (a_mofirst, .inl (cI, 64, .inl mo_firstA)), (a_mocount, .inl (cI, 64, .inl mo_countA)), (a_mobegins, .inl (cI, 64, .inl mo_beginsA)), (a_monumbers, .inl (cL, 4200, .inr (.inl mo_numbersA))), (a_moout, .inl (cI, 4000, .inl mo_outA)), (a_mofresh, .inl (cI, 4000, .inl mo_freshA)), (a_modigits, .inl (cI, 20, .inl mo_digitsA))] res.1 A) args s 0 0 A) (F0 m 11 ls []) := by
  obtain ⟨hx, hb, hr, hml, hown, hts, hlocks⟩ := id C
  have ht : ∀ w ∈ k_tbl, w.before args s = true := fun w h => hts w (List.mem_cons_of_mem _ h)
  intro n
  induction n with
  | zero =>
    intro _ _ _ _ _ _ _ _ _ _ _ _ _ h
    cases h
  | succ n ih =>
    intro mo_taped mo_printed mo_tapeA mo_outA x2 x3 H locs ls hP hD hS hl h
    rw [m_X6_wipe_L11] at h
    refine lv_iload_n hx hb dX6_wipe_11 rfl (lv_at hl 2 rfl) ?_
    refine lv_aload_n hx hb dX6_wipe_12 rfl (lv_at hl 0 rfl) ?_
    refine va_get (D := D) (ci := 6) (v := .int mo_printed) (C := RX6) (T := TX6) (N := 26) hx hb ht inX6 hown hE.1 hP 0 rfl rfl 21 (by decide) (ht _ kw_535) (fun _ h9 => h9) rfl dX6_wipe_13 ?_
    refine lv_icmp_ge (tgt := 37) hx hb dX6_wipe_16 (by decide) (fun c_1 => ?_) (fun c_1 => ?_)
    · replace h := o_t c_1 h
      exact k_X6_wipe_J37 C hE hA  mo_taped mo_printed mo_tapeA mo_outA x2 _ _ _ hP hD hS (lv_sub hl [0, 1] rfl) h
    · replace h := o_f c_1 h
      refine lv_aload_n hx hb dX6_wipe_19 rfl (lv_at hl 0 rfl) ?_
      refine va_get (D := D) (ci := 6) (v := .ref a_motape) (C := RX6) (T := TX6) (N := 26) hx hb ht inX6 hown hE.1 hP 0 rfl rfl 1 (by decide) (ht _ kw_515) (fun _ h9 => h9) rfl dX6_wipe_20 ?_
      refine lv_iload_n hx hb dX6_wipe_23 rfl (lv_at hl 2 rfl) ?_
      refine lv_aload_n hx hb dX6_wipe_24 rfl (lv_at hl 0 rfl) ?_
      refine va_get (D := D) (ci := 6) (v := .ref a_moout) (C := RX6) (T := TX6) (N := 26) hx hb ht inX6 hown hE.1 hP 0 rfl rfl 20 (by decide) (ht _ kw_534) (fun _ h9 => h9) rfl dX6_wipe_25 ?_
      refine lv_iload_n hx hb dX6_wipe_28 rfl (lv_at hl 2 rfl) ?_
      obtain ⟨hz_2, h⟩ := o_in_s h
      refine va_iald hx hb hE.1 hP 7 1 rfl rfl hz_2 dX6_wipe_29 ?_
      refine lv_topi (fun t_3 et_3 => ?_)
      replace h := o_let_s et_3 h
      obtain ⟨hz_4, h⟩ := o_in_s h
      obtain ⟨f_5, ef_5⟩ : ∃ y, y = upd mo_tapeA x3.toNatClampNeg t_3 := ⟨_, rfl⟩
      replace h := o_let_s ef_5 h
      refine va_iast hx hb hE.1 hP hD hS 1 1 rfl rfl hz_4 dX6_wipe_30 (fun H locs hP hD hS => ?_)
      rw [← ef_5] at hP hD
      have hP : va_P D vwCl [(a_mo, .inr (6, [.int mo_thrown, .ref a_motape, .int mo_taped, .int mo_fault, .int mo_place, .int mo_lines, .ref a_mokind, .ref a_mofirst, .ref a_mocount, .ref a_mobegins, .ref a_monumbers, .int mo_used, .int mo_state, .int mo_at, .int mo_many, .int mo_labels, .int mo_sign, .long mo_value, .int mo_from, .int mo_to, .ref a_moout, .int mo_printed, .ref a_mofresh, .int mo_written, .int mo_over, .ref a_modigits])), (a_motape, .inl (cI, 4000, .inl f_5)), (a_mokind, .inl (cI, 64, .inl mo_kindA)), (a_mofirst, .inl (cI, 64, .inl mo_firstA)), (a_mocount, .inl (cI, 64, .inl mo_countA)), (a_mobegins, .inl (cI, 64, .inl mo_beginsA)), (a_monumbers, .inl (cL, 4200, .inr (.inl mo_numbersA))), (a_moout, .inl (cI, 4000, .inl mo_outA)), (a_mofresh, .inl (cI, 4000, .inl mo_freshA)), (a_modigits, .inl (cI, 20, .inl mo_digitsA))] H := hP
      have hD : va_D A [(a_mo, .inr (6, [.int mo_thrown, .ref a_motape, .int mo_taped, .int mo_fault, .int mo_place, .int mo_lines, .ref a_mokind, .ref a_mofirst, .ref a_mocount, .ref a_mobegins, .ref a_monumbers, .int mo_used, .int mo_state, .int mo_at, .int mo_many, .int mo_labels, .int mo_sign, .long mo_value, .int mo_from, .int mo_to, .ref a_moout, .int mo_printed, .ref a_mofresh, .int mo_written, .int mo_over, .ref a_modigits])), (a_motape, .inl (cI, 4000, .inl f_5)), (a_mokind, .inl (cI, 64, .inl mo_kindA)), (a_mofirst, .inl (cI, 64, .inl mo_firstA)), (a_mocount, .inl (cI, 64, .inl mo_countA)), (a_mobegins, .inl (cI, 64, .inl mo_beginsA)), (a_monumbers, .inl (cL, 4200, .inr (.inl mo_numbersA))), (a_moout, .inl (cI, 4000, .inl mo_outA)), (a_mofresh, .inl (cI, 4000, .inl mo_freshA)), (a_modigits, .inl (cI, 20, .inl mo_digitsA))] := hD
      obtain ⟨t_6, et_6⟩ : ∃ y : Int32, y = x3 + 1 := ⟨_, rfl⟩
      replace h := o_let_s et_6 h
      refine lv_iinc (v := t_6) (lv' := [(3, .int t_6), (0, .ref a_mo), (2, .int x2)]) hx hb dX6_wipe_31 hl (k := 2) rfl (by rw [et_6]; rfl) (by decide) rfl (fun ls hl => ?_)
      refine lv_goto (tgt := 11) hx hb dX6_wipe_34 (by decide) ?_
      exact ih mo_taped mo_printed f_5 mo_outA x2 t_6 _ _ _ hP hD hS (lv_sub hl [1, 2, 0] rfl) h
set_option maxHeartbeats 4000000 in
set_option maxRecDepth 100000 in
theorem c_X6_wipe {l : Launch} {D : va_G} {cB cI cL : ClassId} {a_mo a_motape a_mokind a_mofirst a_mocount a_mobegins a_monumbers a_moout a_mofresh a_modigits : Nat} {mo_thrown : Int32} {mo_taped : Int32} {mo_fault : Int32} {mo_place : Int32} {mo_lines : Int32} {mo_used : Int32} {mo_state : Int32} {mo_at : Int32} {mo_many : Int32} {mo_labels : Int32} {mo_sign : Int32} {mo_value : Int64} {mo_from : Int32} {mo_to : Int32} {mo_printed : Int32} {mo_written : Int32} {mo_over : Int32} {mo_tapeA : Nat → Int32} {mo_kindA : Nat → Int32} {mo_firstA : Nat → Int32} {mo_countA : Nat → Int32} {mo_beginsA : Nat → Int32} {mo_numbersA : Nat → Int64} {mo_outA : Nat → Int32} {mo_freshA : Nat → Int32} {mo_digitsA : Nat → Int32} {p0 : Int32} {res : Int32 × Int32 × Int32 × (Nat → Int32)} (h : m_X6_wipe mo_taped mo_printed mo_tapeA mo_outA p0 = some res) : KMet l (⟨"LinkTextModel", "wipe", "(Z)I"⟩ : MethodName) (.code (⟨"LinkTextModel", "wipe", "(Z)I"⟩ : MethodName) prog_8_method_45_code 4 (some .int) :: k_tbl) ({ frames := 0, cells := 0, slots := 0, locals := 0 } : Room) (ev D cB cI cL) D vwCl [.ref a_mo, .int p0] [(a_mo, .inr (6, [.int mo_thrown, .ref a_motape, .int mo_taped, .int mo_fault, .int mo_place, .int mo_lines, .ref a_mokind, .ref a_mofirst, .ref a_mocount, .ref a_mobegins, .ref a_monumbers, .int mo_used, .int mo_state, .int mo_at, .int mo_many, .int mo_labels, .int mo_sign, .long mo_value, .int mo_from, .int mo_to, .ref a_moout, .int mo_printed, .ref a_mofresh, .int mo_written, .int mo_over, .ref a_modigits])), (a_motape, .inl (cI, 4000, .inl mo_tapeA)), (a_mokind, .inl (cI, 64, .inl mo_kindA)), (a_mofirst, .inl (cI, 64, .inl mo_firstA)), (a_mocount, .inl (cI, 64, .inl mo_countA)), (a_mobegins, .inl (cI, 64, .inl mo_beginsA)), (a_monumbers, .inl (cL, 4200, .inr (.inl mo_numbersA))), (a_moout, .inl (cI, 4000, .inl mo_outA)), (a_mofresh, .inl (cI, 4000, .inl mo_freshA)), (a_modigits, .inl (cI, 20, .inl mo_digitsA))] (kQi D vwCl [(a_mo, .inr (6, [.int mo_thrown, .ref a_motape, .int res.2.1, .int mo_fault, .int mo_place, .int mo_lines, .ref a_mokind, .ref a_mofirst, .ref a_mocount, .ref a_mobegins, .ref a_monumbers, .int mo_used, .int mo_state, .int mo_at, .int mo_many, .int mo_labels, .int mo_sign, .long mo_value, .int mo_from, .int mo_to, .ref a_moout, .int res.2.2.1, .ref a_mofresh, .int mo_written, .int mo_over, .ref a_modigits])), (a_motape, .inl (cI, 4000, .inl res.2.2.2)), (a_mokind, .inl (cI, 64, .inl mo_kindA)), (a_mofirst, .inl (cI, 64, .inl mo_firstA)), (a_mocount, .inl (cI, 64, .inl mo_countA)), (a_mobegins, .inl (cI, 64, .inl mo_beginsA)), (a_monumbers, .inl (cL, 4200, .inr (.inl mo_numbersA))), (a_moout, .inl (cI, 4000, .inl mo_outA)), (a_mofresh, .inl (cI, 4000, .inl mo_freshA)), (a_modigits, .inl (cI, 20, .inl mo_digitsA))] res.1) := by
  unfold m_X6_wipe at h
  refine kMet (cc := prog_8_method_45_code) (mL := 4) (ret := (some .int)) (own := "LinkTextModel") (by decide) rfl rfl (Nat.le_of_ble_eq_true rfl) ?_
  intro p e s m below meth c A C hnm hE hA hP hD ls hl
  generalize ([.ref a_mo, .int p0] : List Value).toArray = args at C ⊢
  obtain ⟨hx, hb, hr, hml, hown, hts, hlocks⟩ := id C
  have ht : ∀ w ∈ k_tbl, w.before args s = true := fun w h => hts w (List.mem_cons_of_mem _ h)
  have hS : va_S A s.heap s.heap [] := va_S.rf
  have hl : lv_has ls 4 [(0, .ref a_mo), (1, .int p0)] := hl
  refine lv_aload_n hx hb dX6_wipe_0 rfl (lv_at hl 0 rfl) ?_
  refine va_get (D := D) (ci := 6) (v := .int mo_printed) (C := RX6) (T := TX6) (N := 26) hx hb ht inX6 hown hE.1 hP 0 rfl rfl 21 (by decide) (ht _ kw_535) (fun _ h9 => h9) rfl dX6_wipe_1 ?_
  refine lv_istore_n (lv' := [(2, .int mo_printed), (0, .ref a_mo), (1, .int p0)]) hx hb dX6_wipe_4 rfl hl (by decide) rfl (fun ls hl => ?_)
  refine lv_iload_n hx hb dX6_wipe_5 rfl (lv_at hl 2 rfl) ?_
  refine lv_if_eq (tgt := 45) hx hb dX6_wipe_6 (by decide) (fun c_7 => ?_) (fun c_7 => ?_)
  · replace h := o_t c_7 h
    exact k_X6_wipe_J45 C hE hA  mo_taped mo_printed mo_tapeA mo_outA mo_printed _ _ _ hP hD hS (lv_sub hl [1, 0] rfl) h
  · replace h := o_f c_7 h
    refine lv_iconst (v := 0) hx hb dX6_wipe_9 (by decide) ?_
    refine lv_istore_n (lv' := [(3, .int (0 : Int32)), (2, .int mo_printed), (0, .ref a_mo), (1, .int p0)]) hx hb dX6_wipe_10 rfl hl (by decide) rfl (fun ls hl => ?_)
    exact k_X6_wipe_L11 C hE hA  fu mo_taped mo_printed mo_tapeA mo_outA mo_printed (0 : Int32) _ _ _ hP hD hS (lv_sub hl [2, 1, 0] rfl) h
end
section
set_option maxHeartbeats 4000000 in
set_option maxRecDepth 100000 in
theorem n_X0_init {l : Launch} {D : va_G} {cB cI cL : ClassId} {a_this : Nat} : KMetN (S := Nat → Nat) l (⟨"LinkText$ByteRow", "<init>", "()V"⟩ : MethodName) (.code (⟨"LinkText$ByteRow", "<init>", "()V"⟩ : MethodName) prog_2_method_1_code 1 none :: k_tbl) ({ frames := 1, cells := 1, slots := 4000, locals := 12 } : Room) 1 4000 (ev D cB cI cL) D vwCl [.ref a_this] [(a_this, .inr (0, [.null, .int 0, .int 0]))] (fun u => [(a_this, .inr (0, [.ref (u 0), .int 0, .int 0])), ((u 0), .inl (cB, 4000, .inl (fun _ => 0)))]) := by
  refine kMetN (cc := prog_2_method_1_code) (mL := 1) (ret := none) (own := "LinkText$ByteRow") (by decide) rfl rfl (Nat.le_of_ble_eq_true rfl) ?_
  intro p e s m below meth c A C hnm hE hA hP hD ls hl
  generalize ([.ref a_this] : List Value).toArray = args at C ⊢
  obtain ⟨hx, hb, hr, hml, hown, hts, hlocks⟩ := id C
  have ht : ∀ w ∈ k_tbl, w.before args s = true := fun w h => hts w (List.mem_cons_of_mem _ h)
  have hS : va_S A s.heap s.heap [] := va_S.rf
  have hl : lv_has ls 1 [(0, .ref a_this)] := hl
  refine lv_aload_n hx hb dX0_init_0 rfl (lv_at hl 0 rfl) ?_
  refine W.objInit hx hb hown (ht _ kw_27) (ht _ kw_20) (ht _ kw_21) rfl (by rw [hml]; exact hl.1) rfl dX0_init_1 (Nat.le_of_ble_eq_true rfl) (Nat.le_of_ble_eq_true rfl) ?_
  refine W.eq (g2 := F0 m 4 ls []) rfl ?_
  refine lv_aload_n hx hb dX0_init_4 rfl (lv_at hl 0 rfl) ?_
  refine lv_sipush (v := 4000) hx hb dX0_init_5 (by decide) ?_
  refine k_newa (atype := .byte) (a0 := (4000, .inl (fun _ => 0))) (ty := .byte) hx hb (ht _ kw_41) rfl hE.1 0 rfl (fun _ h1 h2 => Option.some.inj (h1.symm.trans h2)) hP hD hS hA (fun _ => rfl) (by decide) (N' := 4000) (by decide) (by decide) (Nat.le_of_ble_eq_true rfl) (Nat.le_of_ble_eq_true rfl) dX0_init_8 (fun q_8 H hP hD hS => ?_)
  have hP : va_P D vwCl [(a_this, .inr (0, [.null, .int 0, .int 0])), (q_8, .inl (cB, 4000, .inl (fun _ => 0)))] H := hP
  have hD : va_D A [(a_this, .inr (0, [.null, .int 0, .int 0])), (q_8, .inl (cB, 4000, .inl (fun _ => 0)))] := hD
  refine W.widen (k := 1) (n := 4000) (Nat.le_of_ble_eq_true rfl) (Nat.le_of_ble_eq_true rfl) ?_
  refine va_putF (D := D) (ci := 0) (v := .ref q_8) (ty := (.array .byte)) (C := RX0) (T := TX0) (N := 3) hx hb ht inX0 tyX0 tyX0_ok nmX0 hown hE.1 hP hD hS 0 rfl rfl 0 (by decide) (ht _ kw_28) (fun _ h9 => h9) rfl hnm rfl (by decide +kernel) rfl rfl (Nat.le_of_ble_eq_true rfl) dX0_init_10 (fun H locs hP hD hS => ?_)
  have hP : va_P D vwCl [(a_this, .inr (0, [.ref q_8, .int 0, .int 0])), (q_8, .inl (cB, 4000, .inl (fun _ => 0)))] H := hP
  have hD : va_D A [(a_this, .inr (0, [.ref q_8, .int 0, .int 0])), (q_8, .inl (cB, 4000, .inl (fun _ => 0)))] := hD
  refine lv_aload_n hx hb dX0_init_13 rfl (lv_at hl 0 rfl) ?_
  refine lv_iconst (v := 0) hx hb dX0_init_14 (by decide) ?_
  refine va_put (D := D) (ci := 0) (v := .int 0) (ty := .int) (C := RX0) (T := TX0) (N := 3) hx hb ht inX0 tyX0 tyX0_ok nmX0 hown hE.1 hP hD hS 0 rfl rfl 1 (by decide) (ht _ kw_30) (fun _ h9 => h9) rfl (by decide +kernel) rfl rfl (Nat.le_of_ble_eq_true rfl) dX0_init_15 (fun H locs hP hD hS => ?_)
  have hP : va_P D vwCl [(a_this, .inr (0, [.ref q_8, .int 0, .int 0])), (q_8, .inl (cB, 4000, .inl (fun _ => 0)))] H := hP
  have hD : va_D A [(a_this, .inr (0, [.ref q_8, .int 0, .int 0])), (q_8, .inl (cB, 4000, .inl (fun _ => 0)))] := hD
  refine lv_aload_n hx hb dX0_init_18 rfl (lv_at hl 0 rfl) ?_
  refine lv_iconst (v := 0) hx hb dX0_init_19 (by decide) ?_
  refine va_put (D := D) (ci := 0) (v := .int 0) (ty := .boolean) (C := RX0) (T := TX0) (N := 3) hx hb ht inX0 tyX0 tyX0_ok nmX0 hown hE.1 hP hD hS 0 rfl rfl 2 (by decide) (ht _ kw_32) (fun _ h9 => h9) rfl (by decide +kernel) rfl rfl (Nat.le_of_ble_eq_true rfl) dX0_init_20 (fun H locs hP hD hS => ?_)
  have hP : va_P D vwCl [(a_this, .inr (0, [.ref q_8, .int 0, .int 0])), (q_8, .inl (cB, 4000, .inl (fun _ => 0)))] H := hP
  have hD : va_D A [(a_this, .inr (0, [.ref q_8, .int 0, .int 0])), (q_8, .inl (cB, 4000, .inl (fun _ => 0)))] := hD
  exact kRet_n (fun i => ([q_8] : List Nat).getD i 0) C hP hD hS dX0_init_23
set_option maxHeartbeats 4000000 in
set_option maxRecDepth 100000 in
theorem n_X1_init {l : Launch} {D : va_G} {cB cI cL : ClassId} {a_this : Nat} : KMetN (S := Nat → Nat) l (⟨"LinkText$Lines", "<init>", "()V"⟩ : MethodName) (.code (⟨"LinkText$Lines", "<init>", "()V"⟩ : MethodName) prog_3_method_1_code 1 none :: k_tbl) ({ frames := 1, cells := 5, slots := 4256, locals := 12 } : Room) 5 4256 (ev D cB cI cL) D vwCl [.ref a_this] [(a_this, .inr (1, [.null, .null, .null, .null, .null, .int 0, .int 0]))] (fun u => [(a_this, .inr (1, [.ref (u 0), .ref (u 1), .ref (u 2), .ref (u 3), .ref (u 4), .int 0, .int 0])), ((u 0), .inl (cI, 64, .inl (fun _ => 0))), ((u 1), .inl (cI, 64, .inl (fun _ => 0))), ((u 2), .inl (cI, 64, .inl (fun _ => 0))), ((u 3), .inl (cI, 64, .inl (fun _ => 0))), ((u 4), .inl (cL, 4000, .inr (.inl (fun _ => 0))))]) := by
  refine kMetN (cc := prog_3_method_1_code) (mL := 1) (ret := none) (own := "LinkText$Lines") (by decide) rfl rfl (Nat.le_of_ble_eq_true rfl) ?_
  intro p e s m below meth c A C hnm hE hA hP hD ls hl
  generalize ([.ref a_this] : List Value).toArray = args at C ⊢
  obtain ⟨hx, hb, hr, hml, hown, hts, hlocks⟩ := id C
  have ht : ∀ w ∈ k_tbl, w.before args s = true := fun w h => hts w (List.mem_cons_of_mem _ h)
  have hS : va_S A s.heap s.heap [] := va_S.rf
  have hl : lv_has ls 1 [(0, .ref a_this)] := hl
  refine lv_aload_n hx hb dX1_init_0 rfl (lv_at hl 0 rfl) ?_
  refine W.objInit hx hb hown (ht _ kw_47) (ht _ kw_20) (ht _ kw_21) rfl (by rw [hml]; exact hl.1) rfl dX1_init_1 (Nat.le_of_ble_eq_true rfl) (Nat.le_of_ble_eq_true rfl) ?_
  refine W.eq (g2 := F0 m 4 ls []) rfl ?_
  refine lv_aload_n hx hb dX1_init_4 rfl (lv_at hl 0 rfl) ?_
  refine lv_bipush (v := 64) hx hb dX1_init_5 (by decide) ?_
  refine k_newa (atype := .int) (a0 := (64, .inl (fun _ => 0))) (ty := .int) hx hb (ht _ kw_72) rfl hE.1 1 rfl (fun _ h1 h2 => Option.some.inj (h1.symm.trans h2)) hP hD hS hA (fun _ => rfl) (by decide) (N' := 64) (by decide) (by decide) (Nat.le_of_ble_eq_true rfl) (Nat.le_of_ble_eq_true rfl) dX1_init_7 (fun q_7 H hP hD hS => ?_)
  have hP : va_P D vwCl [(a_this, .inr (1, [.null, .null, .null, .null, .null, .int 0, .int 0])), (q_7, .inl (cI, 64, .inl (fun _ => 0)))] H := hP
  have hD : va_D A [(a_this, .inr (1, [.null, .null, .null, .null, .null, .int 0, .int 0])), (q_7, .inl (cI, 64, .inl (fun _ => 0)))] := hD
  refine W.widen (k := 1) (n := 64) (Nat.le_of_ble_eq_true rfl) (Nat.le_of_ble_eq_true rfl) ?_
  refine va_putF (D := D) (ci := 1) (v := .ref q_7) (ty := (.array .int)) (C := RX1) (T := TX1) (N := 7) hx hb ht inX1 tyX1 tyX1_ok nmX1 hown hE.1 hP hD hS 0 rfl rfl 0 (by decide) (ht _ kw_48) (fun _ h9 => h9) rfl hnm rfl (by decide +kernel) rfl rfl (Nat.le_of_ble_eq_true rfl) dX1_init_9 (fun H locs hP hD hS => ?_)
  have hP : va_P D vwCl [(a_this, .inr (1, [.ref q_7, .null, .null, .null, .null, .int 0, .int 0])), (q_7, .inl (cI, 64, .inl (fun _ => 0)))] H := hP
  have hD : va_D A [(a_this, .inr (1, [.ref q_7, .null, .null, .null, .null, .int 0, .int 0])), (q_7, .inl (cI, 64, .inl (fun _ => 0)))] := hD
  refine lv_aload_n hx hb dX1_init_12 rfl (lv_at hl 0 rfl) ?_
  refine lv_bipush (v := 64) hx hb dX1_init_13 (by decide) ?_
  refine k_newa (atype := .int) (a0 := (64, .inl (fun _ => 0))) (ty := .int) hx hb (ht _ kw_72) rfl hE.1 1 rfl (fun _ h1 h2 => Option.some.inj (h1.symm.trans h2)) hP hD hS hA (fun _ => rfl) (by decide) (N' := 64) (by decide) (by decide) (Nat.le_of_ble_eq_true rfl) (Nat.le_of_ble_eq_true rfl) dX1_init_15 (fun q_15 H hP hD hS => ?_)
  have hP : va_P D vwCl [(a_this, .inr (1, [.ref q_7, .null, .null, .null, .null, .int 0, .int 0])), (q_7, .inl (cI, 64, .inl (fun _ => 0))), (q_15, .inl (cI, 64, .inl (fun _ => 0)))] H := hP
  have hD : va_D A [(a_this, .inr (1, [.ref q_7, .null, .null, .null, .null, .int 0, .int 0])), (q_7, .inl (cI, 64, .inl (fun _ => 0))), (q_15, .inl (cI, 64, .inl (fun _ => 0)))] := hD
  refine W.widen (k := 2) (n := 128) (Nat.le_of_ble_eq_true rfl) (Nat.le_of_ble_eq_true rfl) ?_
  refine va_putF (D := D) (ci := 1) (v := .ref q_15) (ty := (.array .int)) (C := RX1) (T := TX1) (N := 7) hx hb ht inX1 tyX1 tyX1_ok nmX1 hown hE.1 hP hD hS 0 rfl rfl 1 (by decide) (ht _ kw_49) (fun _ h9 => h9) rfl hnm rfl (by decide +kernel) rfl rfl (Nat.le_of_ble_eq_true rfl) dX1_init_17 (fun H locs hP hD hS => ?_)
  have hP : va_P D vwCl [(a_this, .inr (1, [.ref q_7, .ref q_15, .null, .null, .null, .int 0, .int 0])), (q_7, .inl (cI, 64, .inl (fun _ => 0))), (q_15, .inl (cI, 64, .inl (fun _ => 0)))] H := hP
  have hD : va_D A [(a_this, .inr (1, [.ref q_7, .ref q_15, .null, .null, .null, .int 0, .int 0])), (q_7, .inl (cI, 64, .inl (fun _ => 0))), (q_15, .inl (cI, 64, .inl (fun _ => 0)))] := hD
  refine lv_aload_n hx hb dX1_init_20 rfl (lv_at hl 0 rfl) ?_
  refine lv_bipush (v := 64) hx hb dX1_init_21 (by decide) ?_
  refine k_newa (atype := .int) (a0 := (64, .inl (fun _ => 0))) (ty := .int) hx hb (ht _ kw_72) rfl hE.1 1 rfl (fun _ h1 h2 => Option.some.inj (h1.symm.trans h2)) hP hD hS hA (fun _ => rfl) (by decide) (N' := 64) (by decide) (by decide) (Nat.le_of_ble_eq_true rfl) (Nat.le_of_ble_eq_true rfl) dX1_init_23 (fun q_23 H hP hD hS => ?_)
  have hP : va_P D vwCl [(a_this, .inr (1, [.ref q_7, .ref q_15, .null, .null, .null, .int 0, .int 0])), (q_7, .inl (cI, 64, .inl (fun _ => 0))), (q_15, .inl (cI, 64, .inl (fun _ => 0))), (q_23, .inl (cI, 64, .inl (fun _ => 0)))] H := hP
  have hD : va_D A [(a_this, .inr (1, [.ref q_7, .ref q_15, .null, .null, .null, .int 0, .int 0])), (q_7, .inl (cI, 64, .inl (fun _ => 0))), (q_15, .inl (cI, 64, .inl (fun _ => 0))), (q_23, .inl (cI, 64, .inl (fun _ => 0)))] := hD
  refine W.widen (k := 3) (n := 192) (Nat.le_of_ble_eq_true rfl) (Nat.le_of_ble_eq_true rfl) ?_
  refine va_putF (D := D) (ci := 1) (v := .ref q_23) (ty := (.array .int)) (C := RX1) (T := TX1) (N := 7) hx hb ht inX1 tyX1 tyX1_ok nmX1 hown hE.1 hP hD hS 0 rfl rfl 2 (by decide) (ht _ kw_50) (fun _ h9 => h9) rfl hnm rfl (by decide +kernel) rfl rfl (Nat.le_of_ble_eq_true rfl) dX1_init_25 (fun H locs hP hD hS => ?_)
  have hP : va_P D vwCl [(a_this, .inr (1, [.ref q_7, .ref q_15, .ref q_23, .null, .null, .int 0, .int 0])), (q_7, .inl (cI, 64, .inl (fun _ => 0))), (q_15, .inl (cI, 64, .inl (fun _ => 0))), (q_23, .inl (cI, 64, .inl (fun _ => 0)))] H := hP
  have hD : va_D A [(a_this, .inr (1, [.ref q_7, .ref q_15, .ref q_23, .null, .null, .int 0, .int 0])), (q_7, .inl (cI, 64, .inl (fun _ => 0))), (q_15, .inl (cI, 64, .inl (fun _ => 0))), (q_23, .inl (cI, 64, .inl (fun _ => 0)))] := hD
  refine lv_aload_n hx hb dX1_init_28 rfl (lv_at hl 0 rfl) ?_
  refine lv_bipush (v := 64) hx hb dX1_init_29 (by decide) ?_
  refine k_newa (atype := .int) (a0 := (64, .inl (fun _ => 0))) (ty := .int) hx hb (ht _ kw_72) rfl hE.1 1 rfl (fun _ h1 h2 => Option.some.inj (h1.symm.trans h2)) hP hD hS hA (fun _ => rfl) (by decide) (N' := 64) (by decide) (by decide) (Nat.le_of_ble_eq_true rfl) (Nat.le_of_ble_eq_true rfl) dX1_init_31 (fun q_31 H hP hD hS => ?_)
  have hP : va_P D vwCl [(a_this, .inr (1, [.ref q_7, .ref q_15, .ref q_23, .null, .null, .int 0, .int 0])), (q_7, .inl (cI, 64, .inl (fun _ => 0))), (q_15, .inl (cI, 64, .inl (fun _ => 0))), (q_23, .inl (cI, 64, .inl (fun _ => 0))), (q_31, .inl (cI, 64, .inl (fun _ => 0)))] H := hP
  have hD : va_D A [(a_this, .inr (1, [.ref q_7, .ref q_15, .ref q_23, .null, .null, .int 0, .int 0])), (q_7, .inl (cI, 64, .inl (fun _ => 0))), (q_15, .inl (cI, 64, .inl (fun _ => 0))), (q_23, .inl (cI, 64, .inl (fun _ => 0))), (q_31, .inl (cI, 64, .inl (fun _ => 0)))] := hD
  refine W.widen (k := 4) (n := 256) (Nat.le_of_ble_eq_true rfl) (Nat.le_of_ble_eq_true rfl) ?_
  refine va_putF (D := D) (ci := 1) (v := .ref q_31) (ty := (.array .int)) (C := RX1) (T := TX1) (N := 7) hx hb ht inX1 tyX1 tyX1_ok nmX1 hown hE.1 hP hD hS 0 rfl rfl 3 (by decide) (ht _ kw_51) (fun _ h9 => h9) rfl hnm rfl (by decide +kernel) rfl rfl (Nat.le_of_ble_eq_true rfl) dX1_init_33 (fun H locs hP hD hS => ?_)
  have hP : va_P D vwCl [(a_this, .inr (1, [.ref q_7, .ref q_15, .ref q_23, .ref q_31, .null, .int 0, .int 0])), (q_7, .inl (cI, 64, .inl (fun _ => 0))), (q_15, .inl (cI, 64, .inl (fun _ => 0))), (q_23, .inl (cI, 64, .inl (fun _ => 0))), (q_31, .inl (cI, 64, .inl (fun _ => 0)))] H := hP
  have hD : va_D A [(a_this, .inr (1, [.ref q_7, .ref q_15, .ref q_23, .ref q_31, .null, .int 0, .int 0])), (q_7, .inl (cI, 64, .inl (fun _ => 0))), (q_15, .inl (cI, 64, .inl (fun _ => 0))), (q_23, .inl (cI, 64, .inl (fun _ => 0))), (q_31, .inl (cI, 64, .inl (fun _ => 0)))] := hD
  refine lv_aload_n hx hb dX1_init_36 rfl (lv_at hl 0 rfl) ?_
  refine lv_sipush (v := 4000) hx hb dX1_init_37 (by decide) ?_
  refine k_newa (atype := .long) (a0 := (4000, .inr (.inl (fun _ => 0)))) (ty := .long) hx hb (ht _ kw_73) rfl hE.1 2 rfl (fun _ h1 h2 => Option.some.inj (h1.symm.trans h2)) hP hD hS hA (fun _ => rfl) (by decide) (N' := 4000) (by decide) (by decide) (Nat.le_of_ble_eq_true rfl) (Nat.le_of_ble_eq_true rfl) dX1_init_40 (fun q_40 H hP hD hS => ?_)
  have hP : va_P D vwCl [(a_this, .inr (1, [.ref q_7, .ref q_15, .ref q_23, .ref q_31, .null, .int 0, .int 0])), (q_7, .inl (cI, 64, .inl (fun _ => 0))), (q_15, .inl (cI, 64, .inl (fun _ => 0))), (q_23, .inl (cI, 64, .inl (fun _ => 0))), (q_31, .inl (cI, 64, .inl (fun _ => 0))), (q_40, .inl (cL, 4000, .inr (.inl (fun _ => 0))))] H := hP
  have hD : va_D A [(a_this, .inr (1, [.ref q_7, .ref q_15, .ref q_23, .ref q_31, .null, .int 0, .int 0])), (q_7, .inl (cI, 64, .inl (fun _ => 0))), (q_15, .inl (cI, 64, .inl (fun _ => 0))), (q_23, .inl (cI, 64, .inl (fun _ => 0))), (q_31, .inl (cI, 64, .inl (fun _ => 0))), (q_40, .inl (cL, 4000, .inr (.inl (fun _ => 0))))] := hD
  refine W.widen (k := 5) (n := 4256) (Nat.le_of_ble_eq_true rfl) (Nat.le_of_ble_eq_true rfl) ?_
  refine va_putF (D := D) (ci := 1) (v := .ref q_40) (ty := (.array .long)) (C := RX1) (T := TX1) (N := 7) hx hb ht inX1 tyX1 tyX1_ok nmX1 hown hE.1 hP hD hS 0 rfl rfl 4 (by decide) (ht _ kw_52) (fun _ h9 => h9) rfl hnm rfl (by decide +kernel) rfl rfl (Nat.le_of_ble_eq_true rfl) dX1_init_42 (fun H locs hP hD hS => ?_)
  have hP : va_P D vwCl [(a_this, .inr (1, [.ref q_7, .ref q_15, .ref q_23, .ref q_31, .ref q_40, .int 0, .int 0])), (q_7, .inl (cI, 64, .inl (fun _ => 0))), (q_15, .inl (cI, 64, .inl (fun _ => 0))), (q_23, .inl (cI, 64, .inl (fun _ => 0))), (q_31, .inl (cI, 64, .inl (fun _ => 0))), (q_40, .inl (cL, 4000, .inr (.inl (fun _ => 0))))] H := hP
  have hD : va_D A [(a_this, .inr (1, [.ref q_7, .ref q_15, .ref q_23, .ref q_31, .ref q_40, .int 0, .int 0])), (q_7, .inl (cI, 64, .inl (fun _ => 0))), (q_15, .inl (cI, 64, .inl (fun _ => 0))), (q_23, .inl (cI, 64, .inl (fun _ => 0))), (q_31, .inl (cI, 64, .inl (fun _ => 0))), (q_40, .inl (cL, 4000, .inr (.inl (fun _ => 0))))] := hD
  refine lv_aload_n hx hb dX1_init_45 rfl (lv_at hl 0 rfl) ?_
  refine lv_iconst (v := 0) hx hb dX1_init_46 (by decide) ?_
  refine va_put (D := D) (ci := 1) (v := .int 0) (ty := .int) (C := RX1) (T := TX1) (N := 7) hx hb ht inX1 tyX1 tyX1_ok nmX1 hown hE.1 hP hD hS 0 rfl rfl 5 (by decide) (ht _ kw_53) (fun _ h9 => h9) rfl (by decide +kernel) rfl rfl (Nat.le_of_ble_eq_true rfl) dX1_init_47 (fun H locs hP hD hS => ?_)
  have hP : va_P D vwCl [(a_this, .inr (1, [.ref q_7, .ref q_15, .ref q_23, .ref q_31, .ref q_40, .int 0, .int 0])), (q_7, .inl (cI, 64, .inl (fun _ => 0))), (q_15, .inl (cI, 64, .inl (fun _ => 0))), (q_23, .inl (cI, 64, .inl (fun _ => 0))), (q_31, .inl (cI, 64, .inl (fun _ => 0))), (q_40, .inl (cL, 4000, .inr (.inl (fun _ => 0))))] H := hP
  have hD : va_D A [(a_this, .inr (1, [.ref q_7, .ref q_15, .ref q_23, .ref q_31, .ref q_40, .int 0, .int 0])), (q_7, .inl (cI, 64, .inl (fun _ => 0))), (q_15, .inl (cI, 64, .inl (fun _ => 0))), (q_23, .inl (cI, 64, .inl (fun _ => 0))), (q_31, .inl (cI, 64, .inl (fun _ => 0))), (q_40, .inl (cL, 4000, .inr (.inl (fun _ => 0))))] := hD
  refine lv_aload_n hx hb dX1_init_50 rfl (lv_at hl 0 rfl) ?_
  refine lv_iconst (v := 0) hx hb dX1_init_51 (by decide) ?_
  refine va_put (D := D) (ci := 1) (v := .int 0) (ty := .int) (C := RX1) (T := TX1) (N := 7) hx hb ht inX1 tyX1 tyX1_ok nmX1 hown hE.1 hP hD hS 0 rfl rfl 6 (by decide) (ht _ kw_56) (fun _ h9 => h9) rfl (by decide +kernel) rfl rfl (Nat.le_of_ble_eq_true rfl) dX1_init_52 (fun H locs hP hD hS => ?_)
  have hP : va_P D vwCl [(a_this, .inr (1, [.ref q_7, .ref q_15, .ref q_23, .ref q_31, .ref q_40, .int 0, .int 0])), (q_7, .inl (cI, 64, .inl (fun _ => 0))), (q_15, .inl (cI, 64, .inl (fun _ => 0))), (q_23, .inl (cI, 64, .inl (fun _ => 0))), (q_31, .inl (cI, 64, .inl (fun _ => 0))), (q_40, .inl (cL, 4000, .inr (.inl (fun _ => 0))))] H := hP
  have hD : va_D A [(a_this, .inr (1, [.ref q_7, .ref q_15, .ref q_23, .ref q_31, .ref q_40, .int 0, .int 0])), (q_7, .inl (cI, 64, .inl (fun _ => 0))), (q_15, .inl (cI, 64, .inl (fun _ => 0))), (q_23, .inl (cI, 64, .inl (fun _ => 0))), (q_31, .inl (cI, 64, .inl (fun _ => 0))), (q_40, .inl (cL, 4000, .inr (.inl (fun _ => 0))))] := hD
  exact kRet_n (fun i => ([q_7, q_15, q_23, q_31, q_40] : List Nat).getD i 0) C hP hD hS dX1_init_55
set_option maxHeartbeats 4000000 in
set_option maxRecDepth 100000 in
theorem n_X2_init {l : Launch} {D : va_G} {cB cI cL : ClassId} {a_br a_brb a_this : Nat} {br_c : Int32} {br_o : Int32} : KMetN (S := Nat → Nat) l (⟨"LinkText$Tokens", "<init>", "(LLinkText$ByteRow;)V"⟩ : MethodName) (.code (⟨"LinkText$Tokens", "<init>", "(LLinkText$ByteRow;)V"⟩ : MethodName) prog_6_method_1_code 2 none :: k_tbl) ({ frames := 1, cells := 0, slots := 0, locals := 12 } : Room) 0 0 (ev D cB cI cL) D vwCl [.ref a_this, .ref a_br] [(a_this, .inr (2, [.null, .int 0, .int 0, .int 0, .int 0, .long 0, .int 0])), (a_br, .inr (0, [.ref a_brb, .int br_c, .int br_o]))] (fun u => [(a_this, .inr (2, [.ref a_brb, .int 0, .int 0, .int 0, .int 0, .long 0, .int 0])), (a_br, .inr (0, [.ref a_brb, .int br_c, .int br_o]))]) := by
  refine kMetN (cc := prog_6_method_1_code) (mL := 2) (ret := none) (own := "LinkText$Tokens") (by decide) rfl rfl (Nat.le_of_ble_eq_true rfl) ?_
  intro p e s m below meth c A C hnm hE hA hP hD ls hl
  generalize ([.ref a_this, .ref a_br] : List Value).toArray = args at C ⊢
  obtain ⟨hx, hb, hr, hml, hown, hts, hlocks⟩ := id C
  have ht : ∀ w ∈ k_tbl, w.before args s = true := fun w h => hts w (List.mem_cons_of_mem _ h)
  have hS : va_S A s.heap s.heap [] := va_S.rf
  have hl : lv_has ls 2 [(0, .ref a_this), (1, .ref a_br)] := hl
  refine lv_aload_n hx hb dX2_init_0 rfl (lv_at hl 0 rfl) ?_
  refine W.objInit hx hb hown (ht _ kw_85) (ht _ kw_20) (ht _ kw_21) rfl (by rw [hml]; exact hl.1) rfl dX2_init_1 (Nat.le_of_ble_eq_true rfl) (Nat.le_of_ble_eq_true rfl) ?_
  refine W.eq (g2 := F0 m 4 ls []) rfl ?_
  refine lv_aload_n hx hb dX2_init_4 rfl (lv_at hl 0 rfl) ?_
  refine lv_iconst (v := 0) hx hb dX2_init_5 (by decide) ?_
  refine va_put (D := D) (ci := 2) (v := .int 0) (ty := .int) (C := RX2) (T := TX2) (N := 7) hx hb ht inX2 tyX2 tyX2_ok nmX2 hown hE.1 hP hD hS 0 rfl rfl 1 (by decide) (ht _ kw_87) (fun _ h9 => h9) rfl (by decide +kernel) rfl rfl (Nat.le_of_ble_eq_true rfl) dX2_init_6 (fun H locs hP hD hS => ?_)
  have hP : va_P D vwCl [(a_this, .inr (2, [.null, .int 0, .int 0, .int 0, .int 0, .long 0, .int 0])), (a_br, .inr (0, [.ref a_brb, .int br_c, .int br_o]))] H := hP
  have hD : va_D A [(a_this, .inr (2, [.null, .int 0, .int 0, .int 0, .int 0, .long 0, .int 0])), (a_br, .inr (0, [.ref a_brb, .int br_c, .int br_o]))] := hD
  refine lv_aload_n hx hb dX2_init_9 rfl (lv_at hl 0 rfl) ?_
  refine lv_iconst (v := 0) hx hb dX2_init_10 (by decide) ?_
  refine va_put (D := D) (ci := 2) (v := .int 0) (ty := .int) (C := RX2) (T := TX2) (N := 7) hx hb ht inX2 tyX2 tyX2_ok nmX2 hown hE.1 hP hD hS 0 rfl rfl 2 (by decide) (ht _ kw_88) (fun _ h9 => h9) rfl (by decide +kernel) rfl rfl (Nat.le_of_ble_eq_true rfl) dX2_init_11 (fun H locs hP hD hS => ?_)
  have hP : va_P D vwCl [(a_this, .inr (2, [.null, .int 0, .int 0, .int 0, .int 0, .long 0, .int 0])), (a_br, .inr (0, [.ref a_brb, .int br_c, .int br_o]))] H := hP
  have hD : va_D A [(a_this, .inr (2, [.null, .int 0, .int 0, .int 0, .int 0, .long 0, .int 0])), (a_br, .inr (0, [.ref a_brb, .int br_c, .int br_o]))] := hD
  refine lv_aload_n hx hb dX2_init_14 rfl (lv_at hl 0 rfl) ?_
  refine lv_iconst (v := 0) hx hb dX2_init_15 (by decide) ?_
  refine va_put (D := D) (ci := 2) (v := .int 0) (ty := .int) (C := RX2) (T := TX2) (N := 7) hx hb ht inX2 tyX2 tyX2_ok nmX2 hown hE.1 hP hD hS 0 rfl rfl 3 (by decide) (ht _ kw_89) (fun _ h9 => h9) rfl (by decide +kernel) rfl rfl (Nat.le_of_ble_eq_true rfl) dX2_init_16 (fun H locs hP hD hS => ?_)
  have hP : va_P D vwCl [(a_this, .inr (2, [.null, .int 0, .int 0, .int 0, .int 0, .long 0, .int 0])), (a_br, .inr (0, [.ref a_brb, .int br_c, .int br_o]))] H := hP
  have hD : va_D A [(a_this, .inr (2, [.null, .int 0, .int 0, .int 0, .int 0, .long 0, .int 0])), (a_br, .inr (0, [.ref a_brb, .int br_c, .int br_o]))] := hD
  refine lv_aload_n hx hb dX2_init_19 rfl (lv_at hl 0 rfl) ?_
  refine lv_iconst (v := 0) hx hb dX2_init_20 (by decide) ?_
  refine va_put (D := D) (ci := 2) (v := .int 0) (ty := .int) (C := RX2) (T := TX2) (N := 7) hx hb ht inX2 tyX2 tyX2_ok nmX2 hown hE.1 hP hD hS 0 rfl rfl 4 (by decide) (ht _ kw_91) (fun _ h9 => h9) rfl (by decide +kernel) rfl rfl (Nat.le_of_ble_eq_true rfl) dX2_init_21 (fun H locs hP hD hS => ?_)
  have hP : va_P D vwCl [(a_this, .inr (2, [.null, .int 0, .int 0, .int 0, .int 0, .long 0, .int 0])), (a_br, .inr (0, [.ref a_brb, .int br_c, .int br_o]))] H := hP
  have hD : va_D A [(a_this, .inr (2, [.null, .int 0, .int 0, .int 0, .int 0, .long 0, .int 0])), (a_br, .inr (0, [.ref a_brb, .int br_c, .int br_o]))] := hD
  refine lv_aload_n hx hb dX2_init_24 rfl (lv_at hl 0 rfl) ?_
  refine lv_lconst (v := 0) hx hb dX2_init_25 (by decide) ?_
  refine va_put (D := D) (ci := 2) (v := .long 0) (ty := .long) (C := RX2) (T := TX2) (N := 7) hx hb ht inX2 tyX2 tyX2_ok nmX2 hown hE.1 hP hD hS 0 rfl rfl 5 (by decide) (ht _ kw_92) (fun _ h9 => h9) rfl (by decide +kernel) rfl rfl (Nat.le_of_ble_eq_true rfl) dX2_init_26 (fun H locs hP hD hS => ?_)
  have hP : va_P D vwCl [(a_this, .inr (2, [.null, .int 0, .int 0, .int 0, .int 0, .long 0, .int 0])), (a_br, .inr (0, [.ref a_brb, .int br_c, .int br_o]))] H := hP
  have hD : va_D A [(a_this, .inr (2, [.null, .int 0, .int 0, .int 0, .int 0, .long 0, .int 0])), (a_br, .inr (0, [.ref a_brb, .int br_c, .int br_o]))] := hD
  refine lv_aload_n hx hb dX2_init_29 rfl (lv_at hl 0 rfl) ?_
  refine lv_iconst (v := 0) hx hb dX2_init_30 (by decide) ?_
  refine va_put (D := D) (ci := 2) (v := .int 0) (ty := .int) (C := RX2) (T := TX2) (N := 7) hx hb ht inX2 tyX2 tyX2_ok nmX2 hown hE.1 hP hD hS 0 rfl rfl 6 (by decide) (ht _ kw_94) (fun _ h9 => h9) rfl (by decide +kernel) rfl rfl (Nat.le_of_ble_eq_true rfl) dX2_init_31 (fun H locs hP hD hS => ?_)
  have hP : va_P D vwCl [(a_this, .inr (2, [.null, .int 0, .int 0, .int 0, .int 0, .long 0, .int 0])), (a_br, .inr (0, [.ref a_brb, .int br_c, .int br_o]))] H := hP
  have hD : va_D A [(a_this, .inr (2, [.null, .int 0, .int 0, .int 0, .int 0, .long 0, .int 0])), (a_br, .inr (0, [.ref a_brb, .int br_c, .int br_o]))] := hD
  refine lv_aload_n hx hb dX2_init_34 rfl (lv_at hl 0 rfl) ?_
  refine lv_aload_n hx hb dX2_init_35 rfl (lv_at hl 1 rfl) ?_
  refine va_getN (D := D) (ci := 0) (v := .ref a_brb) (C := RX0) (T := TX0) (N := 3) (host := "LinkText") hx hb ht inX0 hown hE.1 hP 1 rfl rfl 0 (by decide) (va_Nw.use rfl (hE.2.2 _ kw_29 rfl)) (fun _ h9 => h9) rfl dX2_init_36 ?_
  refine va_putF (D := D) (ci := 2) (v := .ref a_brb) (ty := (.array .byte)) (C := RX2) (T := TX2) (N := 7) hx hb ht inX2 tyX2 tyX2_ok nmX2 hown hE.1 hP hD hS 0 rfl rfl 0 (by decide) (ht _ kw_86) (fun _ h9 => h9) rfl hnm rfl (by decide +kernel) rfl rfl (Nat.le_of_ble_eq_true rfl) dX2_init_39 (fun H locs hP hD hS => ?_)
  have hP : va_P D vwCl [(a_this, .inr (2, [.ref a_brb, .int 0, .int 0, .int 0, .int 0, .long 0, .int 0])), (a_br, .inr (0, [.ref a_brb, .int br_c, .int br_o]))] H := hP
  have hD : va_D A [(a_this, .inr (2, [.ref a_brb, .int 0, .int 0, .int 0, .int 0, .long 0, .int 0])), (a_br, .inr (0, [.ref a_brb, .int br_c, .int br_o]))] := hD
  exact kRet_n (fun i => ([] : List Nat).getD i 0) C hP hD hS dX2_init_42
set_option maxHeartbeats 4000000 in
set_option maxRecDepth 100000 in
theorem n_X3_init {l : Launch} {D : va_G} {cB cI cL : ClassId} {a_br a_brb a_ln a_this : Nat} {br_c : Int32} {br_o : Int32} : KMetN (S := Nat → Nat) l (⟨"LinkText$Reader", "<init>", "(LLinkText$ByteRow;LLinkText$Lines;)V"⟩ : MethodName) (.code (⟨"LinkText$Reader", "<init>", "(LLinkText$ByteRow;LLinkText$Lines;)V"⟩ : MethodName) prog_5_method_1_code 3 none :: k_tbl) ({ frames := 2, cells := 1, slots := 7, locals := 33 } : Room) 1 7 (ev D cB cI cL) D vwCl [.ref a_this, .ref a_br, .ref a_ln] [(a_this, .inr (3, [.null, .null, .int 0, .int 0])), (a_br, .inr (0, [.ref a_brb, .int br_c, .int br_o]))] (fun u => [(a_this, .inr (3, [.ref (u 0), .ref a_ln, .int 0, .int (-1)])), (a_br, .inr (0, [.ref a_brb, .int br_c, .int br_o])), ((u 0), .inr (2, [.ref a_brb, .int 0, .int 0, .int 0, .int 0, .long 0, .int 0]))]) := by
  refine kMetN (cc := prog_5_method_1_code) (mL := 3) (ret := none) (own := "LinkText$Reader") (by decide) rfl rfl (Nat.le_of_ble_eq_true rfl) ?_
  intro p e s m below meth c A C hnm hE hA hP hD ls hl
  generalize ([.ref a_this, .ref a_br, .ref a_ln] : List Value).toArray = args at C ⊢
  obtain ⟨hx, hb, hr, hml, hown, hts, hlocks⟩ := id C
  have ht : ∀ w ∈ k_tbl, w.before args s = true := fun w h => hts w (List.mem_cons_of_mem _ h)
  have hS : va_S A s.heap s.heap [] := va_S.rf
  have hl : lv_has ls 3 [(0, .ref a_this), (1, .ref a_br), (2, .ref a_ln)] := hl
  refine lv_aload_n hx hb dX3_init_0 rfl (lv_at hl 0 rfl) ?_
  refine W.objInit hx hb hown (ht _ kw_79) (ht _ kw_20) (ht _ kw_21) rfl (by rw [hml]; exact hl.1) rfl dX3_init_1 (Nat.le_of_ble_eq_true rfl) (Nat.le_of_ble_eq_true rfl) ?_
  refine W.eq (g2 := F0 m 4 ls []) rfl ?_
  refine lv_aload_n hx hb dX3_init_4 rfl (lv_at hl 0 rfl) ?_
  refine lv_iconst (v := 0) hx hb dX3_init_5 (by decide) ?_
  refine va_put (D := D) (ci := 3) (v := .int 0) (ty := .int) (C := RX3) (T := TX3) (N := 4) hx hb ht inX3 tyX3 tyX3_ok nmX3 hown hE.1 hP hD hS 0 rfl rfl 2 (by decide) (ht _ kw_113) (fun _ h9 => h9) rfl (by decide +kernel) rfl rfl (Nat.le_of_ble_eq_true rfl) dX3_init_6 (fun H locs hP hD hS => ?_)
  have hP : va_P D vwCl [(a_this, .inr (3, [.null, .null, .int 0, .int 0])), (a_br, .inr (0, [.ref a_brb, .int br_c, .int br_o]))] H := hP
  have hD : va_D A [(a_this, .inr (3, [.null, .null, .int 0, .int 0])), (a_br, .inr (0, [.ref a_brb, .int br_c, .int br_o]))] := hD
  refine lv_aload_n hx hb dX3_init_9 rfl (lv_at hl 0 rfl) ?_
  refine lv_iconst (v := -1) hx hb dX3_init_10 (by decide) ?_
  refine va_put (D := D) (ci := 3) (v := .int (-1)) (ty := .int) (C := RX3) (T := TX3) (N := 4) hx hb ht inX3 tyX3 tyX3_ok nmX3 hown hE.1 hP hD hS 0 rfl rfl 3 (by decide) (ht _ kw_115) (fun _ h9 => h9) rfl (by decide +kernel) rfl rfl (Nat.le_of_ble_eq_true rfl) dX3_init_11 (fun H locs hP hD hS => ?_)
  have hP : va_P D vwCl [(a_this, .inr (3, [.null, .null, .int 0, .int (-1)])), (a_br, .inr (0, [.ref a_brb, .int br_c, .int br_o]))] H := hP
  have hD : va_D A [(a_this, .inr (3, [.null, .null, .int 0, .int (-1)])), (a_br, .inr (0, [.ref a_brb, .int br_c, .int br_o]))] := hD
  refine lv_aload_n hx hb dX3_init_14 rfl (lv_at hl 0 rfl) ?_
  refine va_new (ci := 2) (fs := [.null, .int 0, .int 0, .int 0, .int 0, .long 0, .int 0]) (C := RX2) (T := TX2) (N := 7) hx hb ht inX2 tyX2 tyX2_ok hown (ht _ kw_80) (ht _ kw_81) (ht _ kw_5) hE.1 hP hD hS hA rfl (by decide) (Nat.le_of_ble_eq_true rfl) (Nat.le_of_ble_eq_true rfl) dX3_init_15 (fun q_15 H hP hD hS => ?_)
  have hP : va_P D vwCl [(a_this, .inr (3, [.null, .null, .int 0, .int (-1)])), (a_br, .inr (0, [.ref a_brb, .int br_c, .int br_o])), (q_15, .inr (2, [.null, .int 0, .int 0, .int 0, .int 0, .long 0, .int 0]))] H := hP
  have hD : va_D A [(a_this, .inr (3, [.null, .null, .int 0, .int (-1)])), (a_br, .inr (0, [.ref a_brb, .int br_c, .int br_o])), (q_15, .inr (2, [.null, .int 0, .int 0, .int 0, .int 0, .long 0, .int 0]))] := hD
  refine W.widen (k := 1) (n := 7) (Nat.le_of_ble_eq_true rfl) (Nat.le_of_ble_eq_true rfl) ?_
  refine lv_dup hx hb dX3_init_18 rfl ?_
  refine lv_aload_n hx hb dX3_init_19 rfl (lv_at hl 1 rfl) ?_
  refine kCn (w' := fun (u_20 : Nat → Nat) => [(a_this, .inr (3, [.null, .null, .int 0, .int (-1)])), (a_br, .inr (0, [.ref a_brb, .int br_c, .int br_o])), (q_15, .inr (2, [.ref a_brb, .int 0, .int 0, .int 0, .int 0, .long 0, .int 0]))]) hP hD hS hA [2, 1] [0] [0, 2, 1] (kRunI (rest := [.ref q_15, .ref a_this]) C ev_ok hE hA hP hD hS [2, 1] rfl rfl rfl n_X2_init (cwI 1 ht (gC kw_84) rfl rfl rfl (ht _ kw_5) (ht _ kw_82) (ht _ kw_83) rfl (by decide +kernel) ⟨Nat.le_of_ble_eq_true rfl, Nat.le_of_ble_eq_true rfl⟩) rfl hl.1 rfl (Nat.le_of_ble_eq_true rfl) dX3_init_20 ⟨Nat.le_of_ble_eq_true rfl, Nat.le_of_ble_eq_true rfl⟩) rfl rfl rfl (by decide) rfl (fun _ => rfl) (fun _ => rfl) (fun u_20 H locs hP hD hS => ?_)
  refine W.widen (k := 1) (n := 7) (Nat.le_of_ble_eq_true rfl) (Nat.le_of_ble_eq_true rfl) ?_
  have hP : va_P D vwCl [(a_this, .inr (3, [.null, .null, .int 0, .int (-1)])), (a_br, .inr (0, [.ref a_brb, .int br_c, .int br_o])), (q_15, .inr (2, [.ref a_brb, .int 0, .int 0, .int 0, .int 0, .long 0, .int 0]))] H := hP
  have hD : va_D A [(a_this, .inr (3, [.null, .null, .int 0, .int (-1)])), (a_br, .inr (0, [.ref a_brb, .int br_c, .int br_o])), (q_15, .inr (2, [.ref a_brb, .int 0, .int 0, .int 0, .int 0, .long 0, .int 0]))] := hD
  refine va_putF (D := D) (ci := 3) (v := .ref q_15) (ty := (.object "LinkText$Tokens")) (C := RX3) (T := TX3) (N := 4) hx hb ht inX3 tyX3 tyX3_ok nmX3 hown hE.1 hP hD hS 0 rfl rfl 0 (by decide) (ht _ kw_111) (fun _ h9 => h9) rfl hnm rfl (by decide +kernel) rfl rfl (Nat.le_of_ble_eq_true rfl) dX3_init_23 (fun H locs hP hD hS => ?_)
  have hP : va_P D vwCl [(a_this, .inr (3, [.ref q_15, .null, .int 0, .int (-1)])), (a_br, .inr (0, [.ref a_brb, .int br_c, .int br_o])), (q_15, .inr (2, [.ref a_brb, .int 0, .int 0, .int 0, .int 0, .long 0, .int 0]))] H := hP
  have hD : va_D A [(a_this, .inr (3, [.ref q_15, .null, .int 0, .int (-1)])), (a_br, .inr (0, [.ref a_brb, .int br_c, .int br_o])), (q_15, .inr (2, [.ref a_brb, .int 0, .int 0, .int 0, .int 0, .long 0, .int 0]))] := hD
  refine lv_aload_n hx hb dX3_init_26 rfl (lv_at hl 0 rfl) ?_
  refine lv_aload_n hx hb dX3_init_27 rfl (lv_at hl 2 rfl) ?_
  refine va_putF (D := D) (ci := 3) (v := .ref a_ln) (ty := (.object "LinkText$Lines")) (C := RX3) (T := TX3) (N := 4) hx hb ht inX3 tyX3 tyX3_ok nmX3 hown hE.1 hP hD hS 0 rfl rfl 1 (by decide) (ht _ kw_112) (fun _ h9 => h9) rfl hnm rfl (by decide +kernel) rfl rfl (Nat.le_of_ble_eq_true rfl) dX3_init_28 (fun H locs hP hD hS => ?_)
  have hP : va_P D vwCl [(a_this, .inr (3, [.ref q_15, .ref a_ln, .int 0, .int (-1)])), (a_br, .inr (0, [.ref a_brb, .int br_c, .int br_o])), (q_15, .inr (2, [.ref a_brb, .int 0, .int 0, .int 0, .int 0, .long 0, .int 0]))] H := hP
  have hD : va_D A [(a_this, .inr (3, [.ref q_15, .ref a_ln, .int 0, .int (-1)])), (a_br, .inr (0, [.ref a_brb, .int br_c, .int br_o])), (q_15, .inr (2, [.ref a_brb, .int 0, .int 0, .int 0, .int 0, .long 0, .int 0]))] := hD
  exact kRet_n (fun i => ([q_15] : List Nat).getD i 0) C hP hD hS dX3_init_31
set_option maxHeartbeats 4000000 in
set_option maxRecDepth 100000 in
theorem n_X4_init {l : Launch} {D : va_G} {cB cI cL : ClassId} {a_ln a_pp a_this : Nat} : KMetN (S := Nat → Nat) l (⟨"LinkText$Printer", "<init>", "(LLinkText$ByteRow;LLinkText$Lines;)V"⟩ : MethodName) (.code (⟨"LinkText$Printer", "<init>", "(LLinkText$ByteRow;LLinkText$Lines;)V"⟩ : MethodName) prog_4_method_1_code 3 none :: k_tbl) ({ frames := 1, cells := 0, slots := 0, locals := 12 } : Room) 0 0 (ev D cB cI cL) D vwCl [.ref a_this, .ref a_pp, .ref a_ln] [(a_this, .inr (4, [.null, .null]))] (fun u => [(a_this, .inr (4, [.ref a_pp, .ref a_ln]))]) := by
  refine kMetN (cc := prog_4_method_1_code) (mL := 3) (ret := none) (own := "LinkText$Printer") (by decide) rfl rfl (Nat.le_of_ble_eq_true rfl) ?_
  intro p e s m below meth c A C hnm hE hA hP hD ls hl
  generalize ([.ref a_this, .ref a_pp, .ref a_ln] : List Value).toArray = args at C ⊢
  obtain ⟨hx, hb, hr, hml, hown, hts, hlocks⟩ := id C
  have ht : ∀ w ∈ k_tbl, w.before args s = true := fun w h => hts w (List.mem_cons_of_mem _ h)
  have hS : va_S A s.heap s.heap [] := va_S.rf
  have hl : lv_has ls 3 [(0, .ref a_this), (1, .ref a_pp), (2, .ref a_ln)] := hl
  refine lv_aload_n hx hb dX4_init_0 rfl (lv_at hl 0 rfl) ?_
  refine W.objInit hx hb hown (ht _ kw_131) (ht _ kw_20) (ht _ kw_21) rfl (by rw [hml]; exact hl.1) rfl dX4_init_1 (Nat.le_of_ble_eq_true rfl) (Nat.le_of_ble_eq_true rfl) ?_
  refine W.eq (g2 := F0 m 4 ls []) rfl ?_
  refine lv_aload_n hx hb dX4_init_4 rfl (lv_at hl 0 rfl) ?_
  refine lv_aload_n hx hb dX4_init_5 rfl (lv_at hl 1 rfl) ?_
  refine va_putF (D := D) (ci := 4) (v := .ref a_pp) (ty := (.object "LinkText$ByteRow")) (C := RX4) (T := TX4) (N := 2) hx hb ht inX4 tyX4 tyX4_ok nmX4 hown hE.1 hP hD hS 0 rfl rfl 0 (by decide) (ht _ kw_132) (fun _ h9 => h9) rfl hnm rfl (by decide +kernel) rfl rfl (Nat.le_of_ble_eq_true rfl) dX4_init_6 (fun H locs hP hD hS => ?_)
  have hP : va_P D vwCl [(a_this, .inr (4, [.ref a_pp, .null]))] H := hP
  have hD : va_D A [(a_this, .inr (4, [.ref a_pp, .null]))] := hD
  refine lv_aload_n hx hb dX4_init_9 rfl (lv_at hl 0 rfl) ?_
  refine lv_aload_n hx hb dX4_init_10 rfl (lv_at hl 2 rfl) ?_
  refine va_putF (D := D) (ci := 4) (v := .ref a_ln) (ty := (.object "LinkText$Lines")) (C := RX4) (T := TX4) (N := 2) hx hb ht inX4 tyX4 tyX4_ok nmX4 hown hE.1 hP hD hS 0 rfl rfl 1 (by decide) (ht _ kw_133) (fun _ h9 => h9) rfl hnm rfl (by decide +kernel) rfl rfl (Nat.le_of_ble_eq_true rfl) dX4_init_11 (fun H locs hP hD hS => ?_)
  have hP : va_P D vwCl [(a_this, .inr (4, [.ref a_pp, .ref a_ln]))] H := hP
  have hD : va_D A [(a_this, .inr (4, [.ref a_pp, .ref a_ln]))] := hD
  exact kRet_n (fun i => ([] : List Nat).getD i 0) C hP hD hS dX4_init_14
set_option maxHeartbeats 4000000 in
set_option maxRecDepth 100000 in
theorem n_X5_init {l : Launch} {D : va_G} {cB cI cL : ClassId} {a_this : Nat} : KMetN (S := Nat → Nat) l (⟨"LinkText", "<init>", "()V"⟩ : MethodName) (.code (⟨"LinkText", "<init>", "()V"⟩ : MethodName) prog_1_method_1_code 1 none :: k_tbl) ({ frames := 3, cells := 13, slots := 12282, locals := 55 } : Room) 13 12282 (ev D cB cI cL) D vwCl [.ref a_this] [(a_this, .inr (5, [.null, .null, .null, .null, .null, .int 0]))] (fun u => [(a_this, .inr (5, [.ref (u 0), .ref (u 2), .ref (u 4), .ref (u 10), .ref (u 12), .int 0])), ((u 0), .inr (0, [.ref (u 1), .int 0, .int 0])), ((u 1), .inl (cB, 4000, .inl (fun _ => 0))), ((u 2), .inr (0, [.ref (u 3), .int 0, .int 0])), ((u 3), .inl (cB, 4000, .inl (fun _ => 0))), ((u 4), .inr (1, [.ref (u 5), .ref (u 6), .ref (u 7), .ref (u 8), .ref (u 9), .int 0, .int 0])), ((u 5), .inl (cI, 64, .inl (fun _ => 0))), ((u 6), .inl (cI, 64, .inl (fun _ => 0))), ((u 7), .inl (cI, 64, .inl (fun _ => 0))), ((u 8), .inl (cI, 64, .inl (fun _ => 0))), ((u 9), .inl (cL, 4000, .inr (.inl (fun _ => 0)))), ((u 10), .inr (3, [.ref (u 11), .ref (u 4), .int 0, .int (-1)])), ((u 11), .inr (2, [.ref (u 1), .int 0, .int 0, .int 0, .int 0, .long 0, .int 0])), ((u 12), .inr (4, [.ref (u 2), .ref (u 4)]))]) := by
  refine kMetN (cc := prog_1_method_1_code) (mL := 1) (ret := none) (own := "LinkText") (by decide) rfl rfl (Nat.le_of_ble_eq_true rfl) ?_
  intro p e s m below meth c A C hnm hE hA hP hD ls hl
  generalize ([.ref a_this] : List Value).toArray = args at C ⊢
  obtain ⟨hx, hb, hr, hml, hown, hts, hlocks⟩ := id C
  have ht : ∀ w ∈ k_tbl, w.before args s = true := fun w h => hts w (List.mem_cons_of_mem _ h)
  have hS : va_S A s.heap s.heap [] := va_S.rf
  have hl : lv_has ls 1 [(0, .ref a_this)] := hl
  refine lv_aload_n hx hb dX5_init_0 rfl (lv_at hl 0 rfl) ?_
  refine W.objInit hx hb hown (ht _ kw_19) (ht _ kw_20) (ht _ kw_21) rfl (by rw [hml]; exact hl.1) rfl dX5_init_1 (Nat.le_of_ble_eq_true rfl) (Nat.le_of_ble_eq_true rfl) ?_
  refine W.eq (g2 := F0 m 4 ls []) rfl ?_
  refine lv_aload_n hx hb dX5_init_4 rfl (lv_at hl 0 rfl) ?_
  refine va_new (ci := 0) (fs := [.null, .int 0, .int 0]) (C := RX0) (T := TX0) (N := 3) hx hb ht inX0 tyX0 tyX0_ok hown (ht _ kw_22) (ht _ kw_23) (ht _ kw_2) hE.1 hP hD hS hA rfl (by decide) (Nat.le_of_ble_eq_true rfl) (Nat.le_of_ble_eq_true rfl) dX5_init_5 (fun q_5 H hP hD hS => ?_)
  have hP : va_P D vwCl [(a_this, .inr (5, [.null, .null, .null, .null, .null, .int 0])), (q_5, .inr (0, [.null, .int 0, .int 0]))] H := hP
  have hD : va_D A [(a_this, .inr (5, [.null, .null, .null, .null, .null, .int 0])), (q_5, .inr (0, [.null, .int 0, .int 0]))] := hD
  refine W.widen (k := 1) (n := 3) (Nat.le_of_ble_eq_true rfl) (Nat.le_of_ble_eq_true rfl) ?_
  refine lv_dup hx hb dX5_init_8 rfl ?_
  refine kCn (w' := fun (u_9 : Nat → Nat) => [(a_this, .inr (5, [.null, .null, .null, .null, .null, .int 0])), (q_5, .inr (0, [.ref (u_9 0), .int 0, .int 0])), ((u_9 0), .inl (cB, 4000, .inl (fun _ => 0)))]) hP hD hS hA [1] [0] [0, 1, 2] (kRunIN (rest := [.ref q_5, .ref a_this]) C ev_ok hE hA hP hD hS [1] rfl rfl rfl n_X0_init ⟨va_cnB 0 ht (gC kw_26) rfl rfl rfl (hE.2.2 _ kw_24 rfl) (ht _ kw_2) (by decide +kernel) ⟨Nat.le_of_ble_eq_true rfl, Nat.le_of_ble_eq_true rfl⟩, rfl, ht _ kw_25⟩ rfl hl.1 rfl (Nat.le_of_ble_eq_true rfl) dX5_init_9 ⟨Nat.le_of_ble_eq_true rfl, Nat.le_of_ble_eq_true rfl⟩) rfl rfl rfl (by decide) rfl (fun _ => rfl) (fun _ => rfl) (fun u_9 H locs hP hD hS => ?_)
  refine W.widen (k := 2) (n := 4003) (Nat.le_of_ble_eq_true rfl) (Nat.le_of_ble_eq_true rfl) ?_
  have hP : va_P D vwCl [(a_this, .inr (5, [.null, .null, .null, .null, .null, .int 0])), (q_5, .inr (0, [.ref (u_9 0), .int 0, .int 0])), ((u_9 0), .inl (cB, 4000, .inl (fun _ => 0)))] H := hP
  have hD : va_D A [(a_this, .inr (5, [.null, .null, .null, .null, .null, .int 0])), (q_5, .inr (0, [.ref (u_9 0), .int 0, .int 0])), ((u_9 0), .inl (cB, 4000, .inl (fun _ => 0)))] := hD
  refine va_putF (D := D) (ci := 5) (v := .ref q_5) (ty := (.object "LinkText$ByteRow")) (C := RX5) (T := TX5) (N := 6) hx hb ht inX5 tyX5 tyX5_ok nmX5 hown hE.1 hP hD hS 0 rfl rfl 0 (by decide) (ht _ kw_139) (fun _ h9 => h9) rfl hnm rfl (by decide +kernel) rfl rfl (Nat.le_of_ble_eq_true rfl) dX5_init_12 (fun H locs hP hD hS => ?_)
  have hP : va_P D vwCl [(a_this, .inr (5, [.ref q_5, .null, .null, .null, .null, .int 0])), (q_5, .inr (0, [.ref (u_9 0), .int 0, .int 0])), ((u_9 0), .inl (cB, 4000, .inl (fun _ => 0)))] H := hP
  have hD : va_D A [(a_this, .inr (5, [.ref q_5, .null, .null, .null, .null, .int 0])), (q_5, .inr (0, [.ref (u_9 0), .int 0, .int 0])), ((u_9 0), .inl (cB, 4000, .inl (fun _ => 0)))] := hD
  refine lv_aload_n hx hb dX5_init_15 rfl (lv_at hl 0 rfl) ?_
  refine va_new (ci := 0) (fs := [.null, .int 0, .int 0]) (C := RX0) (T := TX0) (N := 3) hx hb ht inX0 tyX0 tyX0_ok hown (ht _ kw_22) (ht _ kw_23) (ht _ kw_2) hE.1 hP hD hS hA rfl (by decide) (Nat.le_of_ble_eq_true rfl) (Nat.le_of_ble_eq_true rfl) dX5_init_16 (fun q_16 H hP hD hS => ?_)
  have hP : va_P D vwCl [(a_this, .inr (5, [.ref q_5, .null, .null, .null, .null, .int 0])), (q_5, .inr (0, [.ref (u_9 0), .int 0, .int 0])), ((u_9 0), .inl (cB, 4000, .inl (fun _ => 0))), (q_16, .inr (0, [.null, .int 0, .int 0]))] H := hP
  have hD : va_D A [(a_this, .inr (5, [.ref q_5, .null, .null, .null, .null, .int 0])), (q_5, .inr (0, [.ref (u_9 0), .int 0, .int 0])), ((u_9 0), .inl (cB, 4000, .inl (fun _ => 0))), (q_16, .inr (0, [.null, .int 0, .int 0]))] := hD
  refine W.widen (k := 3) (n := 4006) (Nat.le_of_ble_eq_true rfl) (Nat.le_of_ble_eq_true rfl) ?_
  refine lv_dup hx hb dX5_init_19 rfl ?_
  refine kCn (w' := fun (u_20 : Nat → Nat) => [(a_this, .inr (5, [.ref q_5, .null, .null, .null, .null, .int 0])), (q_5, .inr (0, [.ref (u_9 0), .int 0, .int 0])), ((u_9 0), .inl (cB, 4000, .inl (fun _ => 0))), (q_16, .inr (0, [.ref (u_20 0), .int 0, .int 0])), ((u_20 0), .inl (cB, 4000, .inl (fun _ => 0)))]) hP hD hS hA [3] [0, 1, 2] [0, 1, 2, 3, 4] (kRunIN (rest := [.ref q_16, .ref a_this]) C ev_ok hE hA hP hD hS [3] rfl rfl rfl n_X0_init ⟨va_cnB 0 ht (gC kw_26) rfl rfl rfl (hE.2.2 _ kw_24 rfl) (ht _ kw_2) (by decide +kernel) ⟨Nat.le_of_ble_eq_true rfl, Nat.le_of_ble_eq_true rfl⟩, rfl, ht _ kw_25⟩ rfl hl.1 rfl (Nat.le_of_ble_eq_true rfl) dX5_init_20 ⟨Nat.le_of_ble_eq_true rfl, Nat.le_of_ble_eq_true rfl⟩) rfl rfl rfl (by decide) rfl (fun _ => rfl) (fun _ => rfl) (fun u_20 H locs hP hD hS => ?_)
  refine W.widen (k := 4) (n := 8006) (Nat.le_of_ble_eq_true rfl) (Nat.le_of_ble_eq_true rfl) ?_
  have hP : va_P D vwCl [(a_this, .inr (5, [.ref q_5, .null, .null, .null, .null, .int 0])), (q_5, .inr (0, [.ref (u_9 0), .int 0, .int 0])), ((u_9 0), .inl (cB, 4000, .inl (fun _ => 0))), (q_16, .inr (0, [.ref (u_20 0), .int 0, .int 0])), ((u_20 0), .inl (cB, 4000, .inl (fun _ => 0)))] H := hP
  have hD : va_D A [(a_this, .inr (5, [.ref q_5, .null, .null, .null, .null, .int 0])), (q_5, .inr (0, [.ref (u_9 0), .int 0, .int 0])), ((u_9 0), .inl (cB, 4000, .inl (fun _ => 0))), (q_16, .inr (0, [.ref (u_20 0), .int 0, .int 0])), ((u_20 0), .inl (cB, 4000, .inl (fun _ => 0)))] := hD
  refine va_putF (D := D) (ci := 5) (v := .ref q_16) (ty := (.object "LinkText$ByteRow")) (C := RX5) (T := TX5) (N := 6) hx hb ht inX5 tyX5 tyX5_ok nmX5 hown hE.1 hP hD hS 0 rfl rfl 1 (by decide) (ht _ kw_140) (fun _ h9 => h9) rfl hnm rfl (by decide +kernel) rfl rfl (Nat.le_of_ble_eq_true rfl) dX5_init_23 (fun H locs hP hD hS => ?_)
  have hP : va_P D vwCl [(a_this, .inr (5, [.ref q_5, .ref q_16, .null, .null, .null, .int 0])), (q_5, .inr (0, [.ref (u_9 0), .int 0, .int 0])), ((u_9 0), .inl (cB, 4000, .inl (fun _ => 0))), (q_16, .inr (0, [.ref (u_20 0), .int 0, .int 0])), ((u_20 0), .inl (cB, 4000, .inl (fun _ => 0)))] H := hP
  have hD : va_D A [(a_this, .inr (5, [.ref q_5, .ref q_16, .null, .null, .null, .int 0])), (q_5, .inr (0, [.ref (u_9 0), .int 0, .int 0])), ((u_9 0), .inl (cB, 4000, .inl (fun _ => 0))), (q_16, .inr (0, [.ref (u_20 0), .int 0, .int 0])), ((u_20 0), .inl (cB, 4000, .inl (fun _ => 0)))] := hD
  refine lv_aload_n hx hb dX5_init_26 rfl (lv_at hl 0 rfl) ?_
  refine va_new (ci := 1) (fs := [.null, .null, .null, .null, .null, .int 0, .int 0]) (C := RX1) (T := TX1) (N := 7) hx hb ht inX1 tyX1 tyX1_ok hown (ht _ kw_42) (ht _ kw_43) (ht _ kw_3) hE.1 hP hD hS hA rfl (by decide) (Nat.le_of_ble_eq_true rfl) (Nat.le_of_ble_eq_true rfl) dX5_init_27 (fun q_27 H hP hD hS => ?_)
  have hP : va_P D vwCl [(a_this, .inr (5, [.ref q_5, .ref q_16, .null, .null, .null, .int 0])), (q_5, .inr (0, [.ref (u_9 0), .int 0, .int 0])), ((u_9 0), .inl (cB, 4000, .inl (fun _ => 0))), (q_16, .inr (0, [.ref (u_20 0), .int 0, .int 0])), ((u_20 0), .inl (cB, 4000, .inl (fun _ => 0))), (q_27, .inr (1, [.null, .null, .null, .null, .null, .int 0, .int 0]))] H := hP
  have hD : va_D A [(a_this, .inr (5, [.ref q_5, .ref q_16, .null, .null, .null, .int 0])), (q_5, .inr (0, [.ref (u_9 0), .int 0, .int 0])), ((u_9 0), .inl (cB, 4000, .inl (fun _ => 0))), (q_16, .inr (0, [.ref (u_20 0), .int 0, .int 0])), ((u_20 0), .inl (cB, 4000, .inl (fun _ => 0))), (q_27, .inr (1, [.null, .null, .null, .null, .null, .int 0, .int 0]))] := hD
  refine W.widen (k := 5) (n := 8013) (Nat.le_of_ble_eq_true rfl) (Nat.le_of_ble_eq_true rfl) ?_
  refine lv_dup hx hb dX5_init_30 rfl ?_
  refine kCn (w' := fun (u_31 : Nat → Nat) => [(a_this, .inr (5, [.ref q_5, .ref q_16, .null, .null, .null, .int 0])), (q_5, .inr (0, [.ref (u_9 0), .int 0, .int 0])), ((u_9 0), .inl (cB, 4000, .inl (fun _ => 0))), (q_16, .inr (0, [.ref (u_20 0), .int 0, .int 0])), ((u_20 0), .inl (cB, 4000, .inl (fun _ => 0))), (q_27, .inr (1, [.ref (u_31 0), .ref (u_31 1), .ref (u_31 2), .ref (u_31 3), .ref (u_31 4), .int 0, .int 0])), ((u_31 0), .inl (cI, 64, .inl (fun _ => 0))), ((u_31 1), .inl (cI, 64, .inl (fun _ => 0))), ((u_31 2), .inl (cI, 64, .inl (fun _ => 0))), ((u_31 3), .inl (cI, 64, .inl (fun _ => 0))), ((u_31 4), .inl (cL, 4000, .inr (.inl (fun _ => 0))))]) hP hD hS hA [5] [0, 1, 2, 3, 4] [0, 1, 2, 3, 4, 5, 6, 7, 8, 9, 10] (kRunIN (rest := [.ref q_27, .ref a_this]) C ev_ok hE hA hP hD hS [5] rfl rfl rfl n_X1_init ⟨va_cnB 0 ht (gC kw_46) rfl rfl rfl (hE.2.2 _ kw_44 rfl) (ht _ kw_3) (by decide +kernel) ⟨Nat.le_of_ble_eq_true rfl, Nat.le_of_ble_eq_true rfl⟩, rfl, ht _ kw_45⟩ rfl hl.1 rfl (Nat.le_of_ble_eq_true rfl) dX5_init_31 ⟨Nat.le_of_ble_eq_true rfl, Nat.le_of_ble_eq_true rfl⟩) rfl rfl rfl (by decide) rfl (fun _ => rfl) (fun _ => rfl) (fun u_31 H locs hP hD hS => ?_)
  refine W.widen (k := 10) (n := 12269) (Nat.le_of_ble_eq_true rfl) (Nat.le_of_ble_eq_true rfl) ?_
  have hP : va_P D vwCl [(a_this, .inr (5, [.ref q_5, .ref q_16, .null, .null, .null, .int 0])), (q_5, .inr (0, [.ref (u_9 0), .int 0, .int 0])), ((u_9 0), .inl (cB, 4000, .inl (fun _ => 0))), (q_16, .inr (0, [.ref (u_20 0), .int 0, .int 0])), ((u_20 0), .inl (cB, 4000, .inl (fun _ => 0))), (q_27, .inr (1, [.ref (u_31 0), .ref (u_31 1), .ref (u_31 2), .ref (u_31 3), .ref (u_31 4), .int 0, .int 0])), ((u_31 0), .inl (cI, 64, .inl (fun _ => 0))), ((u_31 1), .inl (cI, 64, .inl (fun _ => 0))), ((u_31 2), .inl (cI, 64, .inl (fun _ => 0))), ((u_31 3), .inl (cI, 64, .inl (fun _ => 0))), ((u_31 4), .inl (cL, 4000, .inr (.inl (fun _ => 0))))] H := hP
  have hD : va_D A [(a_this, .inr (5, [.ref q_5, .ref q_16, .null, .null, .null, .int 0])), (q_5, .inr (0, [.ref (u_9 0), .int 0, .int 0])), ((u_9 0), .inl (cB, 4000, .inl (fun _ => 0))), (q_16, .inr (0, [.ref (u_20 0), .int 0, .int 0])), ((u_20 0), .inl (cB, 4000, .inl (fun _ => 0))), (q_27, .inr (1, [.ref (u_31 0), .ref (u_31 1), .ref (u_31 2), .ref (u_31 3), .ref (u_31 4), .int 0, .int 0])), ((u_31 0), .inl (cI, 64, .inl (fun _ => 0))), ((u_31 1), .inl (cI, 64, .inl (fun _ => 0))), ((u_31 2), .inl (cI, 64, .inl (fun _ => 0))), ((u_31 3), .inl (cI, 64, .inl (fun _ => 0))), ((u_31 4), .inl (cL, 4000, .inr (.inl (fun _ => 0))))] := hD
  refine va_putF (D := D) (ci := 5) (v := .ref q_27) (ty := (.object "LinkText$Lines")) (C := RX5) (T := TX5) (N := 6) hx hb ht inX5 tyX5 tyX5_ok nmX5 hown hE.1 hP hD hS 0 rfl rfl 2 (by decide) (ht _ kw_141) (fun _ h9 => h9) rfl hnm rfl (by decide +kernel) rfl rfl (Nat.le_of_ble_eq_true rfl) dX5_init_34 (fun H locs hP hD hS => ?_)
  have hP : va_P D vwCl [(a_this, .inr (5, [.ref q_5, .ref q_16, .ref q_27, .null, .null, .int 0])), (q_5, .inr (0, [.ref (u_9 0), .int 0, .int 0])), ((u_9 0), .inl (cB, 4000, .inl (fun _ => 0))), (q_16, .inr (0, [.ref (u_20 0), .int 0, .int 0])), ((u_20 0), .inl (cB, 4000, .inl (fun _ => 0))), (q_27, .inr (1, [.ref (u_31 0), .ref (u_31 1), .ref (u_31 2), .ref (u_31 3), .ref (u_31 4), .int 0, .int 0])), ((u_31 0), .inl (cI, 64, .inl (fun _ => 0))), ((u_31 1), .inl (cI, 64, .inl (fun _ => 0))), ((u_31 2), .inl (cI, 64, .inl (fun _ => 0))), ((u_31 3), .inl (cI, 64, .inl (fun _ => 0))), ((u_31 4), .inl (cL, 4000, .inr (.inl (fun _ => 0))))] H := hP
  have hD : va_D A [(a_this, .inr (5, [.ref q_5, .ref q_16, .ref q_27, .null, .null, .int 0])), (q_5, .inr (0, [.ref (u_9 0), .int 0, .int 0])), ((u_9 0), .inl (cB, 4000, .inl (fun _ => 0))), (q_16, .inr (0, [.ref (u_20 0), .int 0, .int 0])), ((u_20 0), .inl (cB, 4000, .inl (fun _ => 0))), (q_27, .inr (1, [.ref (u_31 0), .ref (u_31 1), .ref (u_31 2), .ref (u_31 3), .ref (u_31 4), .int 0, .int 0])), ((u_31 0), .inl (cI, 64, .inl (fun _ => 0))), ((u_31 1), .inl (cI, 64, .inl (fun _ => 0))), ((u_31 2), .inl (cI, 64, .inl (fun _ => 0))), ((u_31 3), .inl (cI, 64, .inl (fun _ => 0))), ((u_31 4), .inl (cL, 4000, .inr (.inl (fun _ => 0))))] := hD
  refine lv_aload_n hx hb dX5_init_37 rfl (lv_at hl 0 rfl) ?_
  refine va_new (ci := 3) (fs := [.null, .null, .int 0, .int 0]) (C := RX3) (T := TX3) (N := 4) hx hb ht inX3 tyX3 tyX3_ok hown (ht _ kw_74) (ht _ kw_75) (ht _ kw_4) hE.1 hP hD hS hA rfl (by decide) (Nat.le_of_ble_eq_true rfl) (Nat.le_of_ble_eq_true rfl) dX5_init_38 (fun q_38 H hP hD hS => ?_)
  have hP : va_P D vwCl [(a_this, .inr (5, [.ref q_5, .ref q_16, .ref q_27, .null, .null, .int 0])), (q_5, .inr (0, [.ref (u_9 0), .int 0, .int 0])), ((u_9 0), .inl (cB, 4000, .inl (fun _ => 0))), (q_16, .inr (0, [.ref (u_20 0), .int 0, .int 0])), ((u_20 0), .inl (cB, 4000, .inl (fun _ => 0))), (q_27, .inr (1, [.ref (u_31 0), .ref (u_31 1), .ref (u_31 2), .ref (u_31 3), .ref (u_31 4), .int 0, .int 0])), ((u_31 0), .inl (cI, 64, .inl (fun _ => 0))), ((u_31 1), .inl (cI, 64, .inl (fun _ => 0))), ((u_31 2), .inl (cI, 64, .inl (fun _ => 0))), ((u_31 3), .inl (cI, 64, .inl (fun _ => 0))), ((u_31 4), .inl (cL, 4000, .inr (.inl (fun _ => 0)))), (q_38, .inr (3, [.null, .null, .int 0, .int 0]))] H := hP
  have hD : va_D A [(a_this, .inr (5, [.ref q_5, .ref q_16, .ref q_27, .null, .null, .int 0])), (q_5, .inr (0, [.ref (u_9 0), .int 0, .int 0])), ((u_9 0), .inl (cB, 4000, .inl (fun _ => 0))), (q_16, .inr (0, [.ref (u_20 0), .int 0, .int 0])), ((u_20 0), .inl (cB, 4000, .inl (fun _ => 0))), (q_27, .inr (1, [.ref (u_31 0), .ref (u_31 1), .ref (u_31 2), .ref (u_31 3), .ref (u_31 4), .int 0, .int 0])), ((u_31 0), .inl (cI, 64, .inl (fun _ => 0))), ((u_31 1), .inl (cI, 64, .inl (fun _ => 0))), ((u_31 2), .inl (cI, 64, .inl (fun _ => 0))), ((u_31 3), .inl (cI, 64, .inl (fun _ => 0))), ((u_31 4), .inl (cL, 4000, .inr (.inl (fun _ => 0)))), (q_38, .inr (3, [.null, .null, .int 0, .int 0]))] := hD
  refine W.widen (k := 11) (n := 12273) (Nat.le_of_ble_eq_true rfl) (Nat.le_of_ble_eq_true rfl) ?_
  refine lv_dup hx hb dX5_init_41 rfl ?_
  refine lv_aload_n hx hb dX5_init_42 rfl (lv_at hl 0 rfl) ?_
  refine va_get (D := D) (ci := 5) (v := .ref q_5) (C := RX5) (T := TX5) (N := 6) hx hb ht inX5 hown hE.1 hP 0 rfl rfl 0 (by decide) (ht _ kw_139) (fun _ h9 => h9) rfl dX5_init_43 ?_
  refine lv_aload_n hx hb dX5_init_46 rfl (lv_at hl 0 rfl) ?_
  refine va_get (D := D) (ci := 5) (v := .ref q_27) (C := RX5) (T := TX5) (N := 6) hx hb ht inX5 hown hE.1 hP 0 rfl rfl 2 (by decide) (ht _ kw_141) (fun _ h9 => h9) rfl dX5_init_47 ?_
  refine kCn (w' := fun (u_50 : Nat → Nat) => [(a_this, .inr (5, [.ref q_5, .ref q_16, .ref q_27, .null, .null, .int 0])), (q_5, .inr (0, [.ref (u_9 0), .int 0, .int 0])), ((u_9 0), .inl (cB, 4000, .inl (fun _ => 0))), (q_16, .inr (0, [.ref (u_20 0), .int 0, .int 0])), ((u_20 0), .inl (cB, 4000, .inl (fun _ => 0))), (q_27, .inr (1, [.ref (u_31 0), .ref (u_31 1), .ref (u_31 2), .ref (u_31 3), .ref (u_31 4), .int 0, .int 0])), ((u_31 0), .inl (cI, 64, .inl (fun _ => 0))), ((u_31 1), .inl (cI, 64, .inl (fun _ => 0))), ((u_31 2), .inl (cI, 64, .inl (fun _ => 0))), ((u_31 3), .inl (cI, 64, .inl (fun _ => 0))), ((u_31 4), .inl (cL, 4000, .inr (.inl (fun _ => 0)))), (q_38, .inr (3, [.ref (u_50 0), .ref q_27, .int 0, .int (-1)])), ((u_50 0), .inr (2, [.ref (u_9 0), .int 0, .int 0, .int 0, .int 0, .long 0, .int 0]))]) hP hD hS hA [11, 1] [0, 2, 3, 4, 5, 6, 7, 8, 9, 10] [0, 11, 1, 2, 3, 4, 5, 6, 7, 8, 9, 10, 12] (kRunI (rest := [.ref q_38, .ref a_this]) C ev_ok hE hA hP hD hS [11, 1] rfl rfl rfl n_X3_init (cwI 2 ht (gC kw_78) rfl rfl rfl (ht _ kw_4) (ht _ kw_76) (ht _ kw_77) rfl (by decide +kernel) ⟨Nat.le_of_ble_eq_true rfl, Nat.le_of_ble_eq_true rfl⟩) rfl hl.1 rfl (Nat.le_of_ble_eq_true rfl) dX5_init_50 ⟨Nat.le_of_ble_eq_true rfl, Nat.le_of_ble_eq_true rfl⟩) rfl rfl rfl (by decide) rfl (fun _ => rfl) (fun _ => rfl) (fun u_50 H locs hP hD hS => ?_)
  refine W.widen (k := 12) (n := 12280) (Nat.le_of_ble_eq_true rfl) (Nat.le_of_ble_eq_true rfl) ?_
  have hP : va_P D vwCl [(a_this, .inr (5, [.ref q_5, .ref q_16, .ref q_27, .null, .null, .int 0])), (q_5, .inr (0, [.ref (u_9 0), .int 0, .int 0])), ((u_9 0), .inl (cB, 4000, .inl (fun _ => 0))), (q_16, .inr (0, [.ref (u_20 0), .int 0, .int 0])), ((u_20 0), .inl (cB, 4000, .inl (fun _ => 0))), (q_27, .inr (1, [.ref (u_31 0), .ref (u_31 1), .ref (u_31 2), .ref (u_31 3), .ref (u_31 4), .int 0, .int 0])), ((u_31 0), .inl (cI, 64, .inl (fun _ => 0))), ((u_31 1), .inl (cI, 64, .inl (fun _ => 0))), ((u_31 2), .inl (cI, 64, .inl (fun _ => 0))), ((u_31 3), .inl (cI, 64, .inl (fun _ => 0))), ((u_31 4), .inl (cL, 4000, .inr (.inl (fun _ => 0)))), (q_38, .inr (3, [.ref (u_50 0), .ref q_27, .int 0, .int (-1)])), ((u_50 0), .inr (2, [.ref (u_9 0), .int 0, .int 0, .int 0, .int 0, .long 0, .int 0]))] H := hP
  have hD : va_D A [(a_this, .inr (5, [.ref q_5, .ref q_16, .ref q_27, .null, .null, .int 0])), (q_5, .inr (0, [.ref (u_9 0), .int 0, .int 0])), ((u_9 0), .inl (cB, 4000, .inl (fun _ => 0))), (q_16, .inr (0, [.ref (u_20 0), .int 0, .int 0])), ((u_20 0), .inl (cB, 4000, .inl (fun _ => 0))), (q_27, .inr (1, [.ref (u_31 0), .ref (u_31 1), .ref (u_31 2), .ref (u_31 3), .ref (u_31 4), .int 0, .int 0])), ((u_31 0), .inl (cI, 64, .inl (fun _ => 0))), ((u_31 1), .inl (cI, 64, .inl (fun _ => 0))), ((u_31 2), .inl (cI, 64, .inl (fun _ => 0))), ((u_31 3), .inl (cI, 64, .inl (fun _ => 0))), ((u_31 4), .inl (cL, 4000, .inr (.inl (fun _ => 0)))), (q_38, .inr (3, [.ref (u_50 0), .ref q_27, .int 0, .int (-1)])), ((u_50 0), .inr (2, [.ref (u_9 0), .int 0, .int 0, .int 0, .int 0, .long 0, .int 0]))] := hD
  refine va_putF (D := D) (ci := 5) (v := .ref q_38) (ty := (.object "LinkText$Reader")) (C := RX5) (T := TX5) (N := 6) hx hb ht inX5 tyX5 tyX5_ok nmX5 hown hE.1 hP hD hS 0 rfl rfl 3 (by decide) (ht _ kw_142) (fun _ h9 => h9) rfl hnm rfl (by decide +kernel) rfl rfl (Nat.le_of_ble_eq_true rfl) dX5_init_53 (fun H locs hP hD hS => ?_)
  have hP : va_P D vwCl [(a_this, .inr (5, [.ref q_5, .ref q_16, .ref q_27, .ref q_38, .null, .int 0])), (q_5, .inr (0, [.ref (u_9 0), .int 0, .int 0])), ((u_9 0), .inl (cB, 4000, .inl (fun _ => 0))), (q_16, .inr (0, [.ref (u_20 0), .int 0, .int 0])), ((u_20 0), .inl (cB, 4000, .inl (fun _ => 0))), (q_27, .inr (1, [.ref (u_31 0), .ref (u_31 1), .ref (u_31 2), .ref (u_31 3), .ref (u_31 4), .int 0, .int 0])), ((u_31 0), .inl (cI, 64, .inl (fun _ => 0))), ((u_31 1), .inl (cI, 64, .inl (fun _ => 0))), ((u_31 2), .inl (cI, 64, .inl (fun _ => 0))), ((u_31 3), .inl (cI, 64, .inl (fun _ => 0))), ((u_31 4), .inl (cL, 4000, .inr (.inl (fun _ => 0)))), (q_38, .inr (3, [.ref (u_50 0), .ref q_27, .int 0, .int (-1)])), ((u_50 0), .inr (2, [.ref (u_9 0), .int 0, .int 0, .int 0, .int 0, .long 0, .int 0]))] H := hP
  have hD : va_D A [(a_this, .inr (5, [.ref q_5, .ref q_16, .ref q_27, .ref q_38, .null, .int 0])), (q_5, .inr (0, [.ref (u_9 0), .int 0, .int 0])), ((u_9 0), .inl (cB, 4000, .inl (fun _ => 0))), (q_16, .inr (0, [.ref (u_20 0), .int 0, .int 0])), ((u_20 0), .inl (cB, 4000, .inl (fun _ => 0))), (q_27, .inr (1, [.ref (u_31 0), .ref (u_31 1), .ref (u_31 2), .ref (u_31 3), .ref (u_31 4), .int 0, .int 0])), ((u_31 0), .inl (cI, 64, .inl (fun _ => 0))), ((u_31 1), .inl (cI, 64, .inl (fun _ => 0))), ((u_31 2), .inl (cI, 64, .inl (fun _ => 0))), ((u_31 3), .inl (cI, 64, .inl (fun _ => 0))), ((u_31 4), .inl (cL, 4000, .inr (.inl (fun _ => 0)))), (q_38, .inr (3, [.ref (u_50 0), .ref q_27, .int 0, .int (-1)])), ((u_50 0), .inr (2, [.ref (u_9 0), .int 0, .int 0, .int 0, .int 0, .long 0, .int 0]))] := hD
  refine lv_aload_n hx hb dX5_init_56 rfl (lv_at hl 0 rfl) ?_
  refine va_new (ci := 4) (fs := [.null, .null]) (C := RX4) (T := TX4) (N := 2) hx hb ht inX4 tyX4 tyX4_ok hown (ht _ kw_126) (ht _ kw_127) (ht _ kw_6) hE.1 hP hD hS hA rfl (by decide) (Nat.le_of_ble_eq_true rfl) (Nat.le_of_ble_eq_true rfl) dX5_init_57 (fun q_57 H hP hD hS => ?_)
  have hP : va_P D vwCl [(a_this, .inr (5, [.ref q_5, .ref q_16, .ref q_27, .ref q_38, .null, .int 0])), (q_5, .inr (0, [.ref (u_9 0), .int 0, .int 0])), ((u_9 0), .inl (cB, 4000, .inl (fun _ => 0))), (q_16, .inr (0, [.ref (u_20 0), .int 0, .int 0])), ((u_20 0), .inl (cB, 4000, .inl (fun _ => 0))), (q_27, .inr (1, [.ref (u_31 0), .ref (u_31 1), .ref (u_31 2), .ref (u_31 3), .ref (u_31 4), .int 0, .int 0])), ((u_31 0), .inl (cI, 64, .inl (fun _ => 0))), ((u_31 1), .inl (cI, 64, .inl (fun _ => 0))), ((u_31 2), .inl (cI, 64, .inl (fun _ => 0))), ((u_31 3), .inl (cI, 64, .inl (fun _ => 0))), ((u_31 4), .inl (cL, 4000, .inr (.inl (fun _ => 0)))), (q_38, .inr (3, [.ref (u_50 0), .ref q_27, .int 0, .int (-1)])), ((u_50 0), .inr (2, [.ref (u_9 0), .int 0, .int 0, .int 0, .int 0, .long 0, .int 0])), (q_57, .inr (4, [.null, .null]))] H := hP
  have hD : va_D A [(a_this, .inr (5, [.ref q_5, .ref q_16, .ref q_27, .ref q_38, .null, .int 0])), (q_5, .inr (0, [.ref (u_9 0), .int 0, .int 0])), ((u_9 0), .inl (cB, 4000, .inl (fun _ => 0))), (q_16, .inr (0, [.ref (u_20 0), .int 0, .int 0])), ((u_20 0), .inl (cB, 4000, .inl (fun _ => 0))), (q_27, .inr (1, [.ref (u_31 0), .ref (u_31 1), .ref (u_31 2), .ref (u_31 3), .ref (u_31 4), .int 0, .int 0])), ((u_31 0), .inl (cI, 64, .inl (fun _ => 0))), ((u_31 1), .inl (cI, 64, .inl (fun _ => 0))), ((u_31 2), .inl (cI, 64, .inl (fun _ => 0))), ((u_31 3), .inl (cI, 64, .inl (fun _ => 0))), ((u_31 4), .inl (cL, 4000, .inr (.inl (fun _ => 0)))), (q_38, .inr (3, [.ref (u_50 0), .ref q_27, .int 0, .int (-1)])), ((u_50 0), .inr (2, [.ref (u_9 0), .int 0, .int 0, .int 0, .int 0, .long 0, .int 0])), (q_57, .inr (4, [.null, .null]))] := hD
  refine W.widen (k := 13) (n := 12282) (Nat.le_of_ble_eq_true rfl) (Nat.le_of_ble_eq_true rfl) ?_
  refine lv_dup hx hb dX5_init_60 rfl ?_
  refine lv_aload_n hx hb dX5_init_61 rfl (lv_at hl 0 rfl) ?_
  refine va_get (D := D) (ci := 5) (v := .ref q_16) (C := RX5) (T := TX5) (N := 6) hx hb ht inX5 hown hE.1 hP 0 rfl rfl 1 (by decide) (ht _ kw_140) (fun _ h9 => h9) rfl dX5_init_62 ?_
  refine lv_aload_n hx hb dX5_init_65 rfl (lv_at hl 0 rfl) ?_
  refine va_get (D := D) (ci := 5) (v := .ref q_27) (C := RX5) (T := TX5) (N := 6) hx hb ht inX5 hown hE.1 hP 0 rfl rfl 2 (by decide) (ht _ kw_141) (fun _ h9 => h9) rfl dX5_init_66 ?_
  refine kCn (w' := fun (u_69 : Nat → Nat) => [(a_this, .inr (5, [.ref q_5, .ref q_16, .ref q_27, .ref q_38, .null, .int 0])), (q_5, .inr (0, [.ref (u_9 0), .int 0, .int 0])), ((u_9 0), .inl (cB, 4000, .inl (fun _ => 0))), (q_16, .inr (0, [.ref (u_20 0), .int 0, .int 0])), ((u_20 0), .inl (cB, 4000, .inl (fun _ => 0))), (q_27, .inr (1, [.ref (u_31 0), .ref (u_31 1), .ref (u_31 2), .ref (u_31 3), .ref (u_31 4), .int 0, .int 0])), ((u_31 0), .inl (cI, 64, .inl (fun _ => 0))), ((u_31 1), .inl (cI, 64, .inl (fun _ => 0))), ((u_31 2), .inl (cI, 64, .inl (fun _ => 0))), ((u_31 3), .inl (cI, 64, .inl (fun _ => 0))), ((u_31 4), .inl (cL, 4000, .inr (.inl (fun _ => 0)))), (q_38, .inr (3, [.ref (u_50 0), .ref q_27, .int 0, .int (-1)])), ((u_50 0), .inr (2, [.ref (u_9 0), .int 0, .int 0, .int 0, .int 0, .long 0, .int 0])), (q_57, .inr (4, [.ref q_16, .ref q_27]))]) hP hD hS hA [13] [0, 1, 2, 3, 4, 5, 6, 7, 8, 9, 10, 11, 12] [0, 1, 2, 3, 4, 5, 6, 7, 8, 9, 10, 11, 12, 13] (kRunI (rest := [.ref q_57, .ref a_this]) C ev_ok hE hA hP hD hS [13] rfl rfl rfl n_X4_init (cwI 2 ht (gC kw_130) rfl rfl rfl (ht _ kw_6) (ht _ kw_128) (ht _ kw_129) rfl (by decide +kernel) ⟨Nat.le_of_ble_eq_true rfl, Nat.le_of_ble_eq_true rfl⟩) rfl hl.1 rfl (Nat.le_of_ble_eq_true rfl) dX5_init_69 ⟨Nat.le_of_ble_eq_true rfl, Nat.le_of_ble_eq_true rfl⟩) rfl rfl rfl (by decide) rfl (fun _ => rfl) (fun _ => rfl) (fun u_69 H locs hP hD hS => ?_)
  refine W.widen (k := 13) (n := 12282) (Nat.le_of_ble_eq_true rfl) (Nat.le_of_ble_eq_true rfl) ?_
  have hP : va_P D vwCl [(a_this, .inr (5, [.ref q_5, .ref q_16, .ref q_27, .ref q_38, .null, .int 0])), (q_5, .inr (0, [.ref (u_9 0), .int 0, .int 0])), ((u_9 0), .inl (cB, 4000, .inl (fun _ => 0))), (q_16, .inr (0, [.ref (u_20 0), .int 0, .int 0])), ((u_20 0), .inl (cB, 4000, .inl (fun _ => 0))), (q_27, .inr (1, [.ref (u_31 0), .ref (u_31 1), .ref (u_31 2), .ref (u_31 3), .ref (u_31 4), .int 0, .int 0])), ((u_31 0), .inl (cI, 64, .inl (fun _ => 0))), ((u_31 1), .inl (cI, 64, .inl (fun _ => 0))), ((u_31 2), .inl (cI, 64, .inl (fun _ => 0))), ((u_31 3), .inl (cI, 64, .inl (fun _ => 0))), ((u_31 4), .inl (cL, 4000, .inr (.inl (fun _ => 0)))), (q_38, .inr (3, [.ref (u_50 0), .ref q_27, .int 0, .int (-1)])), ((u_50 0), .inr (2, [.ref (u_9 0), .int 0, .int 0, .int 0, .int 0, .long 0, .int 0])), (q_57, .inr (4, [.ref q_16, .ref q_27]))] H := hP
  have hD : va_D A [(a_this, .inr (5, [.ref q_5, .ref q_16, .ref q_27, .ref q_38, .null, .int 0])), (q_5, .inr (0, [.ref (u_9 0), .int 0, .int 0])), ((u_9 0), .inl (cB, 4000, .inl (fun _ => 0))), (q_16, .inr (0, [.ref (u_20 0), .int 0, .int 0])), ((u_20 0), .inl (cB, 4000, .inl (fun _ => 0))), (q_27, .inr (1, [.ref (u_31 0), .ref (u_31 1), .ref (u_31 2), .ref (u_31 3), .ref (u_31 4), .int 0, .int 0])), ((u_31 0), .inl (cI, 64, .inl (fun _ => 0))), ((u_31 1), .inl (cI, 64, .inl (fun _ => 0))), ((u_31 2), .inl (cI, 64, .inl (fun _ => 0))), ((u_31 3), .inl (cI, 64, .inl (fun _ => 0))), ((u_31 4), .inl (cL, 4000, .inr (.inl (fun _ => 0)))), (q_38, .inr (3, [.ref (u_50 0), .ref q_27, .int 0, .int (-1)])), ((u_50 0), .inr (2, [.ref (u_9 0), .int 0, .int 0, .int 0, .int 0, .long 0, .int 0])), (q_57, .inr (4, [.ref q_16, .ref q_27]))] := hD
  refine va_putF (D := D) (ci := 5) (v := .ref q_57) (ty := (.object "LinkText$Printer")) (C := RX5) (T := TX5) (N := 6) hx hb ht inX5 tyX5 tyX5_ok nmX5 hown hE.1 hP hD hS 0 rfl rfl 4 (by decide) (ht _ kw_143) (fun _ h9 => h9) rfl hnm rfl (by decide +kernel) rfl rfl (Nat.le_of_ble_eq_true rfl) dX5_init_72 (fun H locs hP hD hS => ?_)
  have hP : va_P D vwCl [(a_this, .inr (5, [.ref q_5, .ref q_16, .ref q_27, .ref q_38, .ref q_57, .int 0])), (q_5, .inr (0, [.ref (u_9 0), .int 0, .int 0])), ((u_9 0), .inl (cB, 4000, .inl (fun _ => 0))), (q_16, .inr (0, [.ref (u_20 0), .int 0, .int 0])), ((u_20 0), .inl (cB, 4000, .inl (fun _ => 0))), (q_27, .inr (1, [.ref (u_31 0), .ref (u_31 1), .ref (u_31 2), .ref (u_31 3), .ref (u_31 4), .int 0, .int 0])), ((u_31 0), .inl (cI, 64, .inl (fun _ => 0))), ((u_31 1), .inl (cI, 64, .inl (fun _ => 0))), ((u_31 2), .inl (cI, 64, .inl (fun _ => 0))), ((u_31 3), .inl (cI, 64, .inl (fun _ => 0))), ((u_31 4), .inl (cL, 4000, .inr (.inl (fun _ => 0)))), (q_38, .inr (3, [.ref (u_50 0), .ref q_27, .int 0, .int (-1)])), ((u_50 0), .inr (2, [.ref (u_9 0), .int 0, .int 0, .int 0, .int 0, .long 0, .int 0])), (q_57, .inr (4, [.ref q_16, .ref q_27]))] H := hP
  have hD : va_D A [(a_this, .inr (5, [.ref q_5, .ref q_16, .ref q_27, .ref q_38, .ref q_57, .int 0])), (q_5, .inr (0, [.ref (u_9 0), .int 0, .int 0])), ((u_9 0), .inl (cB, 4000, .inl (fun _ => 0))), (q_16, .inr (0, [.ref (u_20 0), .int 0, .int 0])), ((u_20 0), .inl (cB, 4000, .inl (fun _ => 0))), (q_27, .inr (1, [.ref (u_31 0), .ref (u_31 1), .ref (u_31 2), .ref (u_31 3), .ref (u_31 4), .int 0, .int 0])), ((u_31 0), .inl (cI, 64, .inl (fun _ => 0))), ((u_31 1), .inl (cI, 64, .inl (fun _ => 0))), ((u_31 2), .inl (cI, 64, .inl (fun _ => 0))), ((u_31 3), .inl (cI, 64, .inl (fun _ => 0))), ((u_31 4), .inl (cL, 4000, .inr (.inl (fun _ => 0)))), (q_38, .inr (3, [.ref (u_50 0), .ref q_27, .int 0, .int (-1)])), ((u_50 0), .inr (2, [.ref (u_9 0), .int 0, .int 0, .int 0, .int 0, .long 0, .int 0])), (q_57, .inr (4, [.ref q_16, .ref q_27]))] := hD
  refine lv_aload_n hx hb dX5_init_75 rfl (lv_at hl 0 rfl) ?_
  refine lv_iconst (v := 0) hx hb dX5_init_76 (by decide) ?_
  refine va_put (D := D) (ci := 5) (v := .int 0) (ty := .boolean) (C := RX5) (T := TX5) (N := 6) hx hb ht inX5 tyX5 tyX5_ok nmX5 hown hE.1 hP hD hS 0 rfl rfl 5 (by decide) (ht _ kw_144) (fun _ h9 => h9) rfl (by decide +kernel) rfl rfl (Nat.le_of_ble_eq_true rfl) dX5_init_77 (fun H locs hP hD hS => ?_)
  have hP : va_P D vwCl [(a_this, .inr (5, [.ref q_5, .ref q_16, .ref q_27, .ref q_38, .ref q_57, .int 0])), (q_5, .inr (0, [.ref (u_9 0), .int 0, .int 0])), ((u_9 0), .inl (cB, 4000, .inl (fun _ => 0))), (q_16, .inr (0, [.ref (u_20 0), .int 0, .int 0])), ((u_20 0), .inl (cB, 4000, .inl (fun _ => 0))), (q_27, .inr (1, [.ref (u_31 0), .ref (u_31 1), .ref (u_31 2), .ref (u_31 3), .ref (u_31 4), .int 0, .int 0])), ((u_31 0), .inl (cI, 64, .inl (fun _ => 0))), ((u_31 1), .inl (cI, 64, .inl (fun _ => 0))), ((u_31 2), .inl (cI, 64, .inl (fun _ => 0))), ((u_31 3), .inl (cI, 64, .inl (fun _ => 0))), ((u_31 4), .inl (cL, 4000, .inr (.inl (fun _ => 0)))), (q_38, .inr (3, [.ref (u_50 0), .ref q_27, .int 0, .int (-1)])), ((u_50 0), .inr (2, [.ref (u_9 0), .int 0, .int 0, .int 0, .int 0, .long 0, .int 0])), (q_57, .inr (4, [.ref q_16, .ref q_27]))] H := hP
  have hD : va_D A [(a_this, .inr (5, [.ref q_5, .ref q_16, .ref q_27, .ref q_38, .ref q_57, .int 0])), (q_5, .inr (0, [.ref (u_9 0), .int 0, .int 0])), ((u_9 0), .inl (cB, 4000, .inl (fun _ => 0))), (q_16, .inr (0, [.ref (u_20 0), .int 0, .int 0])), ((u_20 0), .inl (cB, 4000, .inl (fun _ => 0))), (q_27, .inr (1, [.ref (u_31 0), .ref (u_31 1), .ref (u_31 2), .ref (u_31 3), .ref (u_31 4), .int 0, .int 0])), ((u_31 0), .inl (cI, 64, .inl (fun _ => 0))), ((u_31 1), .inl (cI, 64, .inl (fun _ => 0))), ((u_31 2), .inl (cI, 64, .inl (fun _ => 0))), ((u_31 3), .inl (cI, 64, .inl (fun _ => 0))), ((u_31 4), .inl (cL, 4000, .inr (.inl (fun _ => 0)))), (q_38, .inr (3, [.ref (u_50 0), .ref q_27, .int 0, .int (-1)])), ((u_50 0), .inr (2, [.ref (u_9 0), .int 0, .int 0, .int 0, .int 0, .long 0, .int 0])), (q_57, .inr (4, [.ref q_16, .ref q_27]))] := hD
  exact kRet_n (fun i => ([q_5, (u_9 0), q_16, (u_20 0), q_27, (u_31 0), (u_31 1), (u_31 2), (u_31 3), (u_31 4), q_38, (u_50 0), q_57] : List Nat).getD i 0) C hP hD hS dX5_init_80
set_option maxHeartbeats 4000000 in
set_option maxRecDepth 100000 in
theorem n_X6_init {l : Launch} {D : va_G} {cB cI cL : ClassId} {a_this : Nat} : KMetN (S := Nat → Nat) l (⟨"LinkTextModel", "<init>", "()V"⟩ : MethodName) (.code (⟨"LinkTextModel", "<init>", "()V"⟩ : MethodName) prog_8_method_1_code 1 none :: k_tbl) ({ frames := 1, cells := 9, slots := 16476, locals := 12 } : Room) 9 16476 (ev D cB cI cL) D vwCl [.ref a_this] [(a_this, .inr (6, [.int 0, .null, .int 0, .int 0, .int 0, .int 0, .null, .null, .null, .null, .null, .int 0, .int 0, .int 0, .int 0, .int 0, .int 0, .long 0, .int 0, .int 0, .null, .int 0, .null, .int 0, .int 0, .null]))] (fun u => [(a_this, .inr (6, [.int 0, .ref (u 0), .int 0, .int (-1), .int (-1), .int 0, .ref (u 1), .ref (u 2), .ref (u 3), .ref (u 4), .ref (u 5), .int 0, .int 0, .int 0, .int 0, .int 0, .int 0, .long 0, .int 0, .int 0, .ref (u 6), .int 0, .ref (u 7), .int 0, .int 0, .ref (u 8)])), ((u 0), .inl (cI, 4000, .inl (fun _ => 0))), ((u 1), .inl (cI, 64, .inl (fun _ => 0))), ((u 2), .inl (cI, 64, .inl (fun _ => 0))), ((u 3), .inl (cI, 64, .inl (fun _ => 0))), ((u 4), .inl (cI, 64, .inl (fun _ => 0))), ((u 5), .inl (cL, 4200, .inr (.inl (fun _ => 0)))), ((u 6), .inl (cI, 4000, .inl (fun _ => 0))), ((u 7), .inl (cI, 4000, .inl (fun _ => 0))), ((u 8), .inl (cI, 20, .inl (fun _ => 0)))]) := by
  refine kMetN (cc := prog_8_method_1_code) (mL := 1) (ret := none) (own := "LinkTextModel") (by decide) rfl rfl (Nat.le_of_ble_eq_true rfl) ?_
  intro p e s m below meth c A C hnm hE hA hP hD ls hl
  generalize ([.ref a_this] : List Value).toArray = args at C ⊢
  obtain ⟨hx, hb, hr, hml, hown, hts, hlocks⟩ := id C
  have ht : ∀ w ∈ k_tbl, w.before args s = true := fun w h => hts w (List.mem_cons_of_mem _ h)
  have hS : va_S A s.heap s.heap [] := va_S.rf
  have hl : lv_has ls 1 [(0, .ref a_this)] := hl
  refine lv_aload_n hx hb dX6_init_0 rfl (lv_at hl 0 rfl) ?_
  refine W.objInit hx hb hown (ht _ kw_514) (ht _ kw_20) (ht _ kw_21) rfl (by rw [hml]; exact hl.1) rfl dX6_init_1 (Nat.le_of_ble_eq_true rfl) (Nat.le_of_ble_eq_true rfl) ?_
  refine W.eq (g2 := F0 m 4 ls []) rfl ?_
  refine lv_aload_n hx hb dX6_init_4 rfl (lv_at hl 0 rfl) ?_
  refine lv_sipush (v := 4000) hx hb dX6_init_5 (by decide) ?_
  refine k_newa (atype := .int) (a0 := (4000, .inl (fun _ => 0))) (ty := .int) hx hb (ht _ kw_72) rfl hE.1 1 rfl (fun _ h1 h2 => Option.some.inj (h1.symm.trans h2)) hP hD hS hA (fun _ => rfl) (by decide) (N' := 4000) (by decide) (by decide) (Nat.le_of_ble_eq_true rfl) (Nat.le_of_ble_eq_true rfl) dX6_init_8 (fun q_8 H hP hD hS => ?_)
  have hP : va_P D vwCl [(a_this, .inr (6, [.int 0, .null, .int 0, .int 0, .int 0, .int 0, .null, .null, .null, .null, .null, .int 0, .int 0, .int 0, .int 0, .int 0, .int 0, .long 0, .int 0, .int 0, .null, .int 0, .null, .int 0, .int 0, .null])), (q_8, .inl (cI, 4000, .inl (fun _ => 0)))] H := hP
  have hD : va_D A [(a_this, .inr (6, [.int 0, .null, .int 0, .int 0, .int 0, .int 0, .null, .null, .null, .null, .null, .int 0, .int 0, .int 0, .int 0, .int 0, .int 0, .long 0, .int 0, .int 0, .null, .int 0, .null, .int 0, .int 0, .null])), (q_8, .inl (cI, 4000, .inl (fun _ => 0)))] := hD
  refine W.widen (k := 1) (n := 4000) (Nat.le_of_ble_eq_true rfl) (Nat.le_of_ble_eq_true rfl) ?_
  refine va_putF (D := D) (ci := 6) (v := .ref q_8) (ty := (.array .int)) (C := RX6) (T := TX6) (N := 26) hx hb ht inX6 tyX6 tyX6_ok nmX6 hown hE.1 hP hD hS 0 rfl rfl 1 (by decide) (ht _ kw_515) (fun _ h9 => h9) rfl hnm rfl (by decide +kernel) rfl rfl (Nat.le_of_ble_eq_true rfl) dX6_init_10 (fun H locs hP hD hS => ?_)
  have hP : va_P D vwCl [(a_this, .inr (6, [.int 0, .ref q_8, .int 0, .int 0, .int 0, .int 0, .null, .null, .null, .null, .null, .int 0, .int 0, .int 0, .int 0, .int 0, .int 0, .long 0, .int 0, .int 0, .null, .int 0, .null, .int 0, .int 0, .null])), (q_8, .inl (cI, 4000, .inl (fun _ => 0)))] H := hP
  have hD : va_D A [(a_this, .inr (6, [.int 0, .ref q_8, .int 0, .int 0, .int 0, .int 0, .null, .null, .null, .null, .null, .int 0, .int 0, .int 0, .int 0, .int 0, .int 0, .long 0, .int 0, .int 0, .null, .int 0, .null, .int 0, .int 0, .null])), (q_8, .inl (cI, 4000, .inl (fun _ => 0)))] := hD
  refine lv_aload_n hx hb dX6_init_13 rfl (lv_at hl 0 rfl) ?_
  refine lv_iconst (v := -1) hx hb dX6_init_14 (by decide) ?_
  refine va_put (D := D) (ci := 6) (v := .int (-1)) (ty := .int) (C := RX6) (T := TX6) (N := 26) hx hb ht inX6 tyX6 tyX6_ok nmX6 hown hE.1 hP hD hS 0 rfl rfl 3 (by decide) (ht _ kw_517) (fun _ h9 => h9) rfl (by decide +kernel) rfl rfl (Nat.le_of_ble_eq_true rfl) dX6_init_15 (fun H locs hP hD hS => ?_)
  have hP : va_P D vwCl [(a_this, .inr (6, [.int 0, .ref q_8, .int 0, .int (-1), .int 0, .int 0, .null, .null, .null, .null, .null, .int 0, .int 0, .int 0, .int 0, .int 0, .int 0, .long 0, .int 0, .int 0, .null, .int 0, .null, .int 0, .int 0, .null])), (q_8, .inl (cI, 4000, .inl (fun _ => 0)))] H := hP
  have hD : va_D A [(a_this, .inr (6, [.int 0, .ref q_8, .int 0, .int (-1), .int 0, .int 0, .null, .null, .null, .null, .null, .int 0, .int 0, .int 0, .int 0, .int 0, .int 0, .long 0, .int 0, .int 0, .null, .int 0, .null, .int 0, .int 0, .null])), (q_8, .inl (cI, 4000, .inl (fun _ => 0)))] := hD
  refine lv_aload_n hx hb dX6_init_18 rfl (lv_at hl 0 rfl) ?_
  refine lv_iconst (v := -1) hx hb dX6_init_19 (by decide) ?_
  refine va_put (D := D) (ci := 6) (v := .int (-1)) (ty := .int) (C := RX6) (T := TX6) (N := 26) hx hb ht inX6 tyX6 tyX6_ok nmX6 hown hE.1 hP hD hS 0 rfl rfl 4 (by decide) (ht _ kw_518) (fun _ h9 => h9) rfl (by decide +kernel) rfl rfl (Nat.le_of_ble_eq_true rfl) dX6_init_20 (fun H locs hP hD hS => ?_)
  have hP : va_P D vwCl [(a_this, .inr (6, [.int 0, .ref q_8, .int 0, .int (-1), .int (-1), .int 0, .null, .null, .null, .null, .null, .int 0, .int 0, .int 0, .int 0, .int 0, .int 0, .long 0, .int 0, .int 0, .null, .int 0, .null, .int 0, .int 0, .null])), (q_8, .inl (cI, 4000, .inl (fun _ => 0)))] H := hP
  have hD : va_D A [(a_this, .inr (6, [.int 0, .ref q_8, .int 0, .int (-1), .int (-1), .int 0, .null, .null, .null, .null, .null, .int 0, .int 0, .int 0, .int 0, .int 0, .int 0, .long 0, .int 0, .int 0, .null, .int 0, .null, .int 0, .int 0, .null])), (q_8, .inl (cI, 4000, .inl (fun _ => 0)))] := hD
  refine lv_aload_n hx hb dX6_init_23 rfl (lv_at hl 0 rfl) ?_
  refine lv_bipush (v := 64) hx hb dX6_init_24 (by decide) ?_
  refine k_newa (atype := .int) (a0 := (64, .inl (fun _ => 0))) (ty := .int) hx hb (ht _ kw_72) rfl hE.1 1 rfl (fun _ h1 h2 => Option.some.inj (h1.symm.trans h2)) hP hD hS hA (fun _ => rfl) (by decide) (N' := 64) (by decide) (by decide) (Nat.le_of_ble_eq_true rfl) (Nat.le_of_ble_eq_true rfl) dX6_init_26 (fun q_26 H hP hD hS => ?_)
  have hP : va_P D vwCl [(a_this, .inr (6, [.int 0, .ref q_8, .int 0, .int (-1), .int (-1), .int 0, .null, .null, .null, .null, .null, .int 0, .int 0, .int 0, .int 0, .int 0, .int 0, .long 0, .int 0, .int 0, .null, .int 0, .null, .int 0, .int 0, .null])), (q_8, .inl (cI, 4000, .inl (fun _ => 0))), (q_26, .inl (cI, 64, .inl (fun _ => 0)))] H := hP
  have hD : va_D A [(a_this, .inr (6, [.int 0, .ref q_8, .int 0, .int (-1), .int (-1), .int 0, .null, .null, .null, .null, .null, .int 0, .int 0, .int 0, .int 0, .int 0, .int 0, .long 0, .int 0, .int 0, .null, .int 0, .null, .int 0, .int 0, .null])), (q_8, .inl (cI, 4000, .inl (fun _ => 0))), (q_26, .inl (cI, 64, .inl (fun _ => 0)))] := hD
  refine W.widen (k := 2) (n := 4064) (Nat.le_of_ble_eq_true rfl) (Nat.le_of_ble_eq_true rfl) ?_
  refine va_putF (D := D) (ci := 6) (v := .ref q_26) (ty := (.array .int)) (C := RX6) (T := TX6) (N := 26) hx hb ht inX6 tyX6 tyX6_ok nmX6 hown hE.1 hP hD hS 0 rfl rfl 6 (by decide) (ht _ kw_520) (fun _ h9 => h9) rfl hnm rfl (by decide +kernel) rfl rfl (Nat.le_of_ble_eq_true rfl) dX6_init_28 (fun H locs hP hD hS => ?_)
  have hP : va_P D vwCl [(a_this, .inr (6, [.int 0, .ref q_8, .int 0, .int (-1), .int (-1), .int 0, .ref q_26, .null, .null, .null, .null, .int 0, .int 0, .int 0, .int 0, .int 0, .int 0, .long 0, .int 0, .int 0, .null, .int 0, .null, .int 0, .int 0, .null])), (q_8, .inl (cI, 4000, .inl (fun _ => 0))), (q_26, .inl (cI, 64, .inl (fun _ => 0)))] H := hP
  have hD : va_D A [(a_this, .inr (6, [.int 0, .ref q_8, .int 0, .int (-1), .int (-1), .int 0, .ref q_26, .null, .null, .null, .null, .int 0, .int 0, .int 0, .int 0, .int 0, .int 0, .long 0, .int 0, .int 0, .null, .int 0, .null, .int 0, .int 0, .null])), (q_8, .inl (cI, 4000, .inl (fun _ => 0))), (q_26, .inl (cI, 64, .inl (fun _ => 0)))] := hD
  refine lv_aload_n hx hb dX6_init_31 rfl (lv_at hl 0 rfl) ?_
  refine lv_bipush (v := 64) hx hb dX6_init_32 (by decide) ?_
  refine k_newa (atype := .int) (a0 := (64, .inl (fun _ => 0))) (ty := .int) hx hb (ht _ kw_72) rfl hE.1 1 rfl (fun _ h1 h2 => Option.some.inj (h1.symm.trans h2)) hP hD hS hA (fun _ => rfl) (by decide) (N' := 64) (by decide) (by decide) (Nat.le_of_ble_eq_true rfl) (Nat.le_of_ble_eq_true rfl) dX6_init_34 (fun q_34 H hP hD hS => ?_)
  have hP : va_P D vwCl [(a_this, .inr (6, [.int 0, .ref q_8, .int 0, .int (-1), .int (-1), .int 0, .ref q_26, .null, .null, .null, .null, .int 0, .int 0, .int 0, .int 0, .int 0, .int 0, .long 0, .int 0, .int 0, .null, .int 0, .null, .int 0, .int 0, .null])), (q_8, .inl (cI, 4000, .inl (fun _ => 0))), (q_26, .inl (cI, 64, .inl (fun _ => 0))), (q_34, .inl (cI, 64, .inl (fun _ => 0)))] H := hP
  have hD : va_D A [(a_this, .inr (6, [.int 0, .ref q_8, .int 0, .int (-1), .int (-1), .int 0, .ref q_26, .null, .null, .null, .null, .int 0, .int 0, .int 0, .int 0, .int 0, .int 0, .long 0, .int 0, .int 0, .null, .int 0, .null, .int 0, .int 0, .null])), (q_8, .inl (cI, 4000, .inl (fun _ => 0))), (q_26, .inl (cI, 64, .inl (fun _ => 0))), (q_34, .inl (cI, 64, .inl (fun _ => 0)))] := hD
  refine W.widen (k := 3) (n := 4128) (Nat.le_of_ble_eq_true rfl) (Nat.le_of_ble_eq_true rfl) ?_
  refine va_putF (D := D) (ci := 6) (v := .ref q_34) (ty := (.array .int)) (C := RX6) (T := TX6) (N := 26) hx hb ht inX6 tyX6 tyX6_ok nmX6 hown hE.1 hP hD hS 0 rfl rfl 7 (by decide) (ht _ kw_521) (fun _ h9 => h9) rfl hnm rfl (by decide +kernel) rfl rfl (Nat.le_of_ble_eq_true rfl) dX6_init_36 (fun H locs hP hD hS => ?_)
  have hP : va_P D vwCl [(a_this, .inr (6, [.int 0, .ref q_8, .int 0, .int (-1), .int (-1), .int 0, .ref q_26, .ref q_34, .null, .null, .null, .int 0, .int 0, .int 0, .int 0, .int 0, .int 0, .long 0, .int 0, .int 0, .null, .int 0, .null, .int 0, .int 0, .null])), (q_8, .inl (cI, 4000, .inl (fun _ => 0))), (q_26, .inl (cI, 64, .inl (fun _ => 0))), (q_34, .inl (cI, 64, .inl (fun _ => 0)))] H := hP
  have hD : va_D A [(a_this, .inr (6, [.int 0, .ref q_8, .int 0, .int (-1), .int (-1), .int 0, .ref q_26, .ref q_34, .null, .null, .null, .int 0, .int 0, .int 0, .int 0, .int 0, .int 0, .long 0, .int 0, .int 0, .null, .int 0, .null, .int 0, .int 0, .null])), (q_8, .inl (cI, 4000, .inl (fun _ => 0))), (q_26, .inl (cI, 64, .inl (fun _ => 0))), (q_34, .inl (cI, 64, .inl (fun _ => 0)))] := hD
  refine lv_aload_n hx hb dX6_init_39 rfl (lv_at hl 0 rfl) ?_
  refine lv_bipush (v := 64) hx hb dX6_init_40 (by decide) ?_
  refine k_newa (atype := .int) (a0 := (64, .inl (fun _ => 0))) (ty := .int) hx hb (ht _ kw_72) rfl hE.1 1 rfl (fun _ h1 h2 => Option.some.inj (h1.symm.trans h2)) hP hD hS hA (fun _ => rfl) (by decide) (N' := 64) (by decide) (by decide) (Nat.le_of_ble_eq_true rfl) (Nat.le_of_ble_eq_true rfl) dX6_init_42 (fun q_42 H hP hD hS => ?_)
  have hP : va_P D vwCl [(a_this, .inr (6, [.int 0, .ref q_8, .int 0, .int (-1), .int (-1), .int 0, .ref q_26, .ref q_34, .null, .null, .null, .int 0, .int 0, .int 0, .int 0, .int 0, .int 0, .long 0, .int 0, .int 0, .null, .int 0, .null, .int 0, .int 0, .null])), (q_8, .inl (cI, 4000, .inl (fun _ => 0))), (q_26, .inl (cI, 64, .inl (fun _ => 0))), (q_34, .inl (cI, 64, .inl (fun _ => 0))), (q_42, .inl (cI, 64, .inl (fun _ => 0)))] H := hP
  have hD : va_D A [(a_this, .inr (6, [.int 0, .ref q_8, .int 0, .int (-1), .int (-1), .int 0, .ref q_26, .ref q_34, .null, .null, .null, .int 0, .int 0, .int 0, .int 0, .int 0, .int 0, .long 0, .int 0, .int 0, .null, .int 0, .null, .int 0, .int 0, .null])), (q_8, .inl (cI, 4000, .inl (fun _ => 0))), (q_26, .inl (cI, 64, .inl (fun _ => 0))), (q_34, .inl (cI, 64, .inl (fun _ => 0))), (q_42, .inl (cI, 64, .inl (fun _ => 0)))] := hD
  refine W.widen (k := 4) (n := 4192) (Nat.le_of_ble_eq_true rfl) (Nat.le_of_ble_eq_true rfl) ?_
  refine va_putF (D := D) (ci := 6) (v := .ref q_42) (ty := (.array .int)) (C := RX6) (T := TX6) (N := 26) hx hb ht inX6 tyX6 tyX6_ok nmX6 hown hE.1 hP hD hS 0 rfl rfl 8 (by decide) (ht _ kw_522) (fun _ h9 => h9) rfl hnm rfl (by decide +kernel) rfl rfl (Nat.le_of_ble_eq_true rfl) dX6_init_44 (fun H locs hP hD hS => ?_)
  have hP : va_P D vwCl [(a_this, .inr (6, [.int 0, .ref q_8, .int 0, .int (-1), .int (-1), .int 0, .ref q_26, .ref q_34, .ref q_42, .null, .null, .int 0, .int 0, .int 0, .int 0, .int 0, .int 0, .long 0, .int 0, .int 0, .null, .int 0, .null, .int 0, .int 0, .null])), (q_8, .inl (cI, 4000, .inl (fun _ => 0))), (q_26, .inl (cI, 64, .inl (fun _ => 0))), (q_34, .inl (cI, 64, .inl (fun _ => 0))), (q_42, .inl (cI, 64, .inl (fun _ => 0)))] H := hP
  have hD : va_D A [(a_this, .inr (6, [.int 0, .ref q_8, .int 0, .int (-1), .int (-1), .int 0, .ref q_26, .ref q_34, .ref q_42, .null, .null, .int 0, .int 0, .int 0, .int 0, .int 0, .int 0, .long 0, .int 0, .int 0, .null, .int 0, .null, .int 0, .int 0, .null])), (q_8, .inl (cI, 4000, .inl (fun _ => 0))), (q_26, .inl (cI, 64, .inl (fun _ => 0))), (q_34, .inl (cI, 64, .inl (fun _ => 0))), (q_42, .inl (cI, 64, .inl (fun _ => 0)))] := hD
  refine lv_aload_n hx hb dX6_init_47 rfl (lv_at hl 0 rfl) ?_
  refine lv_bipush (v := 64) hx hb dX6_init_48 (by decide) ?_
  refine k_newa (atype := .int) (a0 := (64, .inl (fun _ => 0))) (ty := .int) hx hb (ht _ kw_72) rfl hE.1 1 rfl (fun _ h1 h2 => Option.some.inj (h1.symm.trans h2)) hP hD hS hA (fun _ => rfl) (by decide) (N' := 64) (by decide) (by decide) (Nat.le_of_ble_eq_true rfl) (Nat.le_of_ble_eq_true rfl) dX6_init_50 (fun q_50 H hP hD hS => ?_)
  have hP : va_P D vwCl [(a_this, .inr (6, [.int 0, .ref q_8, .int 0, .int (-1), .int (-1), .int 0, .ref q_26, .ref q_34, .ref q_42, .null, .null, .int 0, .int 0, .int 0, .int 0, .int 0, .int 0, .long 0, .int 0, .int 0, .null, .int 0, .null, .int 0, .int 0, .null])), (q_8, .inl (cI, 4000, .inl (fun _ => 0))), (q_26, .inl (cI, 64, .inl (fun _ => 0))), (q_34, .inl (cI, 64, .inl (fun _ => 0))), (q_42, .inl (cI, 64, .inl (fun _ => 0))), (q_50, .inl (cI, 64, .inl (fun _ => 0)))] H := hP
  have hD : va_D A [(a_this, .inr (6, [.int 0, .ref q_8, .int 0, .int (-1), .int (-1), .int 0, .ref q_26, .ref q_34, .ref q_42, .null, .null, .int 0, .int 0, .int 0, .int 0, .int 0, .int 0, .long 0, .int 0, .int 0, .null, .int 0, .null, .int 0, .int 0, .null])), (q_8, .inl (cI, 4000, .inl (fun _ => 0))), (q_26, .inl (cI, 64, .inl (fun _ => 0))), (q_34, .inl (cI, 64, .inl (fun _ => 0))), (q_42, .inl (cI, 64, .inl (fun _ => 0))), (q_50, .inl (cI, 64, .inl (fun _ => 0)))] := hD
  refine W.widen (k := 5) (n := 4256) (Nat.le_of_ble_eq_true rfl) (Nat.le_of_ble_eq_true rfl) ?_
  refine va_putF (D := D) (ci := 6) (v := .ref q_50) (ty := (.array .int)) (C := RX6) (T := TX6) (N := 26) hx hb ht inX6 tyX6 tyX6_ok nmX6 hown hE.1 hP hD hS 0 rfl rfl 9 (by decide) (ht _ kw_523) (fun _ h9 => h9) rfl hnm rfl (by decide +kernel) rfl rfl (Nat.le_of_ble_eq_true rfl) dX6_init_52 (fun H locs hP hD hS => ?_)
  have hP : va_P D vwCl [(a_this, .inr (6, [.int 0, .ref q_8, .int 0, .int (-1), .int (-1), .int 0, .ref q_26, .ref q_34, .ref q_42, .ref q_50, .null, .int 0, .int 0, .int 0, .int 0, .int 0, .int 0, .long 0, .int 0, .int 0, .null, .int 0, .null, .int 0, .int 0, .null])), (q_8, .inl (cI, 4000, .inl (fun _ => 0))), (q_26, .inl (cI, 64, .inl (fun _ => 0))), (q_34, .inl (cI, 64, .inl (fun _ => 0))), (q_42, .inl (cI, 64, .inl (fun _ => 0))), (q_50, .inl (cI, 64, .inl (fun _ => 0)))] H := hP
  have hD : va_D A [(a_this, .inr (6, [.int 0, .ref q_8, .int 0, .int (-1), .int (-1), .int 0, .ref q_26, .ref q_34, .ref q_42, .ref q_50, .null, .int 0, .int 0, .int 0, .int 0, .int 0, .int 0, .long 0, .int 0, .int 0, .null, .int 0, .null, .int 0, .int 0, .null])), (q_8, .inl (cI, 4000, .inl (fun _ => 0))), (q_26, .inl (cI, 64, .inl (fun _ => 0))), (q_34, .inl (cI, 64, .inl (fun _ => 0))), (q_42, .inl (cI, 64, .inl (fun _ => 0))), (q_50, .inl (cI, 64, .inl (fun _ => 0)))] := hD
  refine lv_aload_n hx hb dX6_init_55 rfl (lv_at hl 0 rfl) ?_
  refine lv_sipush (v := 4200) hx hb dX6_init_56 (by decide) ?_
  refine k_newa (atype := .long) (a0 := (4200, .inr (.inl (fun _ => 0)))) (ty := .long) hx hb (ht _ kw_73) rfl hE.1 2 rfl (fun _ h1 h2 => Option.some.inj (h1.symm.trans h2)) hP hD hS hA (fun _ => rfl) (by decide) (N' := 4200) (by decide) (by decide) (Nat.le_of_ble_eq_true rfl) (Nat.le_of_ble_eq_true rfl) dX6_init_59 (fun q_59 H hP hD hS => ?_)
  have hP : va_P D vwCl [(a_this, .inr (6, [.int 0, .ref q_8, .int 0, .int (-1), .int (-1), .int 0, .ref q_26, .ref q_34, .ref q_42, .ref q_50, .null, .int 0, .int 0, .int 0, .int 0, .int 0, .int 0, .long 0, .int 0, .int 0, .null, .int 0, .null, .int 0, .int 0, .null])), (q_8, .inl (cI, 4000, .inl (fun _ => 0))), (q_26, .inl (cI, 64, .inl (fun _ => 0))), (q_34, .inl (cI, 64, .inl (fun _ => 0))), (q_42, .inl (cI, 64, .inl (fun _ => 0))), (q_50, .inl (cI, 64, .inl (fun _ => 0))), (q_59, .inl (cL, 4200, .inr (.inl (fun _ => 0))))] H := hP
  have hD : va_D A [(a_this, .inr (6, [.int 0, .ref q_8, .int 0, .int (-1), .int (-1), .int 0, .ref q_26, .ref q_34, .ref q_42, .ref q_50, .null, .int 0, .int 0, .int 0, .int 0, .int 0, .int 0, .long 0, .int 0, .int 0, .null, .int 0, .null, .int 0, .int 0, .null])), (q_8, .inl (cI, 4000, .inl (fun _ => 0))), (q_26, .inl (cI, 64, .inl (fun _ => 0))), (q_34, .inl (cI, 64, .inl (fun _ => 0))), (q_42, .inl (cI, 64, .inl (fun _ => 0))), (q_50, .inl (cI, 64, .inl (fun _ => 0))), (q_59, .inl (cL, 4200, .inr (.inl (fun _ => 0))))] := hD
  refine W.widen (k := 6) (n := 8456) (Nat.le_of_ble_eq_true rfl) (Nat.le_of_ble_eq_true rfl) ?_
  refine va_putF (D := D) (ci := 6) (v := .ref q_59) (ty := (.array .long)) (C := RX6) (T := TX6) (N := 26) hx hb ht inX6 tyX6 tyX6_ok nmX6 hown hE.1 hP hD hS 0 rfl rfl 10 (by decide) (ht _ kw_524) (fun _ h9 => h9) rfl hnm rfl (by decide +kernel) rfl rfl (Nat.le_of_ble_eq_true rfl) dX6_init_61 (fun H locs hP hD hS => ?_)
  have hP : va_P D vwCl [(a_this, .inr (6, [.int 0, .ref q_8, .int 0, .int (-1), .int (-1), .int 0, .ref q_26, .ref q_34, .ref q_42, .ref q_50, .ref q_59, .int 0, .int 0, .int 0, .int 0, .int 0, .int 0, .long 0, .int 0, .int 0, .null, .int 0, .null, .int 0, .int 0, .null])), (q_8, .inl (cI, 4000, .inl (fun _ => 0))), (q_26, .inl (cI, 64, .inl (fun _ => 0))), (q_34, .inl (cI, 64, .inl (fun _ => 0))), (q_42, .inl (cI, 64, .inl (fun _ => 0))), (q_50, .inl (cI, 64, .inl (fun _ => 0))), (q_59, .inl (cL, 4200, .inr (.inl (fun _ => 0))))] H := hP
  have hD : va_D A [(a_this, .inr (6, [.int 0, .ref q_8, .int 0, .int (-1), .int (-1), .int 0, .ref q_26, .ref q_34, .ref q_42, .ref q_50, .ref q_59, .int 0, .int 0, .int 0, .int 0, .int 0, .int 0, .long 0, .int 0, .int 0, .null, .int 0, .null, .int 0, .int 0, .null])), (q_8, .inl (cI, 4000, .inl (fun _ => 0))), (q_26, .inl (cI, 64, .inl (fun _ => 0))), (q_34, .inl (cI, 64, .inl (fun _ => 0))), (q_42, .inl (cI, 64, .inl (fun _ => 0))), (q_50, .inl (cI, 64, .inl (fun _ => 0))), (q_59, .inl (cL, 4200, .inr (.inl (fun _ => 0))))] := hD
  refine lv_aload_n hx hb dX6_init_64 rfl (lv_at hl 0 rfl) ?_
  refine lv_sipush (v := 4000) hx hb dX6_init_65 (by decide) ?_
  refine k_newa (atype := .int) (a0 := (4000, .inl (fun _ => 0))) (ty := .int) hx hb (ht _ kw_72) rfl hE.1 1 rfl (fun _ h1 h2 => Option.some.inj (h1.symm.trans h2)) hP hD hS hA (fun _ => rfl) (by decide) (N' := 4000) (by decide) (by decide) (Nat.le_of_ble_eq_true rfl) (Nat.le_of_ble_eq_true rfl) dX6_init_68 (fun q_68 H hP hD hS => ?_)
  have hP : va_P D vwCl [(a_this, .inr (6, [.int 0, .ref q_8, .int 0, .int (-1), .int (-1), .int 0, .ref q_26, .ref q_34, .ref q_42, .ref q_50, .ref q_59, .int 0, .int 0, .int 0, .int 0, .int 0, .int 0, .long 0, .int 0, .int 0, .null, .int 0, .null, .int 0, .int 0, .null])), (q_8, .inl (cI, 4000, .inl (fun _ => 0))), (q_26, .inl (cI, 64, .inl (fun _ => 0))), (q_34, .inl (cI, 64, .inl (fun _ => 0))), (q_42, .inl (cI, 64, .inl (fun _ => 0))), (q_50, .inl (cI, 64, .inl (fun _ => 0))), (q_59, .inl (cL, 4200, .inr (.inl (fun _ => 0)))), (q_68, .inl (cI, 4000, .inl (fun _ => 0)))] H := hP
  have hD : va_D A [(a_this, .inr (6, [.int 0, .ref q_8, .int 0, .int (-1), .int (-1), .int 0, .ref q_26, .ref q_34, .ref q_42, .ref q_50, .ref q_59, .int 0, .int 0, .int 0, .int 0, .int 0, .int 0, .long 0, .int 0, .int 0, .null, .int 0, .null, .int 0, .int 0, .null])), (q_8, .inl (cI, 4000, .inl (fun _ => 0))), (q_26, .inl (cI, 64, .inl (fun _ => 0))), (q_34, .inl (cI, 64, .inl (fun _ => 0))), (q_42, .inl (cI, 64, .inl (fun _ => 0))), (q_50, .inl (cI, 64, .inl (fun _ => 0))), (q_59, .inl (cL, 4200, .inr (.inl (fun _ => 0)))), (q_68, .inl (cI, 4000, .inl (fun _ => 0)))] := hD
  refine W.widen (k := 7) (n := 12456) (Nat.le_of_ble_eq_true rfl) (Nat.le_of_ble_eq_true rfl) ?_
  refine va_putF (D := D) (ci := 6) (v := .ref q_68) (ty := (.array .int)) (C := RX6) (T := TX6) (N := 26) hx hb ht inX6 tyX6 tyX6_ok nmX6 hown hE.1 hP hD hS 0 rfl rfl 20 (by decide) (ht _ kw_534) (fun _ h9 => h9) rfl hnm rfl (by decide +kernel) rfl rfl (Nat.le_of_ble_eq_true rfl) dX6_init_70 (fun H locs hP hD hS => ?_)
  have hP : va_P D vwCl [(a_this, .inr (6, [.int 0, .ref q_8, .int 0, .int (-1), .int (-1), .int 0, .ref q_26, .ref q_34, .ref q_42, .ref q_50, .ref q_59, .int 0, .int 0, .int 0, .int 0, .int 0, .int 0, .long 0, .int 0, .int 0, .ref q_68, .int 0, .null, .int 0, .int 0, .null])), (q_8, .inl (cI, 4000, .inl (fun _ => 0))), (q_26, .inl (cI, 64, .inl (fun _ => 0))), (q_34, .inl (cI, 64, .inl (fun _ => 0))), (q_42, .inl (cI, 64, .inl (fun _ => 0))), (q_50, .inl (cI, 64, .inl (fun _ => 0))), (q_59, .inl (cL, 4200, .inr (.inl (fun _ => 0)))), (q_68, .inl (cI, 4000, .inl (fun _ => 0)))] H := hP
  have hD : va_D A [(a_this, .inr (6, [.int 0, .ref q_8, .int 0, .int (-1), .int (-1), .int 0, .ref q_26, .ref q_34, .ref q_42, .ref q_50, .ref q_59, .int 0, .int 0, .int 0, .int 0, .int 0, .int 0, .long 0, .int 0, .int 0, .ref q_68, .int 0, .null, .int 0, .int 0, .null])), (q_8, .inl (cI, 4000, .inl (fun _ => 0))), (q_26, .inl (cI, 64, .inl (fun _ => 0))), (q_34, .inl (cI, 64, .inl (fun _ => 0))), (q_42, .inl (cI, 64, .inl (fun _ => 0))), (q_50, .inl (cI, 64, .inl (fun _ => 0))), (q_59, .inl (cL, 4200, .inr (.inl (fun _ => 0)))), (q_68, .inl (cI, 4000, .inl (fun _ => 0)))] := hD
  refine lv_aload_n hx hb dX6_init_73 rfl (lv_at hl 0 rfl) ?_
  refine lv_sipush (v := 4000) hx hb dX6_init_74 (by decide) ?_
  refine k_newa (atype := .int) (a0 := (4000, .inl (fun _ => 0))) (ty := .int) hx hb (ht _ kw_72) rfl hE.1 1 rfl (fun _ h1 h2 => Option.some.inj (h1.symm.trans h2)) hP hD hS hA (fun _ => rfl) (by decide) (N' := 4000) (by decide) (by decide) (Nat.le_of_ble_eq_true rfl) (Nat.le_of_ble_eq_true rfl) dX6_init_77 (fun q_77 H hP hD hS => ?_)
  have hP : va_P D vwCl [(a_this, .inr (6, [.int 0, .ref q_8, .int 0, .int (-1), .int (-1), .int 0, .ref q_26, .ref q_34, .ref q_42, .ref q_50, .ref q_59, .int 0, .int 0, .int 0, .int 0, .int 0, .int 0, .long 0, .int 0, .int 0, .ref q_68, .int 0, .null, .int 0, .int 0, .null])), (q_8, .inl (cI, 4000, .inl (fun _ => 0))), (q_26, .inl (cI, 64, .inl (fun _ => 0))), (q_34, .inl (cI, 64, .inl (fun _ => 0))), (q_42, .inl (cI, 64, .inl (fun _ => 0))), (q_50, .inl (cI, 64, .inl (fun _ => 0))), (q_59, .inl (cL, 4200, .inr (.inl (fun _ => 0)))), (q_68, .inl (cI, 4000, .inl (fun _ => 0))), (q_77, .inl (cI, 4000, .inl (fun _ => 0)))] H := hP
  have hD : va_D A [(a_this, .inr (6, [.int 0, .ref q_8, .int 0, .int (-1), .int (-1), .int 0, .ref q_26, .ref q_34, .ref q_42, .ref q_50, .ref q_59, .int 0, .int 0, .int 0, .int 0, .int 0, .int 0, .long 0, .int 0, .int 0, .ref q_68, .int 0, .null, .int 0, .int 0, .null])), (q_8, .inl (cI, 4000, .inl (fun _ => 0))), (q_26, .inl (cI, 64, .inl (fun _ => 0))), (q_34, .inl (cI, 64, .inl (fun _ => 0))), (q_42, .inl (cI, 64, .inl (fun _ => 0))), (q_50, .inl (cI, 64, .inl (fun _ => 0))), (q_59, .inl (cL, 4200, .inr (.inl (fun _ => 0)))), (q_68, .inl (cI, 4000, .inl (fun _ => 0))), (q_77, .inl (cI, 4000, .inl (fun _ => 0)))] := hD
  refine W.widen (k := 8) (n := 16456) (Nat.le_of_ble_eq_true rfl) (Nat.le_of_ble_eq_true rfl) ?_
  refine va_putF (D := D) (ci := 6) (v := .ref q_77) (ty := (.array .int)) (C := RX6) (T := TX6) (N := 26) hx hb ht inX6 tyX6 tyX6_ok nmX6 hown hE.1 hP hD hS 0 rfl rfl 22 (by decide) (ht _ kw_536) (fun _ h9 => h9) rfl hnm rfl (by decide +kernel) rfl rfl (Nat.le_of_ble_eq_true rfl) dX6_init_79 (fun H locs hP hD hS => ?_)
  have hP : va_P D vwCl [(a_this, .inr (6, [.int 0, .ref q_8, .int 0, .int (-1), .int (-1), .int 0, .ref q_26, .ref q_34, .ref q_42, .ref q_50, .ref q_59, .int 0, .int 0, .int 0, .int 0, .int 0, .int 0, .long 0, .int 0, .int 0, .ref q_68, .int 0, .ref q_77, .int 0, .int 0, .null])), (q_8, .inl (cI, 4000, .inl (fun _ => 0))), (q_26, .inl (cI, 64, .inl (fun _ => 0))), (q_34, .inl (cI, 64, .inl (fun _ => 0))), (q_42, .inl (cI, 64, .inl (fun _ => 0))), (q_50, .inl (cI, 64, .inl (fun _ => 0))), (q_59, .inl (cL, 4200, .inr (.inl (fun _ => 0)))), (q_68, .inl (cI, 4000, .inl (fun _ => 0))), (q_77, .inl (cI, 4000, .inl (fun _ => 0)))] H := hP
  have hD : va_D A [(a_this, .inr (6, [.int 0, .ref q_8, .int 0, .int (-1), .int (-1), .int 0, .ref q_26, .ref q_34, .ref q_42, .ref q_50, .ref q_59, .int 0, .int 0, .int 0, .int 0, .int 0, .int 0, .long 0, .int 0, .int 0, .ref q_68, .int 0, .ref q_77, .int 0, .int 0, .null])), (q_8, .inl (cI, 4000, .inl (fun _ => 0))), (q_26, .inl (cI, 64, .inl (fun _ => 0))), (q_34, .inl (cI, 64, .inl (fun _ => 0))), (q_42, .inl (cI, 64, .inl (fun _ => 0))), (q_50, .inl (cI, 64, .inl (fun _ => 0))), (q_59, .inl (cL, 4200, .inr (.inl (fun _ => 0)))), (q_68, .inl (cI, 4000, .inl (fun _ => 0))), (q_77, .inl (cI, 4000, .inl (fun _ => 0)))] := hD
  refine lv_aload_n hx hb dX6_init_82 rfl (lv_at hl 0 rfl) ?_
  refine lv_bipush (v := 20) hx hb dX6_init_83 (by decide) ?_
  refine k_newa (atype := .int) (a0 := (20, .inl (fun _ => 0))) (ty := .int) hx hb (ht _ kw_72) rfl hE.1 1 rfl (fun _ h1 h2 => Option.some.inj (h1.symm.trans h2)) hP hD hS hA (fun _ => rfl) (by decide) (N' := 20) (by decide) (by decide) (Nat.le_of_ble_eq_true rfl) (Nat.le_of_ble_eq_true rfl) dX6_init_85 (fun q_85 H hP hD hS => ?_)
  have hP : va_P D vwCl [(a_this, .inr (6, [.int 0, .ref q_8, .int 0, .int (-1), .int (-1), .int 0, .ref q_26, .ref q_34, .ref q_42, .ref q_50, .ref q_59, .int 0, .int 0, .int 0, .int 0, .int 0, .int 0, .long 0, .int 0, .int 0, .ref q_68, .int 0, .ref q_77, .int 0, .int 0, .null])), (q_8, .inl (cI, 4000, .inl (fun _ => 0))), (q_26, .inl (cI, 64, .inl (fun _ => 0))), (q_34, .inl (cI, 64, .inl (fun _ => 0))), (q_42, .inl (cI, 64, .inl (fun _ => 0))), (q_50, .inl (cI, 64, .inl (fun _ => 0))), (q_59, .inl (cL, 4200, .inr (.inl (fun _ => 0)))), (q_68, .inl (cI, 4000, .inl (fun _ => 0))), (q_77, .inl (cI, 4000, .inl (fun _ => 0))), (q_85, .inl (cI, 20, .inl (fun _ => 0)))] H := hP
  have hD : va_D A [(a_this, .inr (6, [.int 0, .ref q_8, .int 0, .int (-1), .int (-1), .int 0, .ref q_26, .ref q_34, .ref q_42, .ref q_50, .ref q_59, .int 0, .int 0, .int 0, .int 0, .int 0, .int 0, .long 0, .int 0, .int 0, .ref q_68, .int 0, .ref q_77, .int 0, .int 0, .null])), (q_8, .inl (cI, 4000, .inl (fun _ => 0))), (q_26, .inl (cI, 64, .inl (fun _ => 0))), (q_34, .inl (cI, 64, .inl (fun _ => 0))), (q_42, .inl (cI, 64, .inl (fun _ => 0))), (q_50, .inl (cI, 64, .inl (fun _ => 0))), (q_59, .inl (cL, 4200, .inr (.inl (fun _ => 0)))), (q_68, .inl (cI, 4000, .inl (fun _ => 0))), (q_77, .inl (cI, 4000, .inl (fun _ => 0))), (q_85, .inl (cI, 20, .inl (fun _ => 0)))] := hD
  refine W.widen (k := 9) (n := 16476) (Nat.le_of_ble_eq_true rfl) (Nat.le_of_ble_eq_true rfl) ?_
  refine va_putF (D := D) (ci := 6) (v := .ref q_85) (ty := (.array .int)) (C := RX6) (T := TX6) (N := 26) hx hb ht inX6 tyX6 tyX6_ok nmX6 hown hE.1 hP hD hS 0 rfl rfl 25 (by decide) (ht _ kw_539) (fun _ h9 => h9) rfl hnm rfl (by decide +kernel) rfl rfl (Nat.le_of_ble_eq_true rfl) dX6_init_87 (fun H locs hP hD hS => ?_)
  have hP : va_P D vwCl [(a_this, .inr (6, [.int 0, .ref q_8, .int 0, .int (-1), .int (-1), .int 0, .ref q_26, .ref q_34, .ref q_42, .ref q_50, .ref q_59, .int 0, .int 0, .int 0, .int 0, .int 0, .int 0, .long 0, .int 0, .int 0, .ref q_68, .int 0, .ref q_77, .int 0, .int 0, .ref q_85])), (q_8, .inl (cI, 4000, .inl (fun _ => 0))), (q_26, .inl (cI, 64, .inl (fun _ => 0))), (q_34, .inl (cI, 64, .inl (fun _ => 0))), (q_42, .inl (cI, 64, .inl (fun _ => 0))), (q_50, .inl (cI, 64, .inl (fun _ => 0))), (q_59, .inl (cL, 4200, .inr (.inl (fun _ => 0)))), (q_68, .inl (cI, 4000, .inl (fun _ => 0))), (q_77, .inl (cI, 4000, .inl (fun _ => 0))), (q_85, .inl (cI, 20, .inl (fun _ => 0)))] H := hP
  have hD : va_D A [(a_this, .inr (6, [.int 0, .ref q_8, .int 0, .int (-1), .int (-1), .int 0, .ref q_26, .ref q_34, .ref q_42, .ref q_50, .ref q_59, .int 0, .int 0, .int 0, .int 0, .int 0, .int 0, .long 0, .int 0, .int 0, .ref q_68, .int 0, .ref q_77, .int 0, .int 0, .ref q_85])), (q_8, .inl (cI, 4000, .inl (fun _ => 0))), (q_26, .inl (cI, 64, .inl (fun _ => 0))), (q_34, .inl (cI, 64, .inl (fun _ => 0))), (q_42, .inl (cI, 64, .inl (fun _ => 0))), (q_50, .inl (cI, 64, .inl (fun _ => 0))), (q_59, .inl (cL, 4200, .inr (.inl (fun _ => 0)))), (q_68, .inl (cI, 4000, .inl (fun _ => 0))), (q_77, .inl (cI, 4000, .inl (fun _ => 0))), (q_85, .inl (cI, 20, .inl (fun _ => 0)))] := hD
  exact kRet_n (fun i => ([q_8, q_26, q_34, q_42, q_50, q_59, q_68, q_77, q_85] : List Nat).getD i 0) C hP hD hS dX6_init_90
end
section
def R_law : String := "LinkTextLaw"
def lw_P (b : Addr) (xs : List Int32) (args : Array Value) (s : State) : Prop := args = #[.ref b] ∧ s.IntsAt b xs ∧ xs.length ≤ 6 ∧ (Jvm.Cond.and given_1 narrow_1).before args s = true
def lw_Q (_ : Array Value) (s : State) (o : Outcome) (t : State) : Prop := o = .returned (some (.int 1)) ∧ Framed s o t [] 24 28790
def lw_Z (below : List Frame) (a : Array Value) (s : State) : State → Prop := fun t => ∃ o, t.status = .running ∧ Ended t below o ∧ lw_Q a s o t
theorem lw_ret {p : Program} {l : Launch} {e : Env} {s : State} {m : MethodId} {below : List Frame} {meth : Method} {c : Code} {b : Nat} (hx : p.tables.exec = Jvm.exec) (hb : c.code = code) (hr : meth.sig.returnType = ret) (hlocks : meth.locks = false) {pc : Nat} {H : Heap} {ls : Array Slot} (hdg : decode code pc = .ok (.ireturn, 1)) : W p l e room_1 s m #[Value.ref b] below meth c H [] 24 28790 (lw_Z below #[Value.ref b] s) (F0 m pc ls [.int 1]) := by
  intro T hT X
  obtain ⟨fs, hret, hrun, hended, hW, hframe⟩ := X.leave (v := some (.int 1)) (hlocks := hlocks) (fun h => by rw [hr] at h; cases h)
  have hmeth' : T.vm.method? m = some meth := X.method'
  refine ⟨T.setFrames fs, ?_, .returned (some (.int 1)), hrun, hended, rfl, ⟨_, rfl⟩, hW, hframe⟩
  jvm_step X.here [X.here.top, hx, hb, hdg, hmeth', hr, ret, narrow_b1]
  (try refine ⟨rfl, ?_⟩); (try refine ⟨rfl, ?_⟩)
  first | (intro acts; rw [hret _ acts rfl rfl rfl]) | rw [hret _ _ rfl rfl rfl]
  exact Steps.refl _
def lw_At (p : Program) (s : State) (m : MethodId) (meth : Method) (c : Code) (b L : Nat) (xs : Nat → Int32) : Prop :=
  p.tables.exec = Jvm.exec ∧ c.code = code ∧ meth.sig.returnType = ret ∧ c.maxLocals = 4 ∧ s.vm.findClass R_law = some m.cls ∧ (∀ w ∈ lw_tbl, w.before #[Value.ref b] s = true) ∧ va_X b L xs s s.heap ∧ b < s.heap.size ∧ meth.locks = false ∧ (Jvm.Cond.and given_1 narrow_1).before #[Value.ref b] s = true
def m_L_law_J341 (xs : Nat → Int32) (L : Nat) (b_18 : Int32 → Int32 → Int32 → (Nat → Int32) → Int32 → Int32 → (Nat → Int32) → Int32 → Int32 → (Nat → Int32) → (Nat → Int32) → (Nat → Int32) → (Nat → Int32) → (Nat → Int64) → Int32 → Int32 → Int32 → Int32 → Int32 → Int32 → Int64 → Int32 → Int32 → Int32 → Int32 → Int32 → Int32 → Int32 → Int32 → Int32 → Int32 → Int32 → Int32 → (Nat → Int32) → (Nat → Int32) → (Nat → Int32) → (Nat → Int32) → (Nat → Int32) → (Nat → Int64) → (Nat → Int32) → Int32 → Option Int32) (xx_e : Int32) (tp_c : Int32) (tp_o : Int32) (tp_b : Nat → Int32) (pp_c : Int32) (pp_o : Int32) (pp_b : Nat → Int32) (ln_c : Int32) (ln_m : Int32) (ln_k : Nat → Int32) (ln_p : Nat → Int32) (ln_f : Nat → Int32) (ln_s : Nat → Int32) (ln_n : Nat → Int64) (rd_f : Int32) (rd_p : Int32) (tk_e : Int32) (tk_s : Int32) (tk_p : Int32) (tk_h : Int32) (tk_v : Int64) (tk_f : Int32) (mo_taped : Int32) (mo_fault : Int32) (mo_place : Int32) (mo_lines : Int32) (mo_used : Int32) (mo_state : Int32) (mo_at : Int32) (mo_from : Int32) (mo_printed : Int32) (mo_written : Int32) (mo_over : Int32) (mo_tapeA : Nat → Int32) (mo_kindA : Nat → Int32) (mo_firstA : Nat → Int32) (mo_countA : Nat → Int32) (mo_beginsA : Nat → Int32) (mo_numbersA : Nat → Int64) (mo_outA : Nat → Int32) (x3 : Int32) : Option Int32 :=
  o_let (x3 + 6) (fun t_1 =>
  b_18 xx_e tp_c tp_o tp_b pp_c pp_o pp_b ln_c ln_m ln_k ln_p ln_f ln_s ln_n rd_f rd_p tk_e tk_s tk_p tk_h tk_v tk_f mo_taped mo_fault mo_place mo_lines mo_used mo_state mo_at mo_from mo_printed mo_written mo_over mo_tapeA mo_kindA mo_firstA mo_countA mo_beginsA mo_numbersA mo_outA t_1)
def m_L_law_J333 (xs : Nat → Int32) (L : Nat) (b_18 : Int32 → Int32 → Int32 → (Nat → Int32) → Int32 → Int32 → (Nat → Int32) → Int32 → Int32 → (Nat → Int32) → (Nat → Int32) → (Nat → Int32) → (Nat → Int32) → (Nat → Int64) → Int32 → Int32 → Int32 → Int32 → Int32 → Int32 → Int64 → Int32 → Int32 → Int32 → Int32 → Int32 → Int32 → Int32 → Int32 → Int32 → Int32 → Int32 → Int32 → (Nat → Int32) → (Nat → Int32) → (Nat → Int32) → (Nat → Int32) → (Nat → Int32) → (Nat → Int64) → (Nat → Int32) → Int32 → Option Int32) (xx_e : Int32) (tp_c : Int32) (tp_o : Int32) (tp_b : Nat → Int32) (pp_c : Int32) (pp_o : Int32) (pp_b : Nat → Int32) (ln_c : Int32) (ln_m : Int32) (ln_k : Nat → Int32) (ln_p : Nat → Int32) (ln_f : Nat → Int32) (ln_s : Nat → Int32) (ln_n : Nat → Int64) (rd_f : Int32) (rd_p : Int32) (tk_e : Int32) (tk_s : Int32) (tk_p : Int32) (tk_h : Int32) (tk_v : Int64) (tk_f : Int32) (mo_taped : Int32) (mo_fault : Int32) (mo_place : Int32) (mo_lines : Int32) (mo_used : Int32) (mo_state : Int32) (mo_at : Int32) (mo_from : Int32) (mo_printed : Int32) (mo_written : Int32) (mo_over : Int32) (mo_tapeA : Nat → Int32) (mo_kindA : Nat → Int32) (mo_firstA : Nat → Int32) (mo_countA : Nat → Int32) (mo_beginsA : Nat → Int32) (mo_numbersA : Nat → Int64) (mo_outA : Nat → Int32) (x3 : Int32) (s0 : Int32) (s2 : Int32) : Option Int32 :=
  o_b (m_X6_wipe mo_taped mo_printed mo_tapeA mo_outA s0) (fun r_2 =>
  if s2 = r_2.1 then (m_L_law_J341 xs L b_18 xx_e tp_c tp_o tp_b pp_c pp_o pp_b ln_c ln_m ln_k ln_p ln_f ln_s ln_n rd_f rd_p tk_e tk_s tk_p tk_h tk_v tk_f r_2.2.1 mo_fault mo_place mo_lines mo_used mo_state mo_at mo_from r_2.2.2.1 mo_written mo_over r_2.2.2.2 mo_kindA mo_firstA mo_countA mo_beginsA mo_numbersA mo_outA x3)
  else (some (0 : Int32)))
def m_L_law_J316 (xs : Nat → Int32) (L : Nat) (b_18 : Int32 → Int32 → Int32 → (Nat → Int32) → Int32 → Int32 → (Nat → Int32) → Int32 → Int32 → (Nat → Int32) → (Nat → Int32) → (Nat → Int32) → (Nat → Int32) → (Nat → Int64) → Int32 → Int32 → Int32 → Int32 → Int32 → Int32 → Int64 → Int32 → Int32 → Int32 → Int32 → Int32 → Int32 → Int32 → Int32 → Int32 → Int32 → Int32 → Int32 → (Nat → Int32) → (Nat → Int32) → (Nat → Int32) → (Nat → Int32) → (Nat → Int32) → (Nat → Int64) → (Nat → Int32) → Int32 → Option Int32) (xx_e : Int32) (tp_c : Int32) (tp_o : Int32) (tp_b : Nat → Int32) (pp_c : Int32) (pp_o : Int32) (pp_b : Nat → Int32) (ln_c : Int32) (ln_m : Int32) (ln_k : Nat → Int32) (ln_p : Nat → Int32) (ln_f : Nat → Int32) (ln_s : Nat → Int32) (ln_n : Nat → Int64) (rd_f : Int32) (rd_p : Int32) (tk_e : Int32) (tk_s : Int32) (tk_p : Int32) (tk_h : Int32) (tk_v : Int64) (tk_f : Int32) (mo_taped : Int32) (mo_fault : Int32) (mo_place : Int32) (mo_lines : Int32) (mo_used : Int32) (mo_state : Int32) (mo_at : Int32) (mo_from : Int32) (mo_printed : Int32) (mo_written : Int32) (mo_over : Int32) (mo_tapeA : Nat → Int32) (mo_kindA : Nat → Int32) (mo_firstA : Nat → Int32) (mo_countA : Nat → Int32) (mo_beginsA : Nat → Int32) (mo_numbersA : Nat → Int64) (mo_outA : Nat → Int32) (x3 : Int32) (s0 : Int32) : Option Int32 :=
  o_b (m_X5_wipe tp_c tp_o tp_b pp_c pp_o pp_b s0) (fun r_4 =>
  o_let (x3 + (1 : Int32)) (fun t_5 =>
  o_in t_5 L (if (xs t_5.toNatClampNeg) = 0 then (m_L_law_J333 xs L b_18 xx_e r_4.2.1 r_4.2.2.1 r_4.2.2.2.1 r_4.2.2.2.2.1 r_4.2.2.2.2.2 pp_b ln_c ln_m ln_k ln_p ln_f ln_s ln_n rd_f rd_p tk_e tk_s tk_p tk_h tk_v tk_f mo_taped mo_fault mo_place mo_lines mo_used mo_state mo_at mo_from mo_printed mo_written mo_over mo_tapeA mo_kindA mo_firstA mo_countA mo_beginsA mo_numbersA mo_outA x3 (0 : Int32) r_4.1)
  else (m_L_law_J333 xs L b_18 xx_e r_4.2.1 r_4.2.2.1 r_4.2.2.2.1 r_4.2.2.2.2.1 r_4.2.2.2.2.2 pp_b ln_c ln_m ln_k ln_p ln_f ln_s ln_n rd_f rd_p tk_e tk_s tk_p tk_h tk_v tk_f mo_taped mo_fault mo_place mo_lines mo_used mo_state mo_at mo_from mo_printed mo_written mo_over mo_tapeA mo_kindA mo_firstA mo_countA mo_beginsA mo_numbersA mo_outA x3 (1 : Int32) r_4.1))))
def m_L_law_L18 (xs : Nat → Int32) (L : Nat)  : Nat → Int32 → Int32 → Int32 → (Nat → Int32) → Int32 → Int32 → (Nat → Int32) → Int32 → Int32 → (Nat → Int32) → (Nat → Int32) → (Nat → Int32) → (Nat → Int32) → (Nat → Int64) → Int32 → Int32 → Int32 → Int32 → Int32 → Int32 → Int64 → Int32 → Int32 → Int32 → Int32 → Int32 → Int32 → Int32 → Int32 → Int32 → Int32 → Int32 → Int32 → (Nat → Int32) → (Nat → Int32) → (Nat → Int32) → (Nat → Int32) → (Nat → Int32) → (Nat → Int64) → (Nat → Int32) → Int32 → Option Int32
  | 0, _, _, _, _, _, _, _, _, _, _, _, _, _, _, _, _, _, _, _, _, _, _, _, _, _, _, _, _, _, _, _, _, _, _, _, _, _, _, _, _, _ => none
  | n + 1, xx_e, tp_c, tp_o, tp_b, pp_c, pp_o, pp_b, ln_c, ln_m, ln_k, ln_p, ln_f, ln_s, ln_n, rd_f, rd_p, tk_e, tk_s, tk_p, tk_h, tk_v, tk_f, mo_taped, mo_fault, mo_place, mo_lines, mo_used, mo_state, mo_at, mo_from, mo_printed, mo_written, mo_over, mo_tapeA, mo_kindA, mo_firstA, mo_countA, mo_beginsA, mo_numbersA, mo_outA, x3 =>
    if ((Int32.ofNat L) - (6 : Int32)) < x3 then (some (1 : Int32))
    else (o_in x3 L (o_let (xs x3.toNatClampNeg) (fun t_10 =>
    o_let (t_10 &&& (7 : Int32)) (fun t_11 =>
    if t_11 = (0 : Int32) then (o_let (x3 + (1 : Int32)) (fun t_13 =>
    o_in t_13 L (o_let (xs t_13.toNatClampNeg) (fun t_15 =>
    o_let (x3 + (2 : Int32)) (fun t_16 =>
    o_in t_16 L (o_let (xs t_16.toNatClampNeg) (fun t_18 =>
    o_let (x3 + (3 : Int32)) (fun t_19 =>
    o_in t_19 L (o_let (xs t_19.toNatClampNeg) (fun t_21 =>
    o_let (x3 + (4 : Int32)) (fun t_22 =>
    o_in t_22 L (o_let (xs t_22.toNatClampNeg) (fun t_24 =>
    o_let (x3 + (5 : Int32)) (fun t_25 =>
    o_in t_25 L (o_let (xs t_25.toNatClampNeg) (fun t_27 =>
    o_b (m_X5_feed tp_c tp_o tp_b t_15 t_18 t_21 t_24 t_27) (fun r_28 =>
    o_let (x3 + (1 : Int32)) (fun t_29 =>
    o_in t_29 L (o_let (xs t_29.toNatClampNeg) (fun t_31 =>
    o_let (x3 + (2 : Int32)) (fun t_32 =>
    o_in t_32 L (o_let (xs t_32.toNatClampNeg) (fun t_34 =>
    o_let (x3 + (3 : Int32)) (fun t_35 =>
    o_in t_35 L (o_let (xs t_35.toNatClampNeg) (fun t_37 =>
    o_let (x3 + (4 : Int32)) (fun t_38 =>
    o_in t_38 L (o_let (xs t_38.toNatClampNeg) (fun t_40 =>
    o_let (x3 + (5 : Int32)) (fun t_41 =>
    o_in t_41 L (o_let (xs t_41.toNatClampNeg) (fun t_43 =>
    o_b (m_X6_feed mo_taped mo_tapeA t_31 t_34 t_37 t_40 t_43) (fun r_44 =>
    if r_28.1 = r_44.1 then (m_L_law_J341 xs L (m_L_law_L18 xs L n) xx_e r_28.2.1 r_28.2.2.1 r_28.2.2.2 pp_c pp_o pp_b ln_c ln_m ln_k ln_p ln_f ln_s ln_n rd_f rd_p tk_e tk_s tk_p tk_h tk_v tk_f r_44.2.1 mo_fault mo_place mo_lines mo_used mo_state mo_at mo_from mo_printed mo_written mo_over r_44.2.2 mo_kindA mo_firstA mo_countA mo_beginsA mo_numbersA mo_outA x3)
    else (some (0 : Int32)))))))))))))))))))))))))))))))))))
    else if t_11 = (1 : Int32) then (o_let (x3 + (1 : Int32)) (fun t_47 =>
    o_in t_47 L (o_let (xs t_47.toNatClampNeg) (fun t_49 =>
    o_b (m_X5_read xx_e tp_c tp_o ln_c ln_m rd_f rd_p tk_e tk_s tk_p tk_h tk_v tk_f t_49) (fun r_50 =>
    o_let (x3 + (1 : Int32)) (fun t_51 =>
    o_in t_51 L (o_let (xs t_51.toNatClampNeg) (fun t_53 =>
    o_b (m_X6_read mo_taped mo_fault mo_place mo_lines mo_used mo_state mo_at mo_from mo_tapeA mo_kindA t_53) (fun r_54 =>
    if r_50.1 = r_54.1 then (m_L_law_J341 xs L (m_L_law_L18 xs L n) r_50.2.1 r_50.2.2.1 r_50.2.2.2.1 tp_b pp_c pp_o pp_b r_50.2.2.2.2.1 r_50.2.2.2.2.2.1 ln_k ln_p ln_f ln_s ln_n r_50.2.2.2.2.2.2.1 r_50.2.2.2.2.2.2.2.1 r_50.2.2.2.2.2.2.2.2.1 r_50.2.2.2.2.2.2.2.2.2.1 r_50.2.2.2.2.2.2.2.2.2.2.1 r_50.2.2.2.2.2.2.2.2.2.2.2.1 r_50.2.2.2.2.2.2.2.2.2.2.2.2.1 r_50.2.2.2.2.2.2.2.2.2.2.2.2.2 r_54.2.1 r_54.2.2.1 r_54.2.2.2.1 r_54.2.2.2.2.1 r_54.2.2.2.2.2.1 r_54.2.2.2.2.2.2.1 r_54.2.2.2.2.2.2.2.1 r_54.2.2.2.2.2.2.2.2 mo_printed mo_written mo_over mo_tapeA mo_kindA mo_firstA mo_countA mo_beginsA mo_numbersA mo_outA x3)
    else (some (0 : Int32)))))))))))
    else if t_11 = (2 : Int32) then (o_let (x3 + (1 : Int32)) (fun t_57 =>
    o_in t_57 L (o_let (xs t_57.toNatClampNeg) (fun t_59 =>
    o_b (m_X5_fault xx_e rd_f rd_p t_59) (fun r_60 =>
    o_let (x3 + (1 : Int32)) (fun t_61 =>
    o_in t_61 L (o_let (xs t_61.toNatClampNeg) (fun t_63 =>
    o_b (m_X6_fault mo_fault mo_place t_63) (fun r_64 =>
    if r_60 = r_64 then (m_L_law_J341 xs L (m_L_law_L18 xs L n) xx_e tp_c tp_o tp_b pp_c pp_o pp_b ln_c ln_m ln_k ln_p ln_f ln_s ln_n rd_f rd_p tk_e tk_s tk_p tk_h tk_v tk_f mo_taped mo_fault mo_place mo_lines mo_used mo_state mo_at mo_from mo_printed mo_written mo_over mo_tapeA mo_kindA mo_firstA mo_countA mo_beginsA mo_numbersA mo_outA x3)
    else (some (0 : Int32)))))))))))
    else if t_11 = (3 : Int32) then (o_let (x3 + (1 : Int32)) (fun t_67 =>
    o_in t_67 L (o_let (xs t_67.toNatClampNeg) (fun t_69 =>
    o_let (x3 + (2 : Int32)) (fun t_70 =>
    o_in t_70 L (o_let (xs t_70.toNatClampNeg) (fun t_72 =>
    o_b (m_X5_line ln_c ln_k ln_p ln_s t_69 t_72) (fun r_73 =>
    o_let (x3 + (1 : Int32)) (fun t_74 =>
    o_in t_74 L (o_let (xs t_74.toNatClampNeg) (fun t_76 =>
    o_let (x3 + (2 : Int32)) (fun t_77 =>
    o_in t_77 L (o_let (xs t_77.toNatClampNeg) (fun t_79 =>
    o_b (m_X6_line mo_lines mo_kindA mo_countA mo_beginsA t_76 t_79) (fun r_80 =>
    if r_73 = r_80 then (m_L_law_J341 xs L (m_L_law_L18 xs L n) xx_e tp_c tp_o tp_b pp_c pp_o pp_b ln_c ln_m ln_k ln_p ln_f ln_s ln_n rd_f rd_p tk_e tk_s tk_p tk_h tk_v tk_f mo_taped mo_fault mo_place mo_lines mo_used mo_state mo_at mo_from mo_printed mo_written mo_over mo_tapeA mo_kindA mo_firstA mo_countA mo_beginsA mo_numbersA mo_outA x3)
    else (some (0 : Int32)))))))))))))))))
    else if t_11 = (4 : Int32) then (o_let (x3 + (1 : Int32)) (fun t_83 =>
    o_in t_83 L (o_let (xs t_83.toNatClampNeg) (fun t_85 =>
    o_let (x3 + (2 : Int32)) (fun t_86 =>
    o_in t_86 L (o_let (xs t_86.toNatClampNeg) (fun t_88 =>
    o_b (m_X5_number ln_c ln_f ln_s ln_n t_85 t_88) (fun r_89 =>
    o_let (x3 + (1 : Int32)) (fun t_90 =>
    o_in t_90 L (o_let (xs t_90.toNatClampNeg) (fun t_92 =>
    o_let (x3 + (2 : Int32)) (fun t_93 =>
    o_in t_93 L (o_let (xs t_93.toNatClampNeg) (fun t_95 =>
    o_b (m_X6_number1 mo_lines mo_firstA mo_countA mo_numbersA t_92 t_95) (fun r_96 =>
    if (lg_cmp r_89 r_96) = 0 then (m_L_law_J341 xs L (m_L_law_L18 xs L n) xx_e tp_c tp_o tp_b pp_c pp_o pp_b ln_c ln_m ln_k ln_p ln_f ln_s ln_n rd_f rd_p tk_e tk_s tk_p tk_h tk_v tk_f mo_taped mo_fault mo_place mo_lines mo_used mo_state mo_at mo_from mo_printed mo_written mo_over mo_tapeA mo_kindA mo_firstA mo_countA mo_beginsA mo_numbersA mo_outA x3)
    else (some (0 : Int32)))))))))))))))))
    else if t_11 = (5 : Int32) then (o_let (x3 + (1 : Int32)) (fun t_99 =>
    o_in t_99 L (o_let (xs t_99.toNatClampNeg) (fun t_101 =>
    o_b (m_X5_print pp_c ln_c t_101) (fun r_102 =>
    o_let (x3 + (1 : Int32)) (fun t_103 =>
    o_in t_103 L (o_let (xs t_103.toNatClampNeg) (fun t_105 =>
    o_b (m_X6_print mo_lines mo_written mo_over mo_kindA t_105) (fun r_106 =>
    if r_102 = r_106.1 then (m_L_law_J341 xs L (m_L_law_L18 xs L n) xx_e tp_c tp_o tp_b pp_c pp_o pp_b ln_c ln_m ln_k ln_p ln_f ln_s ln_n rd_f rd_p tk_e tk_s tk_p tk_h tk_v tk_f mo_taped mo_fault mo_place mo_lines mo_used mo_state mo_at mo_from mo_printed r_106.2.1 r_106.2.2 mo_tapeA mo_kindA mo_firstA mo_countA mo_beginsA mo_numbersA mo_outA x3)
    else (some (0 : Int32)))))))))))
    else if t_11 = (6 : Int32) then (o_let (x3 + (1 : Int32)) (fun t_109 =>
    o_in t_109 L (o_let (xs t_109.toNatClampNeg) (fun t_111 =>
    o_b (m_X5_printed pp_c pp_b t_111) (fun r_112 =>
    o_let (x3 + (1 : Int32)) (fun t_113 =>
    o_in t_113 L (o_let (xs t_113.toNatClampNeg) (fun t_115 =>
    o_b (m_X6_printed mo_printed mo_outA t_115) (fun r_116 =>
    if r_112 = r_116 then (m_L_law_J341 xs L (m_L_law_L18 xs L n) xx_e tp_c tp_o tp_b pp_c pp_o pp_b ln_c ln_m ln_k ln_p ln_f ln_s ln_n rd_f rd_p tk_e tk_s tk_p tk_h tk_v tk_f mo_taped mo_fault mo_place mo_lines mo_used mo_state mo_at mo_from mo_printed mo_written mo_over mo_tapeA mo_kindA mo_firstA mo_countA mo_beginsA mo_numbersA mo_outA x3)
    else (some (0 : Int32)))))))))))
    else if t_11 = (7 : Int32) then (o_let (x3 + (1 : Int32)) (fun t_119 =>
    o_in t_119 L (if (xs t_119.toNatClampNeg) = 0 then (m_L_law_J316 xs L (m_L_law_L18 xs L n) xx_e tp_c tp_o tp_b pp_c pp_o pp_b ln_c ln_m ln_k ln_p ln_f ln_s ln_n rd_f rd_p tk_e tk_s tk_p tk_h tk_v tk_f mo_taped mo_fault mo_place mo_lines mo_used mo_state mo_at mo_from mo_printed mo_written mo_over mo_tapeA mo_kindA mo_firstA mo_countA mo_beginsA mo_numbersA mo_outA x3 (0 : Int32))
    else (m_L_law_J316 xs L (m_L_law_L18 xs L n) xx_e tp_c tp_o tp_b pp_c pp_o pp_b ln_c ln_m ln_k ln_p ln_f ln_s ln_n rd_f rd_p tk_e tk_s tk_p tk_h tk_v tk_f mo_taped mo_fault mo_place mo_lines mo_used mo_state mo_at mo_from mo_printed mo_written mo_over mo_tapeA mo_kindA mo_firstA mo_countA mo_beginsA mo_numbersA mo_outA x3 (1 : Int32)))))
    else (m_L_law_J341 xs L (m_L_law_L18 xs L n) xx_e tp_c tp_o tp_b pp_c pp_o pp_b ln_c ln_m ln_k ln_p ln_f ln_s ln_n rd_f rd_p tk_e tk_s tk_p tk_h tk_v tk_f mo_taped mo_fault mo_place mo_lines mo_used mo_state mo_at mo_from mo_printed mo_written mo_over mo_tapeA mo_kindA mo_firstA mo_countA mo_beginsA mo_numbersA mo_outA x3)))))
end
section
set_option maxHeartbeats 4000000 in
set_option maxRecDepth 100000 in
theorem k_L_law_J341 {l : Launch} {p : Program} {e : Env} {s : State} {m : MethodId} {below : List Frame} {meth : Method} {c : Code} {A : Nat → Prop} {D : va_G} {cB cI cL : ClassId} {b L : Nat} {xs : Nat → Int32} {a_xx a_tp a_tpb a_pp a_ppb a_ln a_lnk a_lnp a_lnf a_lns a_lnn a_rd a_tk a_pr a_mo a_motape a_mokind a_mofirst a_mocount a_mobegins a_monumbers a_moout a_mofresh a_modigits : Nat} {mo_thrown : Int32} {mo_many : Int32} {mo_labels : Int32} {mo_sign : Int32} {mo_value : Int64} {mo_to : Int32} {mo_freshA : Nat → Int32} {mo_digitsA : Nat → Int32} (C : lw_At p s m meth c b L xs ∧ (∀ q : Nat, A q → s.heap.size ≤ q)) (hE : ev D cB cI cL A s) (hA : ∀ q : Nat, s.heap.size ≤ q → A q) {b_18 : Int32 → Int32 → Int32 → (Nat → Int32) → Int32 → Int32 → (Nat → Int32) → Int32 → Int32 → (Nat → Int32) → (Nat → Int32) → (Nat → Int32) → (Nat → Int32) → (Nat → Int64) → Int32 → Int32 → Int32 → Int32 → Int32 → Int32 → Int64 → Int32 → Int32 → Int32 → Int32 → Int32 → Int32 → Int32 → Int32 → Int32 → Int32 → Int32 → Int32 → (Nat → Int32) → (Nat → Int32) → (Nat → Int32) → (Nat → Int32) → (Nat → Int32) → (Nat → Int64) → (Nat → Int32) → Int32 → Option Int32} (hb_18 : ∀ (xx_e : Int32) (tp_c : Int32) (tp_o : Int32) (tp_b : Nat → Int32) (pp_c : Int32) (pp_o : Int32) (pp_b : Nat → Int32) (ln_c : Int32) (ln_m : Int32) (ln_k : Nat → Int32) (ln_p : Nat → Int32) (ln_f : Nat → Int32) (ln_s : Nat → Int32) (ln_n : Nat → Int64) (rd_f : Int32) (rd_p : Int32) (tk_e : Int32) (tk_s : Int32) (tk_p : Int32) (tk_h : Int32) (tk_v : Int64) (tk_f : Int32) (mo_taped : Int32) (mo_fault : Int32) (mo_place : Int32) (mo_lines : Int32) (mo_used : Int32) (mo_state : Int32) (mo_at : Int32) (mo_from : Int32) (mo_printed : Int32) (mo_written : Int32) (mo_over : Int32) (mo_tapeA : Nat → Int32) (mo_kindA : Nat → Int32) (mo_firstA : Nat → Int32) (mo_countA : Nat → Int32) (mo_beginsA : Nat → Int32) (mo_numbersA : Nat → Int64) (mo_outA : Nat → Int32) (x3 : Int32) (H : Heap) (locs : List Loc) (ls : Array Slot), va_P D vwCl [(a_xx, .inr (5, [.ref a_tp, .ref a_pp, .ref a_ln, .ref a_rd, .ref a_pr, .int xx_e])), (a_tp, .inr (0, [.ref a_tpb, .int tp_c, .int tp_o])), (a_tpb, .inl (cB, 4000, .inl tp_b)), (a_pp, .inr (0, [.ref a_ppb, .int pp_c, .int pp_o])), (a_ppb, .inl (cB, 4000, .inl pp_b)), (a_ln, .inr (1, [.ref a_lnk, .ref a_lnp, .ref a_lnf, .ref a_lns, .ref a_lnn, .int ln_c, .int ln_m])), (a_lnk, .inl (cI, 64, .inl ln_k)), (a_lnp, .inl (cI, 64, .inl ln_p)), (a_lnf, .inl (cI, 64, .inl ln_f)), (a_lns, .inl (cI, 64, .inl ln_s)), (a_lnn, .inl (cL, 4000, .inr (.inl ln_n))), (a_rd, .inr (3, [.ref a_tk, .ref a_ln, .int rd_f, .int rd_p])), (a_tk, .inr (2, [.ref a_tpb, .int tk_e, .int tk_s, .int tk_p, .int tk_h, .long tk_v, .int tk_f])), (a_pr, .inr (4, [.ref a_pp, .ref a_ln])), (a_mo, .inr (6, [.int mo_thrown, .ref a_motape, .int mo_taped, .int mo_fault, .int mo_place, .int mo_lines, .ref a_mokind, .ref a_mofirst, .ref a_mocount, .ref a_mobegins, .ref a_monumbers, .int mo_used, .int mo_state, .int mo_at, .int mo_many, .int mo_labels, .int mo_sign, .long mo_value, .int mo_from, .int mo_to, .ref a_moout, .int mo_printed, .ref a_mofresh, .int mo_written, .int mo_over, .ref a_modigits])), (a_motape, .inl (cI, 4000, .inl mo_tapeA)), (a_mokind, .inl (cI, 64, .inl mo_kindA)), (a_mofirst, .inl (cI, 64, .inl mo_firstA)), (a_mocount, .inl (cI, 64, .inl mo_countA)), (a_mobegins, .inl (cI, 64, .inl mo_beginsA)), (a_monumbers, .inl (cL, 4200, .inr (.inl mo_numbersA))), (a_moout, .inl (cI, 4000, .inl mo_outA)), (a_mofresh, .inl (cI, 4000, .inl mo_freshA)), (a_modigits, .inl (cI, 20, .inl mo_digitsA))] H → va_D A [(a_xx, .inr (5, [.ref a_tp, .ref a_pp, .ref a_ln, .ref a_rd, .ref a_pr, .int xx_e])), (a_tp, .inr (0, [.ref a_tpb, .int tp_c, .int tp_o])), (a_tpb, .inl (cB, 4000, .inl tp_b)), (a_pp, .inr (0, [.ref a_ppb, .int pp_c, .int pp_o])), (a_ppb, .inl (cB, 4000, .inl pp_b)), (a_ln, .inr (1, [.ref a_lnk, .ref a_lnp, .ref a_lnf, .ref a_lns, .ref a_lnn, .int ln_c, .int ln_m])), (a_lnk, .inl (cI, 64, .inl ln_k)), (a_lnp, .inl (cI, 64, .inl ln_p)), (a_lnf, .inl (cI, 64, .inl ln_f)), (a_lns, .inl (cI, 64, .inl ln_s)), (a_lnn, .inl (cL, 4000, .inr (.inl ln_n))), (a_rd, .inr (3, [.ref a_tk, .ref a_ln, .int rd_f, .int rd_p])), (a_tk, .inr (2, [.ref a_tpb, .int tk_e, .int tk_s, .int tk_p, .int tk_h, .long tk_v, .int tk_f])), (a_pr, .inr (4, [.ref a_pp, .ref a_ln])), (a_mo, .inr (6, [.int mo_thrown, .ref a_motape, .int mo_taped, .int mo_fault, .int mo_place, .int mo_lines, .ref a_mokind, .ref a_mofirst, .ref a_mocount, .ref a_mobegins, .ref a_monumbers, .int mo_used, .int mo_state, .int mo_at, .int mo_many, .int mo_labels, .int mo_sign, .long mo_value, .int mo_from, .int mo_to, .ref a_moout, .int mo_printed, .ref a_mofresh, .int mo_written, .int mo_over, .ref a_modigits])), (a_motape, .inl (cI, 4000, .inl mo_tapeA)), (a_mokind, .inl (cI, 64, .inl mo_kindA)), (a_mofirst, .inl (cI, 64, .inl mo_firstA)), (a_mocount, .inl (cI, 64, .inl mo_countA)), (a_mobegins, .inl (cI, 64, .inl mo_beginsA)), (a_monumbers, .inl (cL, 4200, .inr (.inl mo_numbersA))), (a_moout, .inl (cI, 4000, .inl mo_outA)), (a_mofresh, .inl (cI, 4000, .inl mo_freshA)), (a_modigits, .inl (cI, 20, .inl mo_digitsA))] → va_S A s.heap H locs → lv_has ls 4 [(0, .ref b), (1, .ref a_xx), (2, .ref a_mo), (3, .int x3)] → b_18 xx_e tp_c tp_o tp_b pp_c pp_o pp_b ln_c ln_m ln_k ln_p ln_f ln_s ln_n rd_f rd_p tk_e tk_s tk_p tk_h tk_v tk_f mo_taped mo_fault mo_place mo_lines mo_used mo_state mo_at mo_from mo_printed mo_written mo_over mo_tapeA mo_kindA mo_firstA mo_countA mo_beginsA mo_numbersA mo_outA x3 = some 1 → W p l e room_1 s m #[Value.ref b] below meth c H locs 24 28790 (lw_Z below #[Value.ref b] s) (F0 m 18 ls [])) :
    ∀ (xx_e : Int32) (tp_c : Int32) (tp_o : Int32) (tp_b : Nat → Int32) (pp_c : Int32) (pp_o : Int32) (pp_b : Nat → Int32) (ln_c : Int32) (ln_m : Int32) (ln_k : Nat → Int32) (ln_p : Nat → Int32) (ln_f : Nat → Int32) (ln_s : Nat → Int32) (ln_n : Nat → Int64) (rd_f : Int32) (rd_p : Int32) (tk_e : Int32) (tk_s : Int32) (tk_p : Int32) (tk_h : Int32) (tk_v : Int64) (tk_f : Int32) (mo_taped : Int32) (mo_fault : Int32) (mo_place : Int32) (mo_lines : Int32) (mo_used : Int32) (mo_state : Int32) (mo_at : Int32) (mo_from : Int32) (mo_printed : Int32) (mo_written : Int32) (mo_over : Int32) (mo_tapeA : Nat → Int32) (mo_kindA : Nat → Int32) (mo_firstA : Nat → Int32) (mo_countA : Nat → Int32) (mo_beginsA : Nat → Int32) (mo_numbersA : Nat → Int64) (mo_outA : Nat → Int32) (x3 : Int32) (H : Heap) (locs : List Loc) (ls : Array Slot), va_P D vwCl [(a_xx, .inr (5, [.ref a_tp, .ref a_pp, .ref a_ln, .ref a_rd, .ref a_pr, .int xx_e])), (a_tp, .inr (0, [.ref a_tpb, .int tp_c, .int tp_o])), (a_tpb, .inl (cB, 4000, .inl tp_b)), (a_pp, .inr (0, [.ref a_ppb, .int pp_c, .int pp_o])), (a_ppb, .inl (cB, 4000, .inl pp_b)), (a_ln, .inr (1, [.ref a_lnk, .ref a_lnp, .ref a_lnf, .ref a_lns, .ref a_lnn, .int ln_c, .int ln_m])), (a_lnk, .inl (cI, 64, .inl ln_k)), (a_lnp, .inl (cI, 64, .inl ln_p)), (a_lnf, .inl (cI, 64, .inl ln_f)), (a_lns, .inl (cI, 64, .inl ln_s)), (a_lnn, .inl (cL, 4000, .inr (.inl ln_n))), (a_rd, .inr (3, [.ref a_tk, .ref a_ln, .int rd_f, .int rd_p])), (a_tk, .inr (2, [.ref a_tpb, .int tk_e, .int tk_s, .int tk_p, .int tk_h, .long tk_v, .int tk_f])), (a_pr, .inr (4, [.ref a_pp, .ref a_ln])), (a_mo, .inr (6, [.int mo_thrown, .ref a_motape, .int mo_taped, .int mo_fault, .int mo_place, .int mo_lines, .ref a_mokind, .ref a_mofirst, .ref a_mocount, .ref a_mobegins, .ref a_monumbers, .int mo_used, .int mo_state, .int mo_at, .int mo_many, .int mo_labels, .int mo_sign, .long mo_value, .int mo_from, .int mo_to, .ref a_moout, .int mo_printed, .ref a_mofresh, .int mo_written, .int mo_over, .ref a_modigits])), (a_motape, .inl (cI, 4000, .inl mo_tapeA)), (a_mokind, .inl (cI, 64, .inl mo_kindA)), (a_mofirst, .inl (cI, 64, .inl mo_firstA)), (a_mocount, .inl (cI, 64, .inl mo_countA)), (a_mobegins, .inl (cI, 64, .inl mo_beginsA)), (a_monumbers, .inl (cL, 4200, .inr (.inl mo_numbersA))), (a_moout, .inl (cI, 4000, .inl mo_outA)), (a_mofresh, .inl (cI, 4000, .inl mo_freshA)), (a_modigits, .inl (cI, 20, .inl mo_digitsA))] H → va_D A [(a_xx, .inr (5, [.ref a_tp, .ref a_pp, .ref a_ln, .ref a_rd, .ref a_pr, .int xx_e])), (a_tp, .inr (0, [.ref a_tpb, .int tp_c, .int tp_o])), (a_tpb, .inl (cB, 4000, .inl tp_b)), (a_pp, .inr (0, [.ref a_ppb, .int pp_c, .int pp_o])), (a_ppb, .inl (cB, 4000, .inl pp_b)), (a_ln, .inr (1, [.ref a_lnk, .ref a_lnp, .ref a_lnf, .ref a_lns, .ref a_lnn, .int ln_c, .int ln_m])), (a_lnk, .inl (cI, 64, .inl ln_k)), (a_lnp, .inl (cI, 64, .inl ln_p)), (a_lnf, .inl (cI, 64, .inl ln_f)), (a_lns, .inl (cI, 64, .inl ln_s)), (a_lnn, .inl (cL, 4000, .inr (.inl ln_n))), (a_rd, .inr (3, [.ref a_tk, .ref a_ln, .int rd_f, .int rd_p])), (a_tk, .inr (2, [.ref a_tpb, .int tk_e, .int tk_s, .int tk_p, .int tk_h, .long tk_v, .int tk_f])), (a_pr, .inr (4, [.ref a_pp, .ref a_ln])), (a_mo, .inr (6, [.int mo_thrown, .ref a_motape, .int mo_taped, .int mo_fault, .int mo_place, .int mo_lines, .ref a_mokind, .ref a_mofirst, .ref a_mocount, .ref a_mobegins, .ref a_monumbers, .int mo_used, .int mo_state, .int mo_at, .int mo_many, .int mo_labels, .int mo_sign, .long mo_value, .int mo_from, .int mo_to, .ref a_moout, .int mo_printed, .ref a_mofresh, .int mo_written, .int mo_over, .ref a_modigits])), (a_motape, .inl (cI, 4000, .inl mo_tapeA)), (a_mokind, .inl (cI, 64, .inl mo_kindA)), (a_mofirst, .inl (cI, 64, .inl mo_firstA)), (a_mocount, .inl (cI, 64, .inl mo_countA)), (a_mobegins, .inl (cI, 64, .inl mo_beginsA)), (a_monumbers, .inl (cL, 4200, .inr (.inl mo_numbersA))), (a_moout, .inl (cI, 4000, .inl mo_outA)), (a_mofresh, .inl (cI, 4000, .inl mo_freshA)), (a_modigits, .inl (cI, 20, .inl mo_digitsA))] → va_S A s.heap H locs → lv_has ls 4 [(0, .ref b), (1, .ref a_xx), (2, .ref a_mo), (3, .int x3)] → m_L_law_J341 xs L b_18 xx_e tp_c tp_o tp_b pp_c pp_o pp_b ln_c ln_m ln_k ln_p ln_f ln_s ln_n rd_f rd_p tk_e tk_s tk_p tk_h tk_v tk_f mo_taped mo_fault mo_place mo_lines mo_used mo_state mo_at mo_from mo_printed mo_written mo_over mo_tapeA mo_kindA mo_firstA mo_countA mo_beginsA mo_numbersA mo_outA x3 = some 1 → W p l e room_1 s m #[Value.ref b] below meth c H locs 24 28790 (lw_Z below #[Value.ref b] s) (F0 m 341 ls []) := by
  obtain ⟨⟨hx, hb, hr, hml, hown, htw, hX, hbl, hlocks, hgv⟩, hAf⟩ := id C
  have ht : ∀ w ∈ k_tbl, w.before #[Value.ref b] s = true := fun w h => htw w (List.mem_filter.mp h).1
  have hbA : ¬ A b := fun h => Nat.not_le.mpr hbl (hAf b h)
  have K : kx p s m #[Value.ref b] meth c code 4 ret "LinkTextLaw" k_tbl := ⟨hx, hb, hr, hml, hown, ht, hlocks⟩
  intro xx_e tp_c tp_o tp_b pp_c pp_o pp_b ln_c ln_m ln_k ln_p ln_f ln_s ln_n rd_f rd_p tk_e tk_s tk_p tk_h tk_v tk_f mo_taped mo_fault mo_place mo_lines mo_used mo_state mo_at mo_from mo_printed mo_written mo_over mo_tapeA mo_kindA mo_firstA mo_countA mo_beginsA mo_numbersA mo_outA x3 H locs ls hP hD hS hl h
  unfold m_L_law_J341 at h
  obtain ⟨t_1, et_1⟩ : ∃ y : Int32, y = x3 + 6 := ⟨_, rfl⟩
  replace h := o_let_s et_1 h
  refine lv_iinc (v := t_1) (lv' := [(3, .int t_1), (0, .ref b), (1, .ref a_xx), (2, .ref a_mo)]) hx hb dL_law_341 hl (k := 3) rfl (by rw [et_1]; rfl) (by decide) rfl (fun ls hl => ?_)
  refine lv_goto (tgt := 18) hx hb dL_law_344 (by decide) ?_
  exact hb_18 xx_e tp_c tp_o tp_b pp_c pp_o pp_b ln_c ln_m ln_k ln_p ln_f ln_s ln_n rd_f rd_p tk_e tk_s tk_p tk_h tk_v tk_f mo_taped mo_fault mo_place mo_lines mo_used mo_state mo_at mo_from mo_printed mo_written mo_over mo_tapeA mo_kindA mo_firstA mo_countA mo_beginsA mo_numbersA mo_outA t_1 _ _ _ hP hD hS (lv_sub hl [1, 2, 3, 0] rfl) h
set_option maxHeartbeats 4000000 in
set_option maxRecDepth 100000 in
theorem k_L_law_J333 {l : Launch} {p : Program} {e : Env} {s : State} {m : MethodId} {below : List Frame} {meth : Method} {c : Code} {A : Nat → Prop} {D : va_G} {cB cI cL : ClassId} {b L : Nat} {xs : Nat → Int32} {a_xx a_tp a_tpb a_pp a_ppb a_ln a_lnk a_lnp a_lnf a_lns a_lnn a_rd a_tk a_pr a_mo a_motape a_mokind a_mofirst a_mocount a_mobegins a_monumbers a_moout a_mofresh a_modigits : Nat} {mo_thrown : Int32} {mo_many : Int32} {mo_labels : Int32} {mo_sign : Int32} {mo_value : Int64} {mo_to : Int32} {mo_freshA : Nat → Int32} {mo_digitsA : Nat → Int32} (C : lw_At p s m meth c b L xs ∧ (∀ q : Nat, A q → s.heap.size ≤ q)) (hE : ev D cB cI cL A s) (hA : ∀ q : Nat, s.heap.size ≤ q → A q) {b_18 : Int32 → Int32 → Int32 → (Nat → Int32) → Int32 → Int32 → (Nat → Int32) → Int32 → Int32 → (Nat → Int32) → (Nat → Int32) → (Nat → Int32) → (Nat → Int32) → (Nat → Int64) → Int32 → Int32 → Int32 → Int32 → Int32 → Int32 → Int64 → Int32 → Int32 → Int32 → Int32 → Int32 → Int32 → Int32 → Int32 → Int32 → Int32 → Int32 → Int32 → (Nat → Int32) → (Nat → Int32) → (Nat → Int32) → (Nat → Int32) → (Nat → Int32) → (Nat → Int64) → (Nat → Int32) → Int32 → Option Int32} (hb_18 : ∀ (xx_e : Int32) (tp_c : Int32) (tp_o : Int32) (tp_b : Nat → Int32) (pp_c : Int32) (pp_o : Int32) (pp_b : Nat → Int32) (ln_c : Int32) (ln_m : Int32) (ln_k : Nat → Int32) (ln_p : Nat → Int32) (ln_f : Nat → Int32) (ln_s : Nat → Int32) (ln_n : Nat → Int64) (rd_f : Int32) (rd_p : Int32) (tk_e : Int32) (tk_s : Int32) (tk_p : Int32) (tk_h : Int32) (tk_v : Int64) (tk_f : Int32) (mo_taped : Int32) (mo_fault : Int32) (mo_place : Int32) (mo_lines : Int32) (mo_used : Int32) (mo_state : Int32) (mo_at : Int32) (mo_from : Int32) (mo_printed : Int32) (mo_written : Int32) (mo_over : Int32) (mo_tapeA : Nat → Int32) (mo_kindA : Nat → Int32) (mo_firstA : Nat → Int32) (mo_countA : Nat → Int32) (mo_beginsA : Nat → Int32) (mo_numbersA : Nat → Int64) (mo_outA : Nat → Int32) (x3 : Int32) (H : Heap) (locs : List Loc) (ls : Array Slot), va_P D vwCl [(a_xx, .inr (5, [.ref a_tp, .ref a_pp, .ref a_ln, .ref a_rd, .ref a_pr, .int xx_e])), (a_tp, .inr (0, [.ref a_tpb, .int tp_c, .int tp_o])), (a_tpb, .inl (cB, 4000, .inl tp_b)), (a_pp, .inr (0, [.ref a_ppb, .int pp_c, .int pp_o])), (a_ppb, .inl (cB, 4000, .inl pp_b)), (a_ln, .inr (1, [.ref a_lnk, .ref a_lnp, .ref a_lnf, .ref a_lns, .ref a_lnn, .int ln_c, .int ln_m])), (a_lnk, .inl (cI, 64, .inl ln_k)), (a_lnp, .inl (cI, 64, .inl ln_p)), (a_lnf, .inl (cI, 64, .inl ln_f)), (a_lns, .inl (cI, 64, .inl ln_s)), (a_lnn, .inl (cL, 4000, .inr (.inl ln_n))), (a_rd, .inr (3, [.ref a_tk, .ref a_ln, .int rd_f, .int rd_p])), (a_tk, .inr (2, [.ref a_tpb, .int tk_e, .int tk_s, .int tk_p, .int tk_h, .long tk_v, .int tk_f])), (a_pr, .inr (4, [.ref a_pp, .ref a_ln])), (a_mo, .inr (6, [.int mo_thrown, .ref a_motape, .int mo_taped, .int mo_fault, .int mo_place, .int mo_lines, .ref a_mokind, .ref a_mofirst, .ref a_mocount, .ref a_mobegins, .ref a_monumbers, .int mo_used, .int mo_state, .int mo_at, .int mo_many, .int mo_labels, .int mo_sign, .long mo_value, .int mo_from, .int mo_to, .ref a_moout, .int mo_printed, .ref a_mofresh, .int mo_written, .int mo_over, .ref a_modigits])), (a_motape, .inl (cI, 4000, .inl mo_tapeA)), (a_mokind, .inl (cI, 64, .inl mo_kindA)), (a_mofirst, .inl (cI, 64, .inl mo_firstA)), (a_mocount, .inl (cI, 64, .inl mo_countA)), (a_mobegins, .inl (cI, 64, .inl mo_beginsA)), (a_monumbers, .inl (cL, 4200, .inr (.inl mo_numbersA))), (a_moout, .inl (cI, 4000, .inl mo_outA)), (a_mofresh, .inl (cI, 4000, .inl mo_freshA)), (a_modigits, .inl (cI, 20, .inl mo_digitsA))] H → va_D A [(a_xx, .inr (5, [.ref a_tp, .ref a_pp, .ref a_ln, .ref a_rd, .ref a_pr, .int xx_e])), (a_tp, .inr (0, [.ref a_tpb, .int tp_c, .int tp_o])), (a_tpb, .inl (cB, 4000, .inl tp_b)), (a_pp, .inr (0, [.ref a_ppb, .int pp_c, .int pp_o])), (a_ppb, .inl (cB, 4000, .inl pp_b)), (a_ln, .inr (1, [.ref a_lnk, .ref a_lnp, .ref a_lnf, .ref a_lns, .ref a_lnn, .int ln_c, .int ln_m])), (a_lnk, .inl (cI, 64, .inl ln_k)), (a_lnp, .inl (cI, 64, .inl ln_p)), (a_lnf, .inl (cI, 64, .inl ln_f)), (a_lns, .inl (cI, 64, .inl ln_s)), (a_lnn, .inl (cL, 4000, .inr (.inl ln_n))), (a_rd, .inr (3, [.ref a_tk, .ref a_ln, .int rd_f, .int rd_p])), (a_tk, .inr (2, [.ref a_tpb, .int tk_e, .int tk_s, .int tk_p, .int tk_h, .long tk_v, .int tk_f])), (a_pr, .inr (4, [.ref a_pp, .ref a_ln])), (a_mo, .inr (6, [.int mo_thrown, .ref a_motape, .int mo_taped, .int mo_fault, .int mo_place, .int mo_lines, .ref a_mokind, .ref a_mofirst, .ref a_mocount, .ref a_mobegins, .ref a_monumbers, .int mo_used, .int mo_state, .int mo_at, .int mo_many, .int mo_labels, .int mo_sign, .long mo_value, .int mo_from, .int mo_to, .ref a_moout, .int mo_printed, .ref a_mofresh, .int mo_written, .int mo_over, .ref a_modigits])), (a_motape, .inl (cI, 4000, .inl mo_tapeA)), (a_mokind, .inl (cI, 64, .inl mo_kindA)), (a_mofirst, .inl (cI, 64, .inl mo_firstA)), (a_mocount, .inl (cI, 64, .inl mo_countA)), (a_mobegins, .inl (cI, 64, .inl mo_beginsA)), (a_monumbers, .inl (cL, 4200, .inr (.inl mo_numbersA))), (a_moout, .inl (cI, 4000, .inl mo_outA)), (a_mofresh, .inl (cI, 4000, .inl mo_freshA)), (a_modigits, .inl (cI, 20, .inl mo_digitsA))] → va_S A s.heap H locs → lv_has ls 4 [(0, .ref b), (1, .ref a_xx), (2, .ref a_mo), (3, .int x3)] → b_18 xx_e tp_c tp_o tp_b pp_c pp_o pp_b ln_c ln_m ln_k ln_p ln_f ln_s ln_n rd_f rd_p tk_e tk_s tk_p tk_h tk_v tk_f mo_taped mo_fault mo_place mo_lines mo_used mo_state mo_at mo_from mo_printed mo_written mo_over mo_tapeA mo_kindA mo_firstA mo_countA mo_beginsA mo_numbersA mo_outA x3 = some 1 → W p l e room_1 s m #[Value.ref b] below meth c H locs 24 28790 (lw_Z below #[Value.ref b] s) (F0 m 18 ls [])) :
    ∀ (xx_e : Int32) (tp_c : Int32) (tp_o : Int32) (tp_b : Nat → Int32) (pp_c : Int32) (pp_o : Int32) (pp_b : Nat → Int32) (ln_c : Int32) (ln_m : Int32) (ln_k : Nat → Int32) (ln_p : Nat → Int32) (ln_f : Nat → Int32) (ln_s : Nat → Int32) (ln_n : Nat → Int64) (rd_f : Int32) (rd_p : Int32) (tk_e : Int32) (tk_s : Int32) (tk_p : Int32) (tk_h : Int32) (tk_v : Int64) (tk_f : Int32) (mo_taped : Int32) (mo_fault : Int32) (mo_place : Int32) (mo_lines : Int32) (mo_used : Int32) (mo_state : Int32) (mo_at : Int32) (mo_from : Int32) (mo_printed : Int32) (mo_written : Int32) (mo_over : Int32) (mo_tapeA : Nat → Int32) (mo_kindA : Nat → Int32) (mo_firstA : Nat → Int32) (mo_countA : Nat → Int32) (mo_beginsA : Nat → Int32) (mo_numbersA : Nat → Int64) (mo_outA : Nat → Int32) (x3 : Int32) (s0 : Int32) (s2 : Int32) (H : Heap) (locs : List Loc) (ls : Array Slot), va_P D vwCl [(a_xx, .inr (5, [.ref a_tp, .ref a_pp, .ref a_ln, .ref a_rd, .ref a_pr, .int xx_e])), (a_tp, .inr (0, [.ref a_tpb, .int tp_c, .int tp_o])), (a_tpb, .inl (cB, 4000, .inl tp_b)), (a_pp, .inr (0, [.ref a_ppb, .int pp_c, .int pp_o])), (a_ppb, .inl (cB, 4000, .inl pp_b)), (a_ln, .inr (1, [.ref a_lnk, .ref a_lnp, .ref a_lnf, .ref a_lns, .ref a_lnn, .int ln_c, .int ln_m])), (a_lnk, .inl (cI, 64, .inl ln_k)), (a_lnp, .inl (cI, 64, .inl ln_p)), (a_lnf, .inl (cI, 64, .inl ln_f)), (a_lns, .inl (cI, 64, .inl ln_s)), (a_lnn, .inl (cL, 4000, .inr (.inl ln_n))), (a_rd, .inr (3, [.ref a_tk, .ref a_ln, .int rd_f, .int rd_p])), (a_tk, .inr (2, [.ref a_tpb, .int tk_e, .int tk_s, .int tk_p, .int tk_h, .long tk_v, .int tk_f])), (a_pr, .inr (4, [.ref a_pp, .ref a_ln])), (a_mo, .inr (6, [.int mo_thrown, .ref a_motape, .int mo_taped, .int mo_fault, .int mo_place, .int mo_lines, .ref a_mokind, .ref a_mofirst, .ref a_mocount, .ref a_mobegins, .ref a_monumbers, .int mo_used, .int mo_state, .int mo_at, .int mo_many, .int mo_labels, .int mo_sign, .long mo_value, .int mo_from, .int mo_to, .ref a_moout, .int mo_printed, .ref a_mofresh, .int mo_written, .int mo_over, .ref a_modigits])), (a_motape, .inl (cI, 4000, .inl mo_tapeA)), (a_mokind, .inl (cI, 64, .inl mo_kindA)), (a_mofirst, .inl (cI, 64, .inl mo_firstA)), (a_mocount, .inl (cI, 64, .inl mo_countA)), (a_mobegins, .inl (cI, 64, .inl mo_beginsA)), (a_monumbers, .inl (cL, 4200, .inr (.inl mo_numbersA))), (a_moout, .inl (cI, 4000, .inl mo_outA)), (a_mofresh, .inl (cI, 4000, .inl mo_freshA)), (a_modigits, .inl (cI, 20, .inl mo_digitsA))] H → va_D A [(a_xx, .inr (5, [.ref a_tp, .ref a_pp, .ref a_ln, .ref a_rd, .ref a_pr, .int xx_e])), (a_tp, .inr (0, [.ref a_tpb, .int tp_c, .int tp_o])), (a_tpb, .inl (cB, 4000, .inl tp_b)), (a_pp, .inr (0, [.ref a_ppb, .int pp_c, .int pp_o])), (a_ppb, .inl (cB, 4000, .inl pp_b)), (a_ln, .inr (1, [.ref a_lnk, .ref a_lnp, .ref a_lnf, .ref a_lns, .ref a_lnn, .int ln_c, .int ln_m])), (a_lnk, .inl (cI, 64, .inl ln_k)), (a_lnp, .inl (cI, 64, .inl ln_p)), (a_lnf, .inl (cI, 64, .inl ln_f)), (a_lns, .inl (cI, 64, .inl ln_s)), (a_lnn, .inl (cL, 4000, .inr (.inl ln_n))), (a_rd, .inr (3, [.ref a_tk, .ref a_ln, .int rd_f, .int rd_p])), (a_tk, .inr (2, [.ref a_tpb, .int tk_e, .int tk_s, .int tk_p, .int tk_h, .long tk_v, .int tk_f])), (a_pr, .inr (4, [.ref a_pp, .ref a_ln])), (a_mo, .inr (6, [.int mo_thrown, .ref a_motape, .int mo_taped, .int mo_fault, .int mo_place, .int mo_lines, .ref a_mokind, .ref a_mofirst, .ref a_mocount, .ref a_mobegins, .ref a_monumbers, .int mo_used, .int mo_state, .int mo_at, .int mo_many, .int mo_labels, .int mo_sign, .long mo_value, .int mo_from, .int mo_to, .ref a_moout, .int mo_printed, .ref a_mofresh, .int mo_written, .int mo_over, .ref a_modigits])), (a_motape, .inl (cI, 4000, .inl mo_tapeA)), (a_mokind, .inl (cI, 64, .inl mo_kindA)), (a_mofirst, .inl (cI, 64, .inl mo_firstA)), (a_mocount, .inl (cI, 64, .inl mo_countA)), (a_mobegins, .inl (cI, 64, .inl mo_beginsA)), (a_monumbers, .inl (cL, 4200, .inr (.inl mo_numbersA))), (a_moout, .inl (cI, 4000, .inl mo_outA)), (a_mofresh, .inl (cI, 4000, .inl mo_freshA)), (a_modigits, .inl (cI, 20, .inl mo_digitsA))] → va_S A s.heap H locs → lv_has ls 4 [(0, .ref b), (1, .ref a_xx), (2, .ref a_mo), (3, .int x3)] → m_L_law_J333 xs L b_18 xx_e tp_c tp_o tp_b pp_c pp_o pp_b ln_c ln_m ln_k ln_p ln_f ln_s ln_n rd_f rd_p tk_e tk_s tk_p tk_h tk_v tk_f mo_taped mo_fault mo_place mo_lines mo_used mo_state mo_at mo_from mo_printed mo_written mo_over mo_tapeA mo_kindA mo_firstA mo_countA mo_beginsA mo_numbersA mo_outA x3 s0 s2 = some 1 → W p l e room_1 s m #[Value.ref b] below meth c H locs 24 28790 (lw_Z below #[Value.ref b] s) (F0 m 333 ls [.int s0, .ref a_mo, .int s2]) := by
  obtain ⟨⟨hx, hb, hr, hml, hown, htw, hX, hbl, hlocks, hgv⟩, hAf⟩ := id C
  have ht : ∀ w ∈ k_tbl, w.before #[Value.ref b] s = true := fun w h => htw w (List.mem_filter.mp h).1
  have hbA : ¬ A b := fun h => Nat.not_le.mpr hbl (hAf b h)
  have K : kx p s m #[Value.ref b] meth c code 4 ret "LinkTextLaw" k_tbl := ⟨hx, hb, hr, hml, hown, ht, hlocks⟩
  intro xx_e tp_c tp_o tp_b pp_c pp_o pp_b ln_c ln_m ln_k ln_p ln_f ln_s ln_n rd_f rd_p tk_e tk_s tk_p tk_h tk_v tk_f mo_taped mo_fault mo_place mo_lines mo_used mo_state mo_at mo_from mo_printed mo_written mo_over mo_tapeA mo_kindA mo_firstA mo_countA mo_beginsA mo_numbersA mo_outA x3 s0 s2 H locs ls hP hD hS hl h
  unfold m_L_law_J333 at h
  obtain ⟨r_2, hr_2, h⟩ := o_b_s h
  refine kCi (w' := [(a_xx, .inr (5, [.ref a_tp, .ref a_pp, .ref a_ln, .ref a_rd, .ref a_pr, .int xx_e])), (a_tp, .inr (0, [.ref a_tpb, .int tp_c, .int tp_o])), (a_tpb, .inl (cB, 4000, .inl tp_b)), (a_pp, .inr (0, [.ref a_ppb, .int pp_c, .int pp_o])), (a_ppb, .inl (cB, 4000, .inl pp_b)), (a_ln, .inr (1, [.ref a_lnk, .ref a_lnp, .ref a_lnf, .ref a_lns, .ref a_lnn, .int ln_c, .int ln_m])), (a_lnk, .inl (cI, 64, .inl ln_k)), (a_lnp, .inl (cI, 64, .inl ln_p)), (a_lnf, .inl (cI, 64, .inl ln_f)), (a_lns, .inl (cI, 64, .inl ln_s)), (a_lnn, .inl (cL, 4000, .inr (.inl ln_n))), (a_rd, .inr (3, [.ref a_tk, .ref a_ln, .int rd_f, .int rd_p])), (a_tk, .inr (2, [.ref a_tpb, .int tk_e, .int tk_s, .int tk_p, .int tk_h, .long tk_v, .int tk_f])), (a_pr, .inr (4, [.ref a_pp, .ref a_ln])), (a_mo, .inr (6, [.int mo_thrown, .ref a_motape, .int r_2.2.1, .int mo_fault, .int mo_place, .int mo_lines, .ref a_mokind, .ref a_mofirst, .ref a_mocount, .ref a_mobegins, .ref a_monumbers, .int mo_used, .int mo_state, .int mo_at, .int mo_many, .int mo_labels, .int mo_sign, .long mo_value, .int mo_from, .int mo_to, .ref a_moout, .int r_2.2.2.1, .ref a_mofresh, .int mo_written, .int mo_over, .ref a_modigits])), (a_motape, .inl (cI, 4000, .inl r_2.2.2.2)), (a_mokind, .inl (cI, 64, .inl mo_kindA)), (a_mofirst, .inl (cI, 64, .inl mo_firstA)), (a_mocount, .inl (cI, 64, .inl mo_countA)), (a_mobegins, .inl (cI, 64, .inl mo_beginsA)), (a_monumbers, .inl (cL, 4200, .inr (.inl mo_numbersA))), (a_moout, .inl (cI, 4000, .inl mo_outA)), (a_mofresh, .inl (cI, 4000, .inl mo_freshA)), (a_modigits, .inl (cI, 20, .inl mo_digitsA))]) hP hD hS hA [14, 15, 16, 17, 18, 19, 20, 21, 22, 23] [0, 1, 2, 3, 4, 5, 6, 7, 8, 9, 10, 11, 12, 13] [0, 1, 2, 3, 4, 5, 6, 7, 8, 9, 10, 11, 12, 13, 14, 15, 16, 17, 18, 19, 20, 21, 22, 23] (kRunV (rest := [.int s2]) K ev_ok hE hA hP hD hS [14, 15, 16, 17, 18, 19, 20, 21, 22, 23] rfl rfl rfl (c_X6_wipe hr_2) hE.1 0 6 rfl rfl (cwV 1 ht (gV kw_771 kw_772 kw_773 kw_7 kw_774) rfl rfl rfl (by decide +kernel) ⟨Nat.le_of_ble_eq_true rfl, Nat.le_of_ble_eq_true rfl⟩) rfl hl.1 rfl (Nat.le_of_ble_eq_true rfl) dL_law_333 ⟨Nat.le_of_ble_eq_true rfl, Nat.le_of_ble_eq_true rfl⟩) rfl rfl rfl (by decide) rfl rfl rfl (fun H locs hP hD hS => ?_)
  refine lv_icmp_eq (tgt := 341) hx hb dL_law_336 (by decide) (fun c_3 => ?_) (fun c_3 => ?_)
  · replace h := o_t c_3 h
    exact k_L_law_J341 C hE hA hb_18 xx_e tp_c tp_o tp_b pp_c pp_o pp_b ln_c ln_m ln_k ln_p ln_f ln_s ln_n rd_f rd_p tk_e tk_s tk_p tk_h tk_v tk_f r_2.2.1 mo_fault mo_place mo_lines mo_used mo_state mo_at mo_from r_2.2.2.1 mo_written mo_over r_2.2.2.2 mo_kindA mo_firstA mo_countA mo_beginsA mo_numbersA mo_outA x3 _ _ _ hP hD hS (lv_sub hl [0, 1, 2, 3] rfl) h
  · replace h := o_f c_3 h
    refine lv_iconst (v := 0) hx hb dL_law_339 (by decide) ?_
    exact absurd (Option.some.inj h) (by decide)
set_option maxHeartbeats 4000000 in
set_option maxRecDepth 100000 in
theorem k_L_law_J316 {l : Launch} {p : Program} {e : Env} {s : State} {m : MethodId} {below : List Frame} {meth : Method} {c : Code} {A : Nat → Prop} {D : va_G} {cB cI cL : ClassId} {b L : Nat} {xs : Nat → Int32} {a_xx a_tp a_tpb a_pp a_ppb a_ln a_lnk a_lnp a_lnf a_lns a_lnn a_rd a_tk a_pr a_mo a_motape a_mokind a_mofirst a_mocount a_mobegins a_monumbers a_moout a_mofresh a_modigits : Nat} {mo_thrown : Int32} {mo_many : Int32} {mo_labels : Int32} {mo_sign : Int32} {mo_value : Int64} {mo_to : Int32} {mo_freshA : Nat → Int32} {mo_digitsA : Nat → Int32} (C : lw_At p s m meth c b L xs ∧ (∀ q : Nat, A q → s.heap.size ≤ q)) (hE : ev D cB cI cL A s) (hA : ∀ q : Nat, s.heap.size ≤ q → A q) {b_18 : Int32 → Int32 → Int32 → (Nat → Int32) → Int32 → Int32 → (Nat → Int32) → Int32 → Int32 → (Nat → Int32) → (Nat → Int32) → (Nat → Int32) → (Nat → Int32) → (Nat → Int64) → Int32 → Int32 → Int32 → Int32 → Int32 → Int32 → Int64 → Int32 → Int32 → Int32 → Int32 → Int32 → Int32 → Int32 → Int32 → Int32 → Int32 → Int32 → Int32 → (Nat → Int32) → (Nat → Int32) → (Nat → Int32) → (Nat → Int32) → (Nat → Int32) → (Nat → Int64) → (Nat → Int32) → Int32 → Option Int32} (hb_18 : ∀ (xx_e : Int32) (tp_c : Int32) (tp_o : Int32) (tp_b : Nat → Int32) (pp_c : Int32) (pp_o : Int32) (pp_b : Nat → Int32) (ln_c : Int32) (ln_m : Int32) (ln_k : Nat → Int32) (ln_p : Nat → Int32) (ln_f : Nat → Int32) (ln_s : Nat → Int32) (ln_n : Nat → Int64) (rd_f : Int32) (rd_p : Int32) (tk_e : Int32) (tk_s : Int32) (tk_p : Int32) (tk_h : Int32) (tk_v : Int64) (tk_f : Int32) (mo_taped : Int32) (mo_fault : Int32) (mo_place : Int32) (mo_lines : Int32) (mo_used : Int32) (mo_state : Int32) (mo_at : Int32) (mo_from : Int32) (mo_printed : Int32) (mo_written : Int32) (mo_over : Int32) (mo_tapeA : Nat → Int32) (mo_kindA : Nat → Int32) (mo_firstA : Nat → Int32) (mo_countA : Nat → Int32) (mo_beginsA : Nat → Int32) (mo_numbersA : Nat → Int64) (mo_outA : Nat → Int32) (x3 : Int32) (H : Heap) (locs : List Loc) (ls : Array Slot), va_P D vwCl [(a_xx, .inr (5, [.ref a_tp, .ref a_pp, .ref a_ln, .ref a_rd, .ref a_pr, .int xx_e])), (a_tp, .inr (0, [.ref a_tpb, .int tp_c, .int tp_o])), (a_tpb, .inl (cB, 4000, .inl tp_b)), (a_pp, .inr (0, [.ref a_ppb, .int pp_c, .int pp_o])), (a_ppb, .inl (cB, 4000, .inl pp_b)), (a_ln, .inr (1, [.ref a_lnk, .ref a_lnp, .ref a_lnf, .ref a_lns, .ref a_lnn, .int ln_c, .int ln_m])), (a_lnk, .inl (cI, 64, .inl ln_k)), (a_lnp, .inl (cI, 64, .inl ln_p)), (a_lnf, .inl (cI, 64, .inl ln_f)), (a_lns, .inl (cI, 64, .inl ln_s)), (a_lnn, .inl (cL, 4000, .inr (.inl ln_n))), (a_rd, .inr (3, [.ref a_tk, .ref a_ln, .int rd_f, .int rd_p])), (a_tk, .inr (2, [.ref a_tpb, .int tk_e, .int tk_s, .int tk_p, .int tk_h, .long tk_v, .int tk_f])), (a_pr, .inr (4, [.ref a_pp, .ref a_ln])), (a_mo, .inr (6, [.int mo_thrown, .ref a_motape, .int mo_taped, .int mo_fault, .int mo_place, .int mo_lines, .ref a_mokind, .ref a_mofirst, .ref a_mocount, .ref a_mobegins, .ref a_monumbers, .int mo_used, .int mo_state, .int mo_at, .int mo_many, .int mo_labels, .int mo_sign, .long mo_value, .int mo_from, .int mo_to, .ref a_moout, .int mo_printed, .ref a_mofresh, .int mo_written, .int mo_over, .ref a_modigits])), (a_motape, .inl (cI, 4000, .inl mo_tapeA)), (a_mokind, .inl (cI, 64, .inl mo_kindA)), (a_mofirst, .inl (cI, 64, .inl mo_firstA)), (a_mocount, .inl (cI, 64, .inl mo_countA)), (a_mobegins, .inl (cI, 64, .inl mo_beginsA)), (a_monumbers, .inl (cL, 4200, .inr (.inl mo_numbersA))), (a_moout, .inl (cI, 4000, .inl mo_outA)), (a_mofresh, .inl (cI, 4000, .inl mo_freshA)), (a_modigits, .inl (cI, 20, .inl mo_digitsA))] H → va_D A [(a_xx, .inr (5, [.ref a_tp, .ref a_pp, .ref a_ln, .ref a_rd, .ref a_pr, .int xx_e])), (a_tp, .inr (0, [.ref a_tpb, .int tp_c, .int tp_o])), (a_tpb, .inl (cB, 4000, .inl tp_b)), (a_pp, .inr (0, [.ref a_ppb, .int pp_c, .int pp_o])), (a_ppb, .inl (cB, 4000, .inl pp_b)), (a_ln, .inr (1, [.ref a_lnk, .ref a_lnp, .ref a_lnf, .ref a_lns, .ref a_lnn, .int ln_c, .int ln_m])), (a_lnk, .inl (cI, 64, .inl ln_k)), (a_lnp, .inl (cI, 64, .inl ln_p)), (a_lnf, .inl (cI, 64, .inl ln_f)), (a_lns, .inl (cI, 64, .inl ln_s)), (a_lnn, .inl (cL, 4000, .inr (.inl ln_n))), (a_rd, .inr (3, [.ref a_tk, .ref a_ln, .int rd_f, .int rd_p])), (a_tk, .inr (2, [.ref a_tpb, .int tk_e, .int tk_s, .int tk_p, .int tk_h, .long tk_v, .int tk_f])), (a_pr, .inr (4, [.ref a_pp, .ref a_ln])), (a_mo, .inr (6, [.int mo_thrown, .ref a_motape, .int mo_taped, .int mo_fault, .int mo_place, .int mo_lines, .ref a_mokind, .ref a_mofirst, .ref a_mocount, .ref a_mobegins, .ref a_monumbers, .int mo_used, .int mo_state, .int mo_at, .int mo_many, .int mo_labels, .int mo_sign, .long mo_value, .int mo_from, .int mo_to, .ref a_moout, .int mo_printed, .ref a_mofresh, .int mo_written, .int mo_over, .ref a_modigits])), (a_motape, .inl (cI, 4000, .inl mo_tapeA)), (a_mokind, .inl (cI, 64, .inl mo_kindA)), (a_mofirst, .inl (cI, 64, .inl mo_firstA)), (a_mocount, .inl (cI, 64, .inl mo_countA)), (a_mobegins, .inl (cI, 64, .inl mo_beginsA)), (a_monumbers, .inl (cL, 4200, .inr (.inl mo_numbersA))), (a_moout, .inl (cI, 4000, .inl mo_outA)), (a_mofresh, .inl (cI, 4000, .inl mo_freshA)), (a_modigits, .inl (cI, 20, .inl mo_digitsA))] → va_S A s.heap H locs → lv_has ls 4 [(0, .ref b), (1, .ref a_xx), (2, .ref a_mo), (3, .int x3)] → b_18 xx_e tp_c tp_o tp_b pp_c pp_o pp_b ln_c ln_m ln_k ln_p ln_f ln_s ln_n rd_f rd_p tk_e tk_s tk_p tk_h tk_v tk_f mo_taped mo_fault mo_place mo_lines mo_used mo_state mo_at mo_from mo_printed mo_written mo_over mo_tapeA mo_kindA mo_firstA mo_countA mo_beginsA mo_numbersA mo_outA x3 = some 1 → W p l e room_1 s m #[Value.ref b] below meth c H locs 24 28790 (lw_Z below #[Value.ref b] s) (F0 m 18 ls [])) :
    ∀ (xx_e : Int32) (tp_c : Int32) (tp_o : Int32) (tp_b : Nat → Int32) (pp_c : Int32) (pp_o : Int32) (pp_b : Nat → Int32) (ln_c : Int32) (ln_m : Int32) (ln_k : Nat → Int32) (ln_p : Nat → Int32) (ln_f : Nat → Int32) (ln_s : Nat → Int32) (ln_n : Nat → Int64) (rd_f : Int32) (rd_p : Int32) (tk_e : Int32) (tk_s : Int32) (tk_p : Int32) (tk_h : Int32) (tk_v : Int64) (tk_f : Int32) (mo_taped : Int32) (mo_fault : Int32) (mo_place : Int32) (mo_lines : Int32) (mo_used : Int32) (mo_state : Int32) (mo_at : Int32) (mo_from : Int32) (mo_printed : Int32) (mo_written : Int32) (mo_over : Int32) (mo_tapeA : Nat → Int32) (mo_kindA : Nat → Int32) (mo_firstA : Nat → Int32) (mo_countA : Nat → Int32) (mo_beginsA : Nat → Int32) (mo_numbersA : Nat → Int64) (mo_outA : Nat → Int32) (x3 : Int32) (s0 : Int32) (H : Heap) (locs : List Loc) (ls : Array Slot), va_P D vwCl [(a_xx, .inr (5, [.ref a_tp, .ref a_pp, .ref a_ln, .ref a_rd, .ref a_pr, .int xx_e])), (a_tp, .inr (0, [.ref a_tpb, .int tp_c, .int tp_o])), (a_tpb, .inl (cB, 4000, .inl tp_b)), (a_pp, .inr (0, [.ref a_ppb, .int pp_c, .int pp_o])), (a_ppb, .inl (cB, 4000, .inl pp_b)), (a_ln, .inr (1, [.ref a_lnk, .ref a_lnp, .ref a_lnf, .ref a_lns, .ref a_lnn, .int ln_c, .int ln_m])), (a_lnk, .inl (cI, 64, .inl ln_k)), (a_lnp, .inl (cI, 64, .inl ln_p)), (a_lnf, .inl (cI, 64, .inl ln_f)), (a_lns, .inl (cI, 64, .inl ln_s)), (a_lnn, .inl (cL, 4000, .inr (.inl ln_n))), (a_rd, .inr (3, [.ref a_tk, .ref a_ln, .int rd_f, .int rd_p])), (a_tk, .inr (2, [.ref a_tpb, .int tk_e, .int tk_s, .int tk_p, .int tk_h, .long tk_v, .int tk_f])), (a_pr, .inr (4, [.ref a_pp, .ref a_ln])), (a_mo, .inr (6, [.int mo_thrown, .ref a_motape, .int mo_taped, .int mo_fault, .int mo_place, .int mo_lines, .ref a_mokind, .ref a_mofirst, .ref a_mocount, .ref a_mobegins, .ref a_monumbers, .int mo_used, .int mo_state, .int mo_at, .int mo_many, .int mo_labels, .int mo_sign, .long mo_value, .int mo_from, .int mo_to, .ref a_moout, .int mo_printed, .ref a_mofresh, .int mo_written, .int mo_over, .ref a_modigits])), (a_motape, .inl (cI, 4000, .inl mo_tapeA)), (a_mokind, .inl (cI, 64, .inl mo_kindA)), (a_mofirst, .inl (cI, 64, .inl mo_firstA)), (a_mocount, .inl (cI, 64, .inl mo_countA)), (a_mobegins, .inl (cI, 64, .inl mo_beginsA)), (a_monumbers, .inl (cL, 4200, .inr (.inl mo_numbersA))), (a_moout, .inl (cI, 4000, .inl mo_outA)), (a_mofresh, .inl (cI, 4000, .inl mo_freshA)), (a_modigits, .inl (cI, 20, .inl mo_digitsA))] H → va_D A [(a_xx, .inr (5, [.ref a_tp, .ref a_pp, .ref a_ln, .ref a_rd, .ref a_pr, .int xx_e])), (a_tp, .inr (0, [.ref a_tpb, .int tp_c, .int tp_o])), (a_tpb, .inl (cB, 4000, .inl tp_b)), (a_pp, .inr (0, [.ref a_ppb, .int pp_c, .int pp_o])), (a_ppb, .inl (cB, 4000, .inl pp_b)), (a_ln, .inr (1, [.ref a_lnk, .ref a_lnp, .ref a_lnf, .ref a_lns, .ref a_lnn, .int ln_c, .int ln_m])), (a_lnk, .inl (cI, 64, .inl ln_k)), (a_lnp, .inl (cI, 64, .inl ln_p)), (a_lnf, .inl (cI, 64, .inl ln_f)), (a_lns, .inl (cI, 64, .inl ln_s)), (a_lnn, .inl (cL, 4000, .inr (.inl ln_n))), (a_rd, .inr (3, [.ref a_tk, .ref a_ln, .int rd_f, .int rd_p])), (a_tk, .inr (2, [.ref a_tpb, .int tk_e, .int tk_s, .int tk_p, .int tk_h, .long tk_v, .int tk_f])), (a_pr, .inr (4, [.ref a_pp, .ref a_ln])), (a_mo, .inr (6, [.int mo_thrown, .ref a_motape, .int mo_taped, .int mo_fault, .int mo_place, .int mo_lines, .ref a_mokind, .ref a_mofirst, .ref a_mocount, .ref a_mobegins, .ref a_monumbers, .int mo_used, .int mo_state, .int mo_at, .int mo_many, .int mo_labels, .int mo_sign, .long mo_value, .int mo_from, .int mo_to, .ref a_moout, .int mo_printed, .ref a_mofresh, .int mo_written, .int mo_over, .ref a_modigits])), (a_motape, .inl (cI, 4000, .inl mo_tapeA)), (a_mokind, .inl (cI, 64, .inl mo_kindA)), (a_mofirst, .inl (cI, 64, .inl mo_firstA)), (a_mocount, .inl (cI, 64, .inl mo_countA)), (a_mobegins, .inl (cI, 64, .inl mo_beginsA)), (a_monumbers, .inl (cL, 4200, .inr (.inl mo_numbersA))), (a_moout, .inl (cI, 4000, .inl mo_outA)), (a_mofresh, .inl (cI, 4000, .inl mo_freshA)), (a_modigits, .inl (cI, 20, .inl mo_digitsA))] → va_S A s.heap H locs → lv_has ls 4 [(0, .ref b), (1, .ref a_xx), (2, .ref a_mo), (3, .int x3)] → m_L_law_J316 xs L b_18 xx_e tp_c tp_o tp_b pp_c pp_o pp_b ln_c ln_m ln_k ln_p ln_f ln_s ln_n rd_f rd_p tk_e tk_s tk_p tk_h tk_v tk_f mo_taped mo_fault mo_place mo_lines mo_used mo_state mo_at mo_from mo_printed mo_written mo_over mo_tapeA mo_kindA mo_firstA mo_countA mo_beginsA mo_numbersA mo_outA x3 s0 = some 1 → W p l e room_1 s m #[Value.ref b] below meth c H locs 24 28790 (lw_Z below #[Value.ref b] s) (F0 m 316 ls [.int s0, .ref a_xx]) := by
  obtain ⟨⟨hx, hb, hr, hml, hown, htw, hX, hbl, hlocks, hgv⟩, hAf⟩ := id C
  have ht : ∀ w ∈ k_tbl, w.before #[Value.ref b] s = true := fun w h => htw w (List.mem_filter.mp h).1
  have hbA : ¬ A b := fun h => Nat.not_le.mpr hbl (hAf b h)
  have K : kx p s m #[Value.ref b] meth c code 4 ret "LinkTextLaw" k_tbl := ⟨hx, hb, hr, hml, hown, ht, hlocks⟩
  intro xx_e tp_c tp_o tp_b pp_c pp_o pp_b ln_c ln_m ln_k ln_p ln_f ln_s ln_n rd_f rd_p tk_e tk_s tk_p tk_h tk_v tk_f mo_taped mo_fault mo_place mo_lines mo_used mo_state mo_at mo_from mo_printed mo_written mo_over mo_tapeA mo_kindA mo_firstA mo_countA mo_beginsA mo_numbersA mo_outA x3 s0 H locs ls hP hD hS hl h
  unfold m_L_law_J316 at h
  obtain ⟨r_4, hr_4, h⟩ := o_b_s h
  refine kCi (w' := [(a_xx, .inr (5, [.ref a_tp, .ref a_pp, .ref a_ln, .ref a_rd, .ref a_pr, .int xx_e])), (a_tp, .inr (0, [.ref a_tpb, .int r_4.2.1, .int r_4.2.2.1])), (a_tpb, .inl (cB, 4000, .inl r_4.2.2.2.1)), (a_pp, .inr (0, [.ref a_ppb, .int r_4.2.2.2.2.1, .int r_4.2.2.2.2.2])), (a_ppb, .inl (cB, 4000, .inl pp_b)), (a_ln, .inr (1, [.ref a_lnk, .ref a_lnp, .ref a_lnf, .ref a_lns, .ref a_lnn, .int ln_c, .int ln_m])), (a_lnk, .inl (cI, 64, .inl ln_k)), (a_lnp, .inl (cI, 64, .inl ln_p)), (a_lnf, .inl (cI, 64, .inl ln_f)), (a_lns, .inl (cI, 64, .inl ln_s)), (a_lnn, .inl (cL, 4000, .inr (.inl ln_n))), (a_rd, .inr (3, [.ref a_tk, .ref a_ln, .int rd_f, .int rd_p])), (a_tk, .inr (2, [.ref a_tpb, .int tk_e, .int tk_s, .int tk_p, .int tk_h, .long tk_v, .int tk_f])), (a_pr, .inr (4, [.ref a_pp, .ref a_ln])), (a_mo, .inr (6, [.int mo_thrown, .ref a_motape, .int mo_taped, .int mo_fault, .int mo_place, .int mo_lines, .ref a_mokind, .ref a_mofirst, .ref a_mocount, .ref a_mobegins, .ref a_monumbers, .int mo_used, .int mo_state, .int mo_at, .int mo_many, .int mo_labels, .int mo_sign, .long mo_value, .int mo_from, .int mo_to, .ref a_moout, .int mo_printed, .ref a_mofresh, .int mo_written, .int mo_over, .ref a_modigits])), (a_motape, .inl (cI, 4000, .inl mo_tapeA)), (a_mokind, .inl (cI, 64, .inl mo_kindA)), (a_mofirst, .inl (cI, 64, .inl mo_firstA)), (a_mocount, .inl (cI, 64, .inl mo_countA)), (a_mobegins, .inl (cI, 64, .inl mo_beginsA)), (a_monumbers, .inl (cL, 4200, .inr (.inl mo_numbersA))), (a_moout, .inl (cI, 4000, .inl mo_outA)), (a_mofresh, .inl (cI, 4000, .inl mo_freshA)), (a_modigits, .inl (cI, 20, .inl mo_digitsA))]) hP hD hS hA [0, 1, 2, 3, 4, 5, 6, 7, 8, 9, 10, 11, 12, 13] [14, 15, 16, 17, 18, 19, 20, 21, 22, 23] [10, 11, 12, 13, 14, 15, 16, 17, 18, 19, 20, 21, 22, 23, 0, 1, 2, 3, 4, 5, 6, 7, 8, 9] (kRunV (rest := []) K ev_ok hE hA hP hD hS [0, 1, 2, 3, 4, 5, 6, 7, 8, 9, 10, 11, 12, 13] rfl rfl rfl (c_X5_wipe hr_4) hE.1 0 5 rfl rfl (cwV 1 ht (gV kw_497 kw_498 kw_499 kw_1 kw_500) rfl rfl rfl (by decide +kernel) ⟨Nat.le_of_ble_eq_true rfl, Nat.le_of_ble_eq_true rfl⟩) rfl hl.1 rfl (Nat.le_of_ble_eq_true rfl) dL_law_316 ⟨Nat.le_of_ble_eq_true rfl, Nat.le_of_ble_eq_true rfl⟩) rfl rfl rfl (by decide) rfl rfl rfl (fun H locs hP hD hS => ?_)
  refine lv_aload_n hx hb dL_law_319 rfl (lv_at hl 2 rfl) ?_
  refine lv_aload_n hx hb dL_law_320 rfl (lv_at hl 0 rfl) ?_
  refine lv_iload_n hx hb dL_law_321 rfl (lv_at hl 3 rfl) ?_
  refine lv_iconst (v := 1) hx hb dL_law_322 (by decide) ?_
  refine lv_iadd hx hb dL_law_323 ?_
  refine lv_topi (fun t_5 et_5 => ?_)
  replace h := o_let_s et_5 h
  obtain ⟨hz_6, h⟩ := o_in_s h
  refine va_sld hx hb hX hbl hbA hS hz_6 dL_law_324 ?_
  refine lv_if_eq (tgt := 332) hx hb dL_law_325 (by decide) (fun c_7 => ?_) (fun c_7 => ?_)
  · replace h := o_t c_7 h
    refine lv_iconst (v := 0) hx hb dL_law_332 (by decide) ?_
    exact k_L_law_J333 C hE hA hb_18 xx_e r_4.2.1 r_4.2.2.1 r_4.2.2.2.1 r_4.2.2.2.2.1 r_4.2.2.2.2.2 pp_b ln_c ln_m ln_k ln_p ln_f ln_s ln_n rd_f rd_p tk_e tk_s tk_p tk_h tk_v tk_f mo_taped mo_fault mo_place mo_lines mo_used mo_state mo_at mo_from mo_printed mo_written mo_over mo_tapeA mo_kindA mo_firstA mo_countA mo_beginsA mo_numbersA mo_outA x3 (0 : Int32) r_4.1 _ _ _ hP hD hS (lv_sub hl [0, 1, 2, 3] rfl) h
  · replace h := o_f c_7 h
    refine lv_iconst (v := 1) hx hb dL_law_328 (by decide) ?_
    refine lv_goto (tgt := 333) hx hb dL_law_329 (by decide) ?_
    exact k_L_law_J333 C hE hA hb_18 xx_e r_4.2.1 r_4.2.2.1 r_4.2.2.2.1 r_4.2.2.2.2.1 r_4.2.2.2.2.2 pp_b ln_c ln_m ln_k ln_p ln_f ln_s ln_n rd_f rd_p tk_e tk_s tk_p tk_h tk_v tk_f mo_taped mo_fault mo_place mo_lines mo_used mo_state mo_at mo_from mo_printed mo_written mo_over mo_tapeA mo_kindA mo_firstA mo_countA mo_beginsA mo_numbersA mo_outA x3 (1 : Int32) r_4.1 _ _ _ hP hD hS (lv_sub hl [0, 1, 2, 3] rfl) h
set_option maxHeartbeats 4000000 in
set_option maxRecDepth 100000 in
theorem k_L_law_L18 {l : Launch} {p : Program} {e : Env} {s : State} {m : MethodId} {below : List Frame} {meth : Method} {c : Code} {A : Nat → Prop} {D : va_G} {cB cI cL : ClassId} {b L : Nat} {xs : Nat → Int32} {a_xx a_tp a_tpb a_pp a_ppb a_ln a_lnk a_lnp a_lnf a_lns a_lnn a_rd a_tk a_pr a_mo a_motape a_mokind a_mofirst a_mocount a_mobegins a_monumbers a_moout a_mofresh a_modigits : Nat} {mo_thrown : Int32} {mo_many : Int32} {mo_labels : Int32} {mo_sign : Int32} {mo_value : Int64} {mo_to : Int32} {mo_freshA : Nat → Int32} {mo_digitsA : Nat → Int32} (C : lw_At p s m meth c b L xs ∧ (∀ q : Nat, A q → s.heap.size ≤ q)) (hE : ev D cB cI cL A s) (hA : ∀ q : Nat, s.heap.size ≤ q → A q) :
    ∀ (n : Nat) (xx_e : Int32) (tp_c : Int32) (tp_o : Int32) (tp_b : Nat → Int32) (pp_c : Int32) (pp_o : Int32) (pp_b : Nat → Int32) (ln_c : Int32) (ln_m : Int32) (ln_k : Nat → Int32) (ln_p : Nat → Int32) (ln_f : Nat → Int32) (ln_s : Nat → Int32) (ln_n : Nat → Int64) (rd_f : Int32) (rd_p : Int32) (tk_e : Int32) (tk_s : Int32) (tk_p : Int32) (tk_h : Int32) (tk_v : Int64) (tk_f : Int32) (mo_taped : Int32) (mo_fault : Int32) (mo_place : Int32) (mo_lines : Int32) (mo_used : Int32) (mo_state : Int32) (mo_at : Int32) (mo_from : Int32) (mo_printed : Int32) (mo_written : Int32) (mo_over : Int32) (mo_tapeA : Nat → Int32) (mo_kindA : Nat → Int32) (mo_firstA : Nat → Int32) (mo_countA : Nat → Int32) (mo_beginsA : Nat → Int32) (mo_numbersA : Nat → Int64) (mo_outA : Nat → Int32) (x3 : Int32) (H : Heap) (locs : List Loc) (ls : Array Slot), va_P D vwCl [(a_xx, .inr (5, [.ref a_tp, .ref a_pp, .ref a_ln, .ref a_rd, .ref a_pr, .int xx_e])), (a_tp, .inr (0, [.ref a_tpb, .int tp_c, .int tp_o])), (a_tpb, .inl (cB, 4000, .inl tp_b)), (a_pp, .inr (0, [.ref a_ppb, .int pp_c, .int pp_o])), (a_ppb, .inl (cB, 4000, .inl pp_b)), (a_ln, .inr (1, [.ref a_lnk, .ref a_lnp, .ref a_lnf, .ref a_lns, .ref a_lnn, .int ln_c, .int ln_m])), (a_lnk, .inl (cI, 64, .inl ln_k)), (a_lnp, .inl (cI, 64, .inl ln_p)), (a_lnf, .inl (cI, 64, .inl ln_f)), (a_lns, .inl (cI, 64, .inl ln_s)), (a_lnn, .inl (cL, 4000, .inr (.inl ln_n))), (a_rd, .inr (3, [.ref a_tk, .ref a_ln, .int rd_f, .int rd_p])), (a_tk, .inr (2, [.ref a_tpb, .int tk_e, .int tk_s, .int tk_p, .int tk_h, .long tk_v, .int tk_f])), (a_pr, .inr (4, [.ref a_pp, .ref a_ln])), (a_mo, .inr (6, [.int mo_thrown, .ref a_motape, .int mo_taped, .int mo_fault, .int mo_place, .int mo_lines, .ref a_mokind, .ref a_mofirst, .ref a_mocount, .ref a_mobegins, .ref a_monumbers, .int mo_used, .int mo_state, .int mo_at, .int mo_many, .int mo_labels, .int mo_sign, .long mo_value, .int mo_from, .int mo_to, .ref a_moout, .int mo_printed, .ref a_mofresh, .int mo_written, .int mo_over, .ref a_modigits])), (a_motape, .inl (cI, 4000, .inl mo_tapeA)), (a_mokind, .inl (cI, 64, .inl mo_kindA)), (a_mofirst, .inl (cI, 64, .inl mo_firstA)), (a_mocount, .inl (cI, 64, .inl mo_countA)), (a_mobegins, .inl (cI, 64, .inl mo_beginsA)), (a_monumbers, .inl (cL, 4200, .inr (.inl mo_numbersA))), (a_moout, .inl (cI, 4000, .inl mo_outA)), (a_mofresh, .inl (cI, 4000, .inl mo_freshA)), (a_modigits, .inl (cI, 20, .inl mo_digitsA))] H → va_D A [(a_xx, .inr (5, [.ref a_tp, .ref a_pp, .ref a_ln, .ref a_rd, .ref a_pr, .int xx_e])), (a_tp, .inr (0, [.ref a_tpb, .int tp_c, .int tp_o])), (a_tpb, .inl (cB, 4000, .inl tp_b)), (a_pp, .inr (0, [.ref a_ppb, .int pp_c, .int pp_o])), (a_ppb, .inl (cB, 4000, .inl pp_b)), (a_ln, .inr (1, [.ref a_lnk, .ref a_lnp, .ref a_lnf, .ref a_lns, .ref a_lnn, .int ln_c, .int ln_m])), (a_lnk, .inl (cI, 64, .inl ln_k)), (a_lnp, .inl (cI, 64, .inl ln_p)), (a_lnf, .inl (cI, 64, .inl ln_f)), (a_lns, .inl (cI, 64, .inl ln_s)), (a_lnn, .inl (cL, 4000, .inr (.inl ln_n))), (a_rd, .inr (3, [.ref a_tk, .ref a_ln, .int rd_f, .int rd_p])), (a_tk, .inr (2, [.ref a_tpb, .int tk_e, .int tk_s, .int tk_p, .int tk_h, .long tk_v, .int tk_f])), (a_pr, .inr (4, [.ref a_pp, .ref a_ln])), (a_mo, .inr (6, [.int mo_thrown, .ref a_motape, .int mo_taped, .int mo_fault, .int mo_place, .int mo_lines, .ref a_mokind, .ref a_mofirst, .ref a_mocount, .ref a_mobegins, .ref a_monumbers, .int mo_used, .int mo_state, .int mo_at, .int mo_many, .int mo_labels, .int mo_sign, .long mo_value, .int mo_from, .int mo_to, .ref a_moout, .int mo_printed, .ref a_mofresh, .int mo_written, .int mo_over, .ref a_modigits])), (a_motape, .inl (cI, 4000, .inl mo_tapeA)), (a_mokind, .inl (cI, 64, .inl mo_kindA)), (a_mofirst, .inl (cI, 64, .inl mo_firstA)), (a_mocount, .inl (cI, 64, .inl mo_countA)), (a_mobegins, .inl (cI, 64, .inl mo_beginsA)), (a_monumbers, .inl (cL, 4200, .inr (.inl mo_numbersA))), (a_moout, .inl (cI, 4000, .inl mo_outA)), (a_mofresh, .inl (cI, 4000, .inl mo_freshA)), (a_modigits, .inl (cI, 20, .inl mo_digitsA))] → va_S A s.heap H locs → lv_has ls 4 [(0, .ref b), (1, .ref a_xx), (2, .ref a_mo), (3, .int x3)] → m_L_law_L18 xs L  n xx_e tp_c tp_o tp_b pp_c pp_o pp_b ln_c ln_m ln_k ln_p ln_f ln_s ln_n rd_f rd_p tk_e tk_s tk_p tk_h tk_v tk_f mo_taped mo_fault mo_place mo_lines mo_used mo_state mo_at mo_from mo_printed mo_written mo_over mo_tapeA mo_kindA mo_firstA mo_countA mo_beginsA mo_numbersA mo_outA x3 = some 1 → W p l e room_1 s m #[Value.ref b] below meth c H locs 24 28790 (lw_Z below #[Value.ref b] s) (F0 m 18 ls []) := by
  obtain ⟨⟨hx, hb, hr, hml, hown, htw, hX, hbl, hlocks, hgv⟩, hAf⟩ := id C
  have ht : ∀ w ∈ k_tbl, w.before #[Value.ref b] s = true := fun w h => htw w (List.mem_filter.mp h).1
  have hbA : ¬ A b := fun h => Nat.not_le.mpr hbl (hAf b h)
  have K : kx p s m #[Value.ref b] meth c code 4 ret "LinkTextLaw" k_tbl := ⟨hx, hb, hr, hml, hown, ht, hlocks⟩
  intro n
  induction n with
  | zero =>
    intro _ _ _ _ _ _ _ _ _ _ _ _ _ _ _ _ _ _ _ _ _ _ _ _ _ _ _ _ _ _ _ _ _ _ _ _ _ _ _ _ _ _ _ _ _ _ _ _ h
    cases h
  | succ n ih =>
    intro xx_e tp_c tp_o tp_b pp_c pp_o pp_b ln_c ln_m ln_k ln_p ln_f ln_s ln_n rd_f rd_p tk_e tk_s tk_p tk_h tk_v tk_f mo_taped mo_fault mo_place mo_lines mo_used mo_state mo_at mo_from mo_printed mo_written mo_over mo_tapeA mo_kindA mo_firstA mo_countA mo_beginsA mo_numbersA mo_outA x3 H locs ls hP hD hS hl h
    rw [m_L_law_L18] at h
    refine lv_iload_n hx hb dL_law_18 rfl (lv_at hl 3 rfl) ?_
    refine lv_aload_n hx hb dL_law_19 rfl (lv_at hl 0 rfl) ?_
    refine va_slen hx hb hX hbl hbA hS dL_law_20 ?_
    refine lv_bipush (v := 6) hx hb dL_law_21 (by decide) ?_
    refine lv_isub hx hb dL_law_23 ?_
    refine lv_icmp_gt (tgt := 347) hx hb dL_law_24 (by decide) (fun c_8 => ?_) (fun c_8 => ?_)
    · replace h := o_t c_8 h
      refine lv_iconst (v := 1) hx hb dL_law_347 (by decide) ?_
      exact va_forget (fun q hq => hAf _ (hS.2.2 q hq)) (lw_ret hx hb hr hlocks dL_law_348)
    · replace h := o_f c_8 h
      refine lv_aload_n hx hb dL_law_27 rfl (lv_at hl 0 rfl) ?_
      refine lv_iload_n hx hb dL_law_28 rfl (lv_at hl 3 rfl) ?_
      obtain ⟨hz_9, h⟩ := o_in_s h
      refine va_sld hx hb hX hbl hbA hS hz_9 dL_law_29 ?_
      refine lv_topi (fun t_10 et_10 => ?_)
      replace h := o_let_s et_10 h
      refine lv_bipush (v := 7) hx hb dL_law_30 (by decide) ?_
      refine lv_iand hx hb dL_law_32 ?_
      refine lv_topi (fun t_11 et_11 => ?_)
      replace h := o_let_s et_11 h
      by_cases c_12 : t_11 = (0 : Int32)
      · replace h := o_t c_12 h
        refine lv_tableIn (off := 47) (tgt := 80) hx hb dL_law_33 (by rw [c_12]; decide) (by rw [c_12]; decide) (by rw [c_12]; rfl) (by decide) ?_
        refine lv_aload_n hx hb dL_law_80 rfl (lv_at hl 1 rfl) ?_
        refine lv_aload_n hx hb dL_law_81 rfl (lv_at hl 0 rfl) ?_
        refine lv_iload_n hx hb dL_law_82 rfl (lv_at hl 3 rfl) ?_
        refine lv_iconst (v := 1) hx hb dL_law_83 (by decide) ?_
        refine lv_iadd hx hb dL_law_84 ?_
        refine lv_topi (fun t_13 et_13 => ?_)
        replace h := o_let_s et_13 h
        obtain ⟨hz_14, h⟩ := o_in_s h
        refine va_sld hx hb hX hbl hbA hS hz_14 dL_law_85 ?_
        refine lv_topi (fun t_15 et_15 => ?_)
        replace h := o_let_s et_15 h
        refine lv_aload_n hx hb dL_law_86 rfl (lv_at hl 0 rfl) ?_
        refine lv_iload_n hx hb dL_law_87 rfl (lv_at hl 3 rfl) ?_
        refine lv_iconst (v := 2) hx hb dL_law_88 (by decide) ?_
        refine lv_iadd hx hb dL_law_89 ?_
        refine lv_topi (fun t_16 et_16 => ?_)
        replace h := o_let_s et_16 h
        obtain ⟨hz_17, h⟩ := o_in_s h
        refine va_sld hx hb hX hbl hbA hS hz_17 dL_law_90 ?_
        refine lv_topi (fun t_18 et_18 => ?_)
        replace h := o_let_s et_18 h
        refine lv_aload_n hx hb dL_law_91 rfl (lv_at hl 0 rfl) ?_
        refine lv_iload_n hx hb dL_law_92 rfl (lv_at hl 3 rfl) ?_
        refine lv_iconst (v := 3) hx hb dL_law_93 (by decide) ?_
        refine lv_iadd hx hb dL_law_94 ?_
        refine lv_topi (fun t_19 et_19 => ?_)
        replace h := o_let_s et_19 h
        obtain ⟨hz_20, h⟩ := o_in_s h
        refine va_sld hx hb hX hbl hbA hS hz_20 dL_law_95 ?_
        refine lv_topi (fun t_21 et_21 => ?_)
        replace h := o_let_s et_21 h
        refine lv_aload_n hx hb dL_law_96 rfl (lv_at hl 0 rfl) ?_
        refine lv_iload_n hx hb dL_law_97 rfl (lv_at hl 3 rfl) ?_
        refine lv_iconst (v := 4) hx hb dL_law_98 (by decide) ?_
        refine lv_iadd hx hb dL_law_99 ?_
        refine lv_topi (fun t_22 et_22 => ?_)
        replace h := o_let_s et_22 h
        obtain ⟨hz_23, h⟩ := o_in_s h
        refine va_sld hx hb hX hbl hbA hS hz_23 dL_law_100 ?_
        refine lv_topi (fun t_24 et_24 => ?_)
        replace h := o_let_s et_24 h
        refine lv_aload_n hx hb dL_law_101 rfl (lv_at hl 0 rfl) ?_
        refine lv_iload_n hx hb dL_law_102 rfl (lv_at hl 3 rfl) ?_
        refine lv_iconst (v := 5) hx hb dL_law_103 (by decide) ?_
        refine lv_iadd hx hb dL_law_104 ?_
        refine lv_topi (fun t_25 et_25 => ?_)
        replace h := o_let_s et_25 h
        obtain ⟨hz_26, h⟩ := o_in_s h
        refine va_sld hx hb hX hbl hbA hS hz_26 dL_law_105 ?_
        refine lv_topi (fun t_27 et_27 => ?_)
        replace h := o_let_s et_27 h
        obtain ⟨r_28, hr_28, h⟩ := o_b_s h
        refine kCi (w' := [(a_xx, .inr (5, [.ref a_tp, .ref a_pp, .ref a_ln, .ref a_rd, .ref a_pr, .int xx_e])), (a_tp, .inr (0, [.ref a_tpb, .int r_28.2.1, .int r_28.2.2.1])), (a_tpb, .inl (cB, 4000, .inl r_28.2.2.2)), (a_pp, .inr (0, [.ref a_ppb, .int pp_c, .int pp_o])), (a_ppb, .inl (cB, 4000, .inl pp_b)), (a_ln, .inr (1, [.ref a_lnk, .ref a_lnp, .ref a_lnf, .ref a_lns, .ref a_lnn, .int ln_c, .int ln_m])), (a_lnk, .inl (cI, 64, .inl ln_k)), (a_lnp, .inl (cI, 64, .inl ln_p)), (a_lnf, .inl (cI, 64, .inl ln_f)), (a_lns, .inl (cI, 64, .inl ln_s)), (a_lnn, .inl (cL, 4000, .inr (.inl ln_n))), (a_rd, .inr (3, [.ref a_tk, .ref a_ln, .int rd_f, .int rd_p])), (a_tk, .inr (2, [.ref a_tpb, .int tk_e, .int tk_s, .int tk_p, .int tk_h, .long tk_v, .int tk_f])), (a_pr, .inr (4, [.ref a_pp, .ref a_ln])), (a_mo, .inr (6, [.int mo_thrown, .ref a_motape, .int mo_taped, .int mo_fault, .int mo_place, .int mo_lines, .ref a_mokind, .ref a_mofirst, .ref a_mocount, .ref a_mobegins, .ref a_monumbers, .int mo_used, .int mo_state, .int mo_at, .int mo_many, .int mo_labels, .int mo_sign, .long mo_value, .int mo_from, .int mo_to, .ref a_moout, .int mo_printed, .ref a_mofresh, .int mo_written, .int mo_over, .ref a_modigits])), (a_motape, .inl (cI, 4000, .inl mo_tapeA)), (a_mokind, .inl (cI, 64, .inl mo_kindA)), (a_mofirst, .inl (cI, 64, .inl mo_firstA)), (a_mocount, .inl (cI, 64, .inl mo_countA)), (a_mobegins, .inl (cI, 64, .inl mo_beginsA)), (a_monumbers, .inl (cL, 4200, .inr (.inl mo_numbersA))), (a_moout, .inl (cI, 4000, .inl mo_outA)), (a_mofresh, .inl (cI, 4000, .inl mo_freshA)), (a_modigits, .inl (cI, 20, .inl mo_digitsA))]) hP hD hS hA [0, 1, 2, 3, 4, 5, 6, 7, 8, 9, 10, 11, 12, 13] [14, 15, 16, 17, 18, 19, 20, 21, 22, 23] [10, 11, 12, 13, 14, 15, 16, 17, 18, 19, 20, 21, 22, 23, 0, 1, 2, 3, 4, 5, 6, 7, 8, 9] (kRunV (rest := []) K ev_ok hE hA hP hD hS [0, 1, 2, 3, 4, 5, 6, 7, 8, 9, 10, 11, 12, 13] rfl rfl rfl (c_X5_feed hr_28) hE.1 0 5 rfl rfl (cwV 5 ht (gV kw_158 kw_159 kw_160 kw_1 kw_161) rfl rfl rfl (by decide +kernel) ⟨Nat.le_of_ble_eq_true rfl, Nat.le_of_ble_eq_true rfl⟩) rfl hl.1 rfl (Nat.le_of_ble_eq_true rfl) dL_law_106 ⟨Nat.le_of_ble_eq_true rfl, Nat.le_of_ble_eq_true rfl⟩) rfl rfl rfl (by decide) rfl rfl rfl (fun H locs hP hD hS => ?_)
        refine lv_aload_n hx hb dL_law_109 rfl (lv_at hl 2 rfl) ?_
        refine lv_aload_n hx hb dL_law_110 rfl (lv_at hl 0 rfl) ?_
        refine lv_iload_n hx hb dL_law_111 rfl (lv_at hl 3 rfl) ?_
        refine lv_iconst (v := 1) hx hb dL_law_112 (by decide) ?_
        refine lv_iadd hx hb dL_law_113 ?_
        refine lv_topi (fun t_29 et_29 => ?_)
        replace h := o_let_s et_29 h
        obtain ⟨hz_30, h⟩ := o_in_s h
        refine va_sld hx hb hX hbl hbA hS hz_30 dL_law_114 ?_
        refine lv_topi (fun t_31 et_31 => ?_)
        replace h := o_let_s et_31 h
        refine lv_aload_n hx hb dL_law_115 rfl (lv_at hl 0 rfl) ?_
        refine lv_iload_n hx hb dL_law_116 rfl (lv_at hl 3 rfl) ?_
        refine lv_iconst (v := 2) hx hb dL_law_117 (by decide) ?_
        refine lv_iadd hx hb dL_law_118 ?_
        refine lv_topi (fun t_32 et_32 => ?_)
        replace h := o_let_s et_32 h
        obtain ⟨hz_33, h⟩ := o_in_s h
        refine va_sld hx hb hX hbl hbA hS hz_33 dL_law_119 ?_
        refine lv_topi (fun t_34 et_34 => ?_)
        replace h := o_let_s et_34 h
        refine lv_aload_n hx hb dL_law_120 rfl (lv_at hl 0 rfl) ?_
        refine lv_iload_n hx hb dL_law_121 rfl (lv_at hl 3 rfl) ?_
        refine lv_iconst (v := 3) hx hb dL_law_122 (by decide) ?_
        refine lv_iadd hx hb dL_law_123 ?_
        refine lv_topi (fun t_35 et_35 => ?_)
        replace h := o_let_s et_35 h
        obtain ⟨hz_36, h⟩ := o_in_s h
        refine va_sld hx hb hX hbl hbA hS hz_36 dL_law_124 ?_
        refine lv_topi (fun t_37 et_37 => ?_)
        replace h := o_let_s et_37 h
        refine lv_aload_n hx hb dL_law_125 rfl (lv_at hl 0 rfl) ?_
        refine lv_iload_n hx hb dL_law_126 rfl (lv_at hl 3 rfl) ?_
        refine lv_iconst (v := 4) hx hb dL_law_127 (by decide) ?_
        refine lv_iadd hx hb dL_law_128 ?_
        refine lv_topi (fun t_38 et_38 => ?_)
        replace h := o_let_s et_38 h
        obtain ⟨hz_39, h⟩ := o_in_s h
        refine va_sld hx hb hX hbl hbA hS hz_39 dL_law_129 ?_
        refine lv_topi (fun t_40 et_40 => ?_)
        replace h := o_let_s et_40 h
        refine lv_aload_n hx hb dL_law_130 rfl (lv_at hl 0 rfl) ?_
        refine lv_iload_n hx hb dL_law_131 rfl (lv_at hl 3 rfl) ?_
        refine lv_iconst (v := 5) hx hb dL_law_132 (by decide) ?_
        refine lv_iadd hx hb dL_law_133 ?_
        refine lv_topi (fun t_41 et_41 => ?_)
        replace h := o_let_s et_41 h
        obtain ⟨hz_42, h⟩ := o_in_s h
        refine va_sld hx hb hX hbl hbA hS hz_42 dL_law_134 ?_
        refine lv_topi (fun t_43 et_43 => ?_)
        replace h := o_let_s et_43 h
        obtain ⟨r_44, hr_44, h⟩ := o_b_s h
        refine kCi (w' := [(a_xx, .inr (5, [.ref a_tp, .ref a_pp, .ref a_ln, .ref a_rd, .ref a_pr, .int xx_e])), (a_tp, .inr (0, [.ref a_tpb, .int r_28.2.1, .int r_28.2.2.1])), (a_tpb, .inl (cB, 4000, .inl r_28.2.2.2)), (a_pp, .inr (0, [.ref a_ppb, .int pp_c, .int pp_o])), (a_ppb, .inl (cB, 4000, .inl pp_b)), (a_ln, .inr (1, [.ref a_lnk, .ref a_lnp, .ref a_lnf, .ref a_lns, .ref a_lnn, .int ln_c, .int ln_m])), (a_lnk, .inl (cI, 64, .inl ln_k)), (a_lnp, .inl (cI, 64, .inl ln_p)), (a_lnf, .inl (cI, 64, .inl ln_f)), (a_lns, .inl (cI, 64, .inl ln_s)), (a_lnn, .inl (cL, 4000, .inr (.inl ln_n))), (a_rd, .inr (3, [.ref a_tk, .ref a_ln, .int rd_f, .int rd_p])), (a_tk, .inr (2, [.ref a_tpb, .int tk_e, .int tk_s, .int tk_p, .int tk_h, .long tk_v, .int tk_f])), (a_pr, .inr (4, [.ref a_pp, .ref a_ln])), (a_mo, .inr (6, [.int mo_thrown, .ref a_motape, .int r_44.2.1, .int mo_fault, .int mo_place, .int mo_lines, .ref a_mokind, .ref a_mofirst, .ref a_mocount, .ref a_mobegins, .ref a_monumbers, .int mo_used, .int mo_state, .int mo_at, .int mo_many, .int mo_labels, .int mo_sign, .long mo_value, .int mo_from, .int mo_to, .ref a_moout, .int mo_printed, .ref a_mofresh, .int mo_written, .int mo_over, .ref a_modigits])), (a_motape, .inl (cI, 4000, .inl r_44.2.2)), (a_mokind, .inl (cI, 64, .inl mo_kindA)), (a_mofirst, .inl (cI, 64, .inl mo_firstA)), (a_mocount, .inl (cI, 64, .inl mo_countA)), (a_mobegins, .inl (cI, 64, .inl mo_beginsA)), (a_monumbers, .inl (cL, 4200, .inr (.inl mo_numbersA))), (a_moout, .inl (cI, 4000, .inl mo_outA)), (a_mofresh, .inl (cI, 4000, .inl mo_freshA)), (a_modigits, .inl (cI, 20, .inl mo_digitsA))]) hP hD hS hA [14, 15, 16, 17, 18, 19, 20, 21, 22, 23] [0, 1, 2, 3, 4, 5, 6, 7, 8, 9, 10, 11, 12, 13] [0, 1, 2, 3, 4, 5, 6, 7, 8, 9, 10, 11, 12, 13, 14, 15, 16, 17, 18, 19, 20, 21, 22, 23] (kRunV (rest := [.int r_28.1]) K ev_ok hE hA hP hD hS [14, 15, 16, 17, 18, 19, 20, 21, 22, 23] rfl rfl rfl (c_X6_feed hr_44) hE.1 0 6 rfl rfl (cwV 5 ht (gV kw_593 kw_594 kw_595 kw_7 kw_596) rfl rfl rfl (by decide +kernel) ⟨Nat.le_of_ble_eq_true rfl, Nat.le_of_ble_eq_true rfl⟩) rfl hl.1 rfl (Nat.le_of_ble_eq_true rfl) dL_law_135 ⟨Nat.le_of_ble_eq_true rfl, Nat.le_of_ble_eq_true rfl⟩) rfl rfl rfl (by decide) rfl rfl rfl (fun H locs hP hD hS => ?_)
        refine lv_icmp_eq (tgt := 341) hx hb dL_law_138 (by decide) (fun c_45 => ?_) (fun c_45 => ?_)
        · replace h := o_t c_45 h
          exact k_L_law_J341 C hE hA ih xx_e r_28.2.1 r_28.2.2.1 r_28.2.2.2 pp_c pp_o pp_b ln_c ln_m ln_k ln_p ln_f ln_s ln_n rd_f rd_p tk_e tk_s tk_p tk_h tk_v tk_f r_44.2.1 mo_fault mo_place mo_lines mo_used mo_state mo_at mo_from mo_printed mo_written mo_over r_44.2.2 mo_kindA mo_firstA mo_countA mo_beginsA mo_numbersA mo_outA x3 _ _ _ hP hD hS (lv_sub hl [0, 1, 2, 3] rfl) h
        · replace h := o_f c_45 h
          refine lv_iconst (v := 0) hx hb dL_law_141 (by decide) ?_
          exact absurd (Option.some.inj h) (by decide)
      replace h := o_f c_12 h
      by_cases c_46 : t_11 = (1 : Int32)
      · replace h := o_t c_46 h
        refine lv_tableIn (off := 110) (tgt := 143) hx hb dL_law_33 (by rw [c_46]; decide) (by rw [c_46]; decide) (by rw [c_46]; rfl) (by decide) ?_
        refine lv_aload_n hx hb dL_law_143 rfl (lv_at hl 1 rfl) ?_
        refine lv_aload_n hx hb dL_law_144 rfl (lv_at hl 0 rfl) ?_
        refine lv_iload_n hx hb dL_law_145 rfl (lv_at hl 3 rfl) ?_
        refine lv_iconst (v := 1) hx hb dL_law_146 (by decide) ?_
        refine lv_iadd hx hb dL_law_147 ?_
        refine lv_topi (fun t_47 et_47 => ?_)
        replace h := o_let_s et_47 h
        obtain ⟨hz_48, h⟩ := o_in_s h
        refine va_sld hx hb hX hbl hbA hS hz_48 dL_law_148 ?_
        refine lv_topi (fun t_49 et_49 => ?_)
        replace h := o_let_s et_49 h
        obtain ⟨r_50, hr_50, h⟩ := o_b_s h
        refine kCi (w' := [(a_xx, .inr (5, [.ref a_tp, .ref a_pp, .ref a_ln, .ref a_rd, .ref a_pr, .int r_50.2.1])), (a_tp, .inr (0, [.ref a_tpb, .int r_50.2.2.1, .int r_50.2.2.2.1])), (a_tpb, .inl (cB, 4000, .inl tp_b)), (a_pp, .inr (0, [.ref a_ppb, .int pp_c, .int pp_o])), (a_ppb, .inl (cB, 4000, .inl pp_b)), (a_ln, .inr (1, [.ref a_lnk, .ref a_lnp, .ref a_lnf, .ref a_lns, .ref a_lnn, .int r_50.2.2.2.2.1, .int r_50.2.2.2.2.2.1])), (a_lnk, .inl (cI, 64, .inl ln_k)), (a_lnp, .inl (cI, 64, .inl ln_p)), (a_lnf, .inl (cI, 64, .inl ln_f)), (a_lns, .inl (cI, 64, .inl ln_s)), (a_lnn, .inl (cL, 4000, .inr (.inl ln_n))), (a_rd, .inr (3, [.ref a_tk, .ref a_ln, .int r_50.2.2.2.2.2.2.1, .int r_50.2.2.2.2.2.2.2.1])), (a_tk, .inr (2, [.ref a_tpb, .int r_50.2.2.2.2.2.2.2.2.1, .int r_50.2.2.2.2.2.2.2.2.2.1, .int r_50.2.2.2.2.2.2.2.2.2.2.1, .int r_50.2.2.2.2.2.2.2.2.2.2.2.1, .long r_50.2.2.2.2.2.2.2.2.2.2.2.2.1, .int r_50.2.2.2.2.2.2.2.2.2.2.2.2.2])), (a_pr, .inr (4, [.ref a_pp, .ref a_ln])), (a_mo, .inr (6, [.int mo_thrown, .ref a_motape, .int mo_taped, .int mo_fault, .int mo_place, .int mo_lines, .ref a_mokind, .ref a_mofirst, .ref a_mocount, .ref a_mobegins, .ref a_monumbers, .int mo_used, .int mo_state, .int mo_at, .int mo_many, .int mo_labels, .int mo_sign, .long mo_value, .int mo_from, .int mo_to, .ref a_moout, .int mo_printed, .ref a_mofresh, .int mo_written, .int mo_over, .ref a_modigits])), (a_motape, .inl (cI, 4000, .inl mo_tapeA)), (a_mokind, .inl (cI, 64, .inl mo_kindA)), (a_mofirst, .inl (cI, 64, .inl mo_firstA)), (a_mocount, .inl (cI, 64, .inl mo_countA)), (a_mobegins, .inl (cI, 64, .inl mo_beginsA)), (a_monumbers, .inl (cL, 4200, .inr (.inl mo_numbersA))), (a_moout, .inl (cI, 4000, .inl mo_outA)), (a_mofresh, .inl (cI, 4000, .inl mo_freshA)), (a_modigits, .inl (cI, 20, .inl mo_digitsA))]) hP hD hS hA [0, 1, 2, 3, 4, 5, 6, 7, 8, 9, 10, 11, 12, 13] [14, 15, 16, 17, 18, 19, 20, 21, 22, 23] [10, 11, 12, 13, 14, 15, 16, 17, 18, 19, 20, 21, 22, 23, 0, 1, 2, 3, 4, 5, 6, 7, 8, 9] (kRunV (rest := []) K ev_ok hE hA hP hD hS [0, 1, 2, 3, 4, 5, 6, 7, 8, 9, 10, 11, 12, 13] rfl rfl rfl (c_X5_read hr_50) hE.1 0 5 rfl rfl (cwV 1 ht (gV kw_170 kw_171 kw_172 kw_1 kw_173) rfl rfl rfl (by decide +kernel) ⟨Nat.le_of_ble_eq_true rfl, Nat.le_of_ble_eq_true rfl⟩) rfl hl.1 rfl (Nat.le_of_ble_eq_true rfl) dL_law_149 ⟨Nat.le_of_ble_eq_true rfl, Nat.le_of_ble_eq_true rfl⟩) rfl rfl rfl (by decide) rfl rfl rfl (fun H locs hP hD hS => ?_)
        refine lv_aload_n hx hb dL_law_152 rfl (lv_at hl 2 rfl) ?_
        refine lv_aload_n hx hb dL_law_153 rfl (lv_at hl 0 rfl) ?_
        refine lv_iload_n hx hb dL_law_154 rfl (lv_at hl 3 rfl) ?_
        refine lv_iconst (v := 1) hx hb dL_law_155 (by decide) ?_
        refine lv_iadd hx hb dL_law_156 ?_
        refine lv_topi (fun t_51 et_51 => ?_)
        replace h := o_let_s et_51 h
        obtain ⟨hz_52, h⟩ := o_in_s h
        refine va_sld hx hb hX hbl hbA hS hz_52 dL_law_157 ?_
        refine lv_topi (fun t_53 et_53 => ?_)
        replace h := o_let_s et_53 h
        obtain ⟨r_54, hr_54, h⟩ := o_b_s h
        refine kCi (w' := [(a_xx, .inr (5, [.ref a_tp, .ref a_pp, .ref a_ln, .ref a_rd, .ref a_pr, .int r_50.2.1])), (a_tp, .inr (0, [.ref a_tpb, .int r_50.2.2.1, .int r_50.2.2.2.1])), (a_tpb, .inl (cB, 4000, .inl tp_b)), (a_pp, .inr (0, [.ref a_ppb, .int pp_c, .int pp_o])), (a_ppb, .inl (cB, 4000, .inl pp_b)), (a_ln, .inr (1, [.ref a_lnk, .ref a_lnp, .ref a_lnf, .ref a_lns, .ref a_lnn, .int r_50.2.2.2.2.1, .int r_50.2.2.2.2.2.1])), (a_lnk, .inl (cI, 64, .inl ln_k)), (a_lnp, .inl (cI, 64, .inl ln_p)), (a_lnf, .inl (cI, 64, .inl ln_f)), (a_lns, .inl (cI, 64, .inl ln_s)), (a_lnn, .inl (cL, 4000, .inr (.inl ln_n))), (a_rd, .inr (3, [.ref a_tk, .ref a_ln, .int r_50.2.2.2.2.2.2.1, .int r_50.2.2.2.2.2.2.2.1])), (a_tk, .inr (2, [.ref a_tpb, .int r_50.2.2.2.2.2.2.2.2.1, .int r_50.2.2.2.2.2.2.2.2.2.1, .int r_50.2.2.2.2.2.2.2.2.2.2.1, .int r_50.2.2.2.2.2.2.2.2.2.2.2.1, .long r_50.2.2.2.2.2.2.2.2.2.2.2.2.1, .int r_50.2.2.2.2.2.2.2.2.2.2.2.2.2])), (a_pr, .inr (4, [.ref a_pp, .ref a_ln])), (a_mo, .inr (6, [.int mo_thrown, .ref a_motape, .int r_54.2.1, .int r_54.2.2.1, .int r_54.2.2.2.1, .int r_54.2.2.2.2.1, .ref a_mokind, .ref a_mofirst, .ref a_mocount, .ref a_mobegins, .ref a_monumbers, .int r_54.2.2.2.2.2.1, .int r_54.2.2.2.2.2.2.1, .int r_54.2.2.2.2.2.2.2.1, .int mo_many, .int mo_labels, .int mo_sign, .long mo_value, .int r_54.2.2.2.2.2.2.2.2, .int mo_to, .ref a_moout, .int mo_printed, .ref a_mofresh, .int mo_written, .int mo_over, .ref a_modigits])), (a_motape, .inl (cI, 4000, .inl mo_tapeA)), (a_mokind, .inl (cI, 64, .inl mo_kindA)), (a_mofirst, .inl (cI, 64, .inl mo_firstA)), (a_mocount, .inl (cI, 64, .inl mo_countA)), (a_mobegins, .inl (cI, 64, .inl mo_beginsA)), (a_monumbers, .inl (cL, 4200, .inr (.inl mo_numbersA))), (a_moout, .inl (cI, 4000, .inl mo_outA)), (a_mofresh, .inl (cI, 4000, .inl mo_freshA)), (a_modigits, .inl (cI, 20, .inl mo_digitsA))]) hP hD hS hA [14, 15, 16, 17, 18, 19, 20, 21, 22, 23] [0, 1, 2, 3, 4, 5, 6, 7, 8, 9, 10, 11, 12, 13] [0, 1, 2, 3, 4, 5, 6, 7, 8, 9, 10, 11, 12, 13, 14, 15, 16, 17, 18, 19, 20, 21, 22, 23] (kRunV (rest := [.int r_50.1]) K ev_ok hE hA hP hD hS [14, 15, 16, 17, 18, 19, 20, 21, 22, 23] rfl rfl rfl (c_X6_read hr_54) hE.1 0 6 rfl rfl (cwV 1 ht (gV kw_601 kw_602 kw_603 kw_7 kw_604) rfl rfl rfl (by decide +kernel) ⟨Nat.le_of_ble_eq_true rfl, Nat.le_of_ble_eq_true rfl⟩) rfl hl.1 rfl (Nat.le_of_ble_eq_true rfl) dL_law_158 ⟨Nat.le_of_ble_eq_true rfl, Nat.le_of_ble_eq_true rfl⟩) rfl rfl rfl (by decide) rfl rfl rfl (fun H locs hP hD hS => ?_)
        refine lv_icmp_eq (tgt := 341) hx hb dL_law_161 (by decide) (fun c_55 => ?_) (fun c_55 => ?_)
        · replace h := o_t c_55 h
          exact k_L_law_J341 C hE hA ih r_50.2.1 r_50.2.2.1 r_50.2.2.2.1 tp_b pp_c pp_o pp_b r_50.2.2.2.2.1 r_50.2.2.2.2.2.1 ln_k ln_p ln_f ln_s ln_n r_50.2.2.2.2.2.2.1 r_50.2.2.2.2.2.2.2.1 r_50.2.2.2.2.2.2.2.2.1 r_50.2.2.2.2.2.2.2.2.2.1 r_50.2.2.2.2.2.2.2.2.2.2.1 r_50.2.2.2.2.2.2.2.2.2.2.2.1 r_50.2.2.2.2.2.2.2.2.2.2.2.2.1 r_50.2.2.2.2.2.2.2.2.2.2.2.2.2 r_54.2.1 r_54.2.2.1 r_54.2.2.2.1 r_54.2.2.2.2.1 r_54.2.2.2.2.2.1 r_54.2.2.2.2.2.2.1 r_54.2.2.2.2.2.2.2.1 r_54.2.2.2.2.2.2.2.2 mo_printed mo_written mo_over mo_tapeA mo_kindA mo_firstA mo_countA mo_beginsA mo_numbersA mo_outA x3 _ _ _ hP hD hS (lv_sub hl [0, 1, 2, 3] rfl) h
        · replace h := o_f c_55 h
          refine lv_iconst (v := 0) hx hb dL_law_164 (by decide) ?_
          exact absurd (Option.some.inj h) (by decide)
      replace h := o_f c_46 h
      by_cases c_56 : t_11 = (2 : Int32)
      · replace h := o_t c_56 h
        refine lv_tableIn (off := 133) (tgt := 166) hx hb dL_law_33 (by rw [c_56]; decide) (by rw [c_56]; decide) (by rw [c_56]; rfl) (by decide) ?_
        refine lv_aload_n hx hb dL_law_166 rfl (lv_at hl 1 rfl) ?_
        refine lv_aload_n hx hb dL_law_167 rfl (lv_at hl 0 rfl) ?_
        refine lv_iload_n hx hb dL_law_168 rfl (lv_at hl 3 rfl) ?_
        refine lv_iconst (v := 1) hx hb dL_law_169 (by decide) ?_
        refine lv_iadd hx hb dL_law_170 ?_
        refine lv_topi (fun t_57 et_57 => ?_)
        replace h := o_let_s et_57 h
        obtain ⟨hz_58, h⟩ := o_in_s h
        refine va_sld hx hb hX hbl hbA hS hz_58 dL_law_171 ?_
        refine lv_topi (fun t_59 et_59 => ?_)
        replace h := o_let_s et_59 h
        obtain ⟨r_60, hr_60, h⟩ := o_b_s h
        refine kCi (w' := [(a_xx, .inr (5, [.ref a_tp, .ref a_pp, .ref a_ln, .ref a_rd, .ref a_pr, .int xx_e])), (a_tp, .inr (0, [.ref a_tpb, .int tp_c, .int tp_o])), (a_tpb, .inl (cB, 4000, .inl tp_b)), (a_pp, .inr (0, [.ref a_ppb, .int pp_c, .int pp_o])), (a_ppb, .inl (cB, 4000, .inl pp_b)), (a_ln, .inr (1, [.ref a_lnk, .ref a_lnp, .ref a_lnf, .ref a_lns, .ref a_lnn, .int ln_c, .int ln_m])), (a_lnk, .inl (cI, 64, .inl ln_k)), (a_lnp, .inl (cI, 64, .inl ln_p)), (a_lnf, .inl (cI, 64, .inl ln_f)), (a_lns, .inl (cI, 64, .inl ln_s)), (a_lnn, .inl (cL, 4000, .inr (.inl ln_n))), (a_rd, .inr (3, [.ref a_tk, .ref a_ln, .int rd_f, .int rd_p])), (a_tk, .inr (2, [.ref a_tpb, .int tk_e, .int tk_s, .int tk_p, .int tk_h, .long tk_v, .int tk_f])), (a_pr, .inr (4, [.ref a_pp, .ref a_ln])), (a_mo, .inr (6, [.int mo_thrown, .ref a_motape, .int mo_taped, .int mo_fault, .int mo_place, .int mo_lines, .ref a_mokind, .ref a_mofirst, .ref a_mocount, .ref a_mobegins, .ref a_monumbers, .int mo_used, .int mo_state, .int mo_at, .int mo_many, .int mo_labels, .int mo_sign, .long mo_value, .int mo_from, .int mo_to, .ref a_moout, .int mo_printed, .ref a_mofresh, .int mo_written, .int mo_over, .ref a_modigits])), (a_motape, .inl (cI, 4000, .inl mo_tapeA)), (a_mokind, .inl (cI, 64, .inl mo_kindA)), (a_mofirst, .inl (cI, 64, .inl mo_firstA)), (a_mocount, .inl (cI, 64, .inl mo_countA)), (a_mobegins, .inl (cI, 64, .inl mo_beginsA)), (a_monumbers, .inl (cL, 4200, .inr (.inl mo_numbersA))), (a_moout, .inl (cI, 4000, .inl mo_outA)), (a_mofresh, .inl (cI, 4000, .inl mo_freshA)), (a_modigits, .inl (cI, 20, .inl mo_digitsA))]) hP hD hS hA [0, 1, 2, 3, 4, 5, 6, 7, 8, 9, 10, 11, 12, 13] [14, 15, 16, 17, 18, 19, 20, 21, 22, 23] [10, 11, 12, 13, 14, 15, 16, 17, 18, 19, 20, 21, 22, 23, 0, 1, 2, 3, 4, 5, 6, 7, 8, 9] (kRunV (rest := []) K ev_ok hE hA hP hD hS [0, 1, 2, 3, 4, 5, 6, 7, 8, 9, 10, 11, 12, 13] rfl rfl rfl (c_X5_fault hr_60) hE.1 0 5 rfl rfl (cwV 1 ht (gV kw_381 kw_382 kw_383 kw_1 kw_384) rfl rfl rfl (by decide +kernel) ⟨Nat.le_of_ble_eq_true rfl, Nat.le_of_ble_eq_true rfl⟩) rfl hl.1 rfl (Nat.le_of_ble_eq_true rfl) dL_law_172 ⟨Nat.le_of_ble_eq_true rfl, Nat.le_of_ble_eq_true rfl⟩) rfl rfl rfl (by decide) rfl rfl rfl (fun H locs hP hD hS => ?_)
        refine lv_aload_n hx hb dL_law_175 rfl (lv_at hl 2 rfl) ?_
        refine lv_aload_n hx hb dL_law_176 rfl (lv_at hl 0 rfl) ?_
        refine lv_iload_n hx hb dL_law_177 rfl (lv_at hl 3 rfl) ?_
        refine lv_iconst (v := 1) hx hb dL_law_178 (by decide) ?_
        refine lv_iadd hx hb dL_law_179 ?_
        refine lv_topi (fun t_61 et_61 => ?_)
        replace h := o_let_s et_61 h
        obtain ⟨hz_62, h⟩ := o_in_s h
        refine va_sld hx hb hX hbl hbA hS hz_62 dL_law_180 ?_
        refine lv_topi (fun t_63 et_63 => ?_)
        replace h := o_let_s et_63 h
        obtain ⟨r_64, hr_64, h⟩ := o_b_s h
        refine kCi (w' := [(a_xx, .inr (5, [.ref a_tp, .ref a_pp, .ref a_ln, .ref a_rd, .ref a_pr, .int xx_e])), (a_tp, .inr (0, [.ref a_tpb, .int tp_c, .int tp_o])), (a_tpb, .inl (cB, 4000, .inl tp_b)), (a_pp, .inr (0, [.ref a_ppb, .int pp_c, .int pp_o])), (a_ppb, .inl (cB, 4000, .inl pp_b)), (a_ln, .inr (1, [.ref a_lnk, .ref a_lnp, .ref a_lnf, .ref a_lns, .ref a_lnn, .int ln_c, .int ln_m])), (a_lnk, .inl (cI, 64, .inl ln_k)), (a_lnp, .inl (cI, 64, .inl ln_p)), (a_lnf, .inl (cI, 64, .inl ln_f)), (a_lns, .inl (cI, 64, .inl ln_s)), (a_lnn, .inl (cL, 4000, .inr (.inl ln_n))), (a_rd, .inr (3, [.ref a_tk, .ref a_ln, .int rd_f, .int rd_p])), (a_tk, .inr (2, [.ref a_tpb, .int tk_e, .int tk_s, .int tk_p, .int tk_h, .long tk_v, .int tk_f])), (a_pr, .inr (4, [.ref a_pp, .ref a_ln])), (a_mo, .inr (6, [.int mo_thrown, .ref a_motape, .int mo_taped, .int mo_fault, .int mo_place, .int mo_lines, .ref a_mokind, .ref a_mofirst, .ref a_mocount, .ref a_mobegins, .ref a_monumbers, .int mo_used, .int mo_state, .int mo_at, .int mo_many, .int mo_labels, .int mo_sign, .long mo_value, .int mo_from, .int mo_to, .ref a_moout, .int mo_printed, .ref a_mofresh, .int mo_written, .int mo_over, .ref a_modigits])), (a_motape, .inl (cI, 4000, .inl mo_tapeA)), (a_mokind, .inl (cI, 64, .inl mo_kindA)), (a_mofirst, .inl (cI, 64, .inl mo_firstA)), (a_mocount, .inl (cI, 64, .inl mo_countA)), (a_mobegins, .inl (cI, 64, .inl mo_beginsA)), (a_monumbers, .inl (cL, 4200, .inr (.inl mo_numbersA))), (a_moout, .inl (cI, 4000, .inl mo_outA)), (a_mofresh, .inl (cI, 4000, .inl mo_freshA)), (a_modigits, .inl (cI, 20, .inl mo_digitsA))]) hP hD hS hA [14, 15, 16, 17, 18, 19, 20, 21, 22, 23] [0, 1, 2, 3, 4, 5, 6, 7, 8, 9, 10, 11, 12, 13] [0, 1, 2, 3, 4, 5, 6, 7, 8, 9, 10, 11, 12, 13, 14, 15, 16, 17, 18, 19, 20, 21, 22, 23] (kRunV (rest := [.int r_60]) K ev_ok hE hA hP hD hS [14, 15, 16, 17, 18, 19, 20, 21, 22, 23] rfl rfl rfl (c_X6_fault hr_64) hE.1 0 6 rfl rfl (cwV 1 ht (gV kw_714 kw_715 kw_716 kw_7 kw_717) rfl rfl rfl (by decide +kernel) ⟨Nat.le_of_ble_eq_true rfl, Nat.le_of_ble_eq_true rfl⟩) rfl hl.1 rfl (Nat.le_of_ble_eq_true rfl) dL_law_181 ⟨Nat.le_of_ble_eq_true rfl, Nat.le_of_ble_eq_true rfl⟩) rfl rfl rfl (by decide) rfl rfl rfl (fun H locs hP hD hS => ?_)
        refine lv_icmp_eq (tgt := 341) hx hb dL_law_184 (by decide) (fun c_65 => ?_) (fun c_65 => ?_)
        · replace h := o_t c_65 h
          exact k_L_law_J341 C hE hA ih xx_e tp_c tp_o tp_b pp_c pp_o pp_b ln_c ln_m ln_k ln_p ln_f ln_s ln_n rd_f rd_p tk_e tk_s tk_p tk_h tk_v tk_f mo_taped mo_fault mo_place mo_lines mo_used mo_state mo_at mo_from mo_printed mo_written mo_over mo_tapeA mo_kindA mo_firstA mo_countA mo_beginsA mo_numbersA mo_outA x3 _ _ _ hP hD hS (lv_sub hl [0, 1, 2, 3] rfl) h
        · replace h := o_f c_65 h
          refine lv_iconst (v := 0) hx hb dL_law_187 (by decide) ?_
          exact absurd (Option.some.inj h) (by decide)
      replace h := o_f c_56 h
      by_cases c_66 : t_11 = (3 : Int32)
      · replace h := o_t c_66 h
        refine lv_tableIn (off := 156) (tgt := 189) hx hb dL_law_33 (by rw [c_66]; decide) (by rw [c_66]; decide) (by rw [c_66]; rfl) (by decide) ?_
        refine lv_aload_n hx hb dL_law_189 rfl (lv_at hl 1 rfl) ?_
        refine lv_aload_n hx hb dL_law_190 rfl (lv_at hl 0 rfl) ?_
        refine lv_iload_n hx hb dL_law_191 rfl (lv_at hl 3 rfl) ?_
        refine lv_iconst (v := 1) hx hb dL_law_192 (by decide) ?_
        refine lv_iadd hx hb dL_law_193 ?_
        refine lv_topi (fun t_67 et_67 => ?_)
        replace h := o_let_s et_67 h
        obtain ⟨hz_68, h⟩ := o_in_s h
        refine va_sld hx hb hX hbl hbA hS hz_68 dL_law_194 ?_
        refine lv_topi (fun t_69 et_69 => ?_)
        replace h := o_let_s et_69 h
        refine lv_aload_n hx hb dL_law_195 rfl (lv_at hl 0 rfl) ?_
        refine lv_iload_n hx hb dL_law_196 rfl (lv_at hl 3 rfl) ?_
        refine lv_iconst (v := 2) hx hb dL_law_197 (by decide) ?_
        refine lv_iadd hx hb dL_law_198 ?_
        refine lv_topi (fun t_70 et_70 => ?_)
        replace h := o_let_s et_70 h
        obtain ⟨hz_71, h⟩ := o_in_s h
        refine va_sld hx hb hX hbl hbA hS hz_71 dL_law_199 ?_
        refine lv_topi (fun t_72 et_72 => ?_)
        replace h := o_let_s et_72 h
        obtain ⟨r_73, hr_73, h⟩ := o_b_s h
        refine kCi (w' := [(a_xx, .inr (5, [.ref a_tp, .ref a_pp, .ref a_ln, .ref a_rd, .ref a_pr, .int xx_e])), (a_tp, .inr (0, [.ref a_tpb, .int tp_c, .int tp_o])), (a_tpb, .inl (cB, 4000, .inl tp_b)), (a_pp, .inr (0, [.ref a_ppb, .int pp_c, .int pp_o])), (a_ppb, .inl (cB, 4000, .inl pp_b)), (a_ln, .inr (1, [.ref a_lnk, .ref a_lnp, .ref a_lnf, .ref a_lns, .ref a_lnn, .int ln_c, .int ln_m])), (a_lnk, .inl (cI, 64, .inl ln_k)), (a_lnp, .inl (cI, 64, .inl ln_p)), (a_lnf, .inl (cI, 64, .inl ln_f)), (a_lns, .inl (cI, 64, .inl ln_s)), (a_lnn, .inl (cL, 4000, .inr (.inl ln_n))), (a_rd, .inr (3, [.ref a_tk, .ref a_ln, .int rd_f, .int rd_p])), (a_tk, .inr (2, [.ref a_tpb, .int tk_e, .int tk_s, .int tk_p, .int tk_h, .long tk_v, .int tk_f])), (a_pr, .inr (4, [.ref a_pp, .ref a_ln])), (a_mo, .inr (6, [.int mo_thrown, .ref a_motape, .int mo_taped, .int mo_fault, .int mo_place, .int mo_lines, .ref a_mokind, .ref a_mofirst, .ref a_mocount, .ref a_mobegins, .ref a_monumbers, .int mo_used, .int mo_state, .int mo_at, .int mo_many, .int mo_labels, .int mo_sign, .long mo_value, .int mo_from, .int mo_to, .ref a_moout, .int mo_printed, .ref a_mofresh, .int mo_written, .int mo_over, .ref a_modigits])), (a_motape, .inl (cI, 4000, .inl mo_tapeA)), (a_mokind, .inl (cI, 64, .inl mo_kindA)), (a_mofirst, .inl (cI, 64, .inl mo_firstA)), (a_mocount, .inl (cI, 64, .inl mo_countA)), (a_mobegins, .inl (cI, 64, .inl mo_beginsA)), (a_monumbers, .inl (cL, 4200, .inr (.inl mo_numbersA))), (a_moout, .inl (cI, 4000, .inl mo_outA)), (a_mofresh, .inl (cI, 4000, .inl mo_freshA)), (a_modigits, .inl (cI, 20, .inl mo_digitsA))]) hP hD hS hA [0, 1, 2, 3, 4, 5, 6, 7, 8, 9, 10, 11, 12, 13] [14, 15, 16, 17, 18, 19, 20, 21, 22, 23] [10, 11, 12, 13, 14, 15, 16, 17, 18, 19, 20, 21, 22, 23, 0, 1, 2, 3, 4, 5, 6, 7, 8, 9] (kRunV (rest := []) K ev_ok hE hA hP hD hS [0, 1, 2, 3, 4, 5, 6, 7, 8, 9, 10, 11, 12, 13] rfl rfl rfl (c_X5_line hr_73) hE.1 0 5 rfl rfl (cwV 2 ht (gV kw_385 kw_386 kw_387 kw_1 kw_388) rfl rfl rfl (by decide +kernel) ⟨Nat.le_of_ble_eq_true rfl, Nat.le_of_ble_eq_true rfl⟩) rfl hl.1 rfl (Nat.le_of_ble_eq_true rfl) dL_law_200 ⟨Nat.le_of_ble_eq_true rfl, Nat.le_of_ble_eq_true rfl⟩) rfl rfl rfl (by decide) rfl rfl rfl (fun H locs hP hD hS => ?_)
        refine lv_aload_n hx hb dL_law_203 rfl (lv_at hl 2 rfl) ?_
        refine lv_aload_n hx hb dL_law_204 rfl (lv_at hl 0 rfl) ?_
        refine lv_iload_n hx hb dL_law_205 rfl (lv_at hl 3 rfl) ?_
        refine lv_iconst (v := 1) hx hb dL_law_206 (by decide) ?_
        refine lv_iadd hx hb dL_law_207 ?_
        refine lv_topi (fun t_74 et_74 => ?_)
        replace h := o_let_s et_74 h
        obtain ⟨hz_75, h⟩ := o_in_s h
        refine va_sld hx hb hX hbl hbA hS hz_75 dL_law_208 ?_
        refine lv_topi (fun t_76 et_76 => ?_)
        replace h := o_let_s et_76 h
        refine lv_aload_n hx hb dL_law_209 rfl (lv_at hl 0 rfl) ?_
        refine lv_iload_n hx hb dL_law_210 rfl (lv_at hl 3 rfl) ?_
        refine lv_iconst (v := 2) hx hb dL_law_211 (by decide) ?_
        refine lv_iadd hx hb dL_law_212 ?_
        refine lv_topi (fun t_77 et_77 => ?_)
        replace h := o_let_s et_77 h
        obtain ⟨hz_78, h⟩ := o_in_s h
        refine va_sld hx hb hX hbl hbA hS hz_78 dL_law_213 ?_
        refine lv_topi (fun t_79 et_79 => ?_)
        replace h := o_let_s et_79 h
        obtain ⟨r_80, hr_80, h⟩ := o_b_s h
        refine kCi (w' := [(a_xx, .inr (5, [.ref a_tp, .ref a_pp, .ref a_ln, .ref a_rd, .ref a_pr, .int xx_e])), (a_tp, .inr (0, [.ref a_tpb, .int tp_c, .int tp_o])), (a_tpb, .inl (cB, 4000, .inl tp_b)), (a_pp, .inr (0, [.ref a_ppb, .int pp_c, .int pp_o])), (a_ppb, .inl (cB, 4000, .inl pp_b)), (a_ln, .inr (1, [.ref a_lnk, .ref a_lnp, .ref a_lnf, .ref a_lns, .ref a_lnn, .int ln_c, .int ln_m])), (a_lnk, .inl (cI, 64, .inl ln_k)), (a_lnp, .inl (cI, 64, .inl ln_p)), (a_lnf, .inl (cI, 64, .inl ln_f)), (a_lns, .inl (cI, 64, .inl ln_s)), (a_lnn, .inl (cL, 4000, .inr (.inl ln_n))), (a_rd, .inr (3, [.ref a_tk, .ref a_ln, .int rd_f, .int rd_p])), (a_tk, .inr (2, [.ref a_tpb, .int tk_e, .int tk_s, .int tk_p, .int tk_h, .long tk_v, .int tk_f])), (a_pr, .inr (4, [.ref a_pp, .ref a_ln])), (a_mo, .inr (6, [.int mo_thrown, .ref a_motape, .int mo_taped, .int mo_fault, .int mo_place, .int mo_lines, .ref a_mokind, .ref a_mofirst, .ref a_mocount, .ref a_mobegins, .ref a_monumbers, .int mo_used, .int mo_state, .int mo_at, .int mo_many, .int mo_labels, .int mo_sign, .long mo_value, .int mo_from, .int mo_to, .ref a_moout, .int mo_printed, .ref a_mofresh, .int mo_written, .int mo_over, .ref a_modigits])), (a_motape, .inl (cI, 4000, .inl mo_tapeA)), (a_mokind, .inl (cI, 64, .inl mo_kindA)), (a_mofirst, .inl (cI, 64, .inl mo_firstA)), (a_mocount, .inl (cI, 64, .inl mo_countA)), (a_mobegins, .inl (cI, 64, .inl mo_beginsA)), (a_monumbers, .inl (cL, 4200, .inr (.inl mo_numbersA))), (a_moout, .inl (cI, 4000, .inl mo_outA)), (a_mofresh, .inl (cI, 4000, .inl mo_freshA)), (a_modigits, .inl (cI, 20, .inl mo_digitsA))]) hP hD hS hA [14, 15, 16, 17, 18, 19, 20, 21, 22, 23] [0, 1, 2, 3, 4, 5, 6, 7, 8, 9, 10, 11, 12, 13] [0, 1, 2, 3, 4, 5, 6, 7, 8, 9, 10, 11, 12, 13, 14, 15, 16, 17, 18, 19, 20, 21, 22, 23] (kRunV (rest := [.int r_73]) K ev_ok hE hA hP hD hS [14, 15, 16, 17, 18, 19, 20, 21, 22, 23] rfl rfl rfl (c_X6_line hr_80) hE.1 0 6 rfl rfl (cwV 2 ht (gV kw_718 kw_719 kw_720 kw_7 kw_721) rfl rfl rfl (by decide +kernel) ⟨Nat.le_of_ble_eq_true rfl, Nat.le_of_ble_eq_true rfl⟩) rfl hl.1 rfl (Nat.le_of_ble_eq_true rfl) dL_law_214 ⟨Nat.le_of_ble_eq_true rfl, Nat.le_of_ble_eq_true rfl⟩) rfl rfl rfl (by decide) rfl rfl rfl (fun H locs hP hD hS => ?_)
        refine lv_icmp_eq (tgt := 341) hx hb dL_law_217 (by decide) (fun c_81 => ?_) (fun c_81 => ?_)
        · replace h := o_t c_81 h
          exact k_L_law_J341 C hE hA ih xx_e tp_c tp_o tp_b pp_c pp_o pp_b ln_c ln_m ln_k ln_p ln_f ln_s ln_n rd_f rd_p tk_e tk_s tk_p tk_h tk_v tk_f mo_taped mo_fault mo_place mo_lines mo_used mo_state mo_at mo_from mo_printed mo_written mo_over mo_tapeA mo_kindA mo_firstA mo_countA mo_beginsA mo_numbersA mo_outA x3 _ _ _ hP hD hS (lv_sub hl [0, 1, 2, 3] rfl) h
        · replace h := o_f c_81 h
          refine lv_iconst (v := 0) hx hb dL_law_220 (by decide) ?_
          exact absurd (Option.some.inj h) (by decide)
      replace h := o_f c_66 h
      by_cases c_82 : t_11 = (4 : Int32)
      · replace h := o_t c_82 h
        refine lv_tableIn (off := 189) (tgt := 222) hx hb dL_law_33 (by rw [c_82]; decide) (by rw [c_82]; decide) (by rw [c_82]; rfl) (by decide) ?_
        refine lv_aload_n hx hb dL_law_222 rfl (lv_at hl 1 rfl) ?_
        refine lv_aload_n hx hb dL_law_223 rfl (lv_at hl 0 rfl) ?_
        refine lv_iload_n hx hb dL_law_224 rfl (lv_at hl 3 rfl) ?_
        refine lv_iconst (v := 1) hx hb dL_law_225 (by decide) ?_
        refine lv_iadd hx hb dL_law_226 ?_
        refine lv_topi (fun t_83 et_83 => ?_)
        replace h := o_let_s et_83 h
        obtain ⟨hz_84, h⟩ := o_in_s h
        refine va_sld hx hb hX hbl hbA hS hz_84 dL_law_227 ?_
        refine lv_topi (fun t_85 et_85 => ?_)
        replace h := o_let_s et_85 h
        refine lv_aload_n hx hb dL_law_228 rfl (lv_at hl 0 rfl) ?_
        refine lv_iload_n hx hb dL_law_229 rfl (lv_at hl 3 rfl) ?_
        refine lv_iconst (v := 2) hx hb dL_law_230 (by decide) ?_
        refine lv_iadd hx hb dL_law_231 ?_
        refine lv_topi (fun t_86 et_86 => ?_)
        replace h := o_let_s et_86 h
        obtain ⟨hz_87, h⟩ := o_in_s h
        refine va_sld hx hb hX hbl hbA hS hz_87 dL_law_232 ?_
        refine lv_topi (fun t_88 et_88 => ?_)
        replace h := o_let_s et_88 h
        obtain ⟨r_89, hr_89, h⟩ := o_b_s h
        refine kCl (w' := [(a_xx, .inr (5, [.ref a_tp, .ref a_pp, .ref a_ln, .ref a_rd, .ref a_pr, .int xx_e])), (a_tp, .inr (0, [.ref a_tpb, .int tp_c, .int tp_o])), (a_tpb, .inl (cB, 4000, .inl tp_b)), (a_pp, .inr (0, [.ref a_ppb, .int pp_c, .int pp_o])), (a_ppb, .inl (cB, 4000, .inl pp_b)), (a_ln, .inr (1, [.ref a_lnk, .ref a_lnp, .ref a_lnf, .ref a_lns, .ref a_lnn, .int ln_c, .int ln_m])), (a_lnk, .inl (cI, 64, .inl ln_k)), (a_lnp, .inl (cI, 64, .inl ln_p)), (a_lnf, .inl (cI, 64, .inl ln_f)), (a_lns, .inl (cI, 64, .inl ln_s)), (a_lnn, .inl (cL, 4000, .inr (.inl ln_n))), (a_rd, .inr (3, [.ref a_tk, .ref a_ln, .int rd_f, .int rd_p])), (a_tk, .inr (2, [.ref a_tpb, .int tk_e, .int tk_s, .int tk_p, .int tk_h, .long tk_v, .int tk_f])), (a_pr, .inr (4, [.ref a_pp, .ref a_ln])), (a_mo, .inr (6, [.int mo_thrown, .ref a_motape, .int mo_taped, .int mo_fault, .int mo_place, .int mo_lines, .ref a_mokind, .ref a_mofirst, .ref a_mocount, .ref a_mobegins, .ref a_monumbers, .int mo_used, .int mo_state, .int mo_at, .int mo_many, .int mo_labels, .int mo_sign, .long mo_value, .int mo_from, .int mo_to, .ref a_moout, .int mo_printed, .ref a_mofresh, .int mo_written, .int mo_over, .ref a_modigits])), (a_motape, .inl (cI, 4000, .inl mo_tapeA)), (a_mokind, .inl (cI, 64, .inl mo_kindA)), (a_mofirst, .inl (cI, 64, .inl mo_firstA)), (a_mocount, .inl (cI, 64, .inl mo_countA)), (a_mobegins, .inl (cI, 64, .inl mo_beginsA)), (a_monumbers, .inl (cL, 4200, .inr (.inl mo_numbersA))), (a_moout, .inl (cI, 4000, .inl mo_outA)), (a_mofresh, .inl (cI, 4000, .inl mo_freshA)), (a_modigits, .inl (cI, 20, .inl mo_digitsA))]) hP hD hS hA [0, 1, 2, 3, 4, 5, 6, 7, 8, 9, 10, 11, 12, 13] [14, 15, 16, 17, 18, 19, 20, 21, 22, 23] [10, 11, 12, 13, 14, 15, 16, 17, 18, 19, 20, 21, 22, 23, 0, 1, 2, 3, 4, 5, 6, 7, 8, 9] (kRunV (rest := []) K ev_ok hE hA hP hD hS [0, 1, 2, 3, 4, 5, 6, 7, 8, 9, 10, 11, 12, 13] rfl rfl rfl (c_X5_number hr_89) hE.1 0 5 rfl rfl (cwV 2 ht (gV kw_406 kw_407 kw_408 kw_1 kw_409) rfl rfl rfl (by decide +kernel) ⟨Nat.le_of_ble_eq_true rfl, Nat.le_of_ble_eq_true rfl⟩) rfl hl.1 rfl (Nat.le_of_ble_eq_true rfl) dL_law_233 ⟨Nat.le_of_ble_eq_true rfl, Nat.le_of_ble_eq_true rfl⟩) rfl rfl rfl (by decide) rfl rfl rfl (fun H locs hP hD hS => ?_)
        refine lv_aload_n hx hb dL_law_236 rfl (lv_at hl 2 rfl) ?_
        refine lv_aload_n hx hb dL_law_237 rfl (lv_at hl 0 rfl) ?_
        refine lv_iload_n hx hb dL_law_238 rfl (lv_at hl 3 rfl) ?_
        refine lv_iconst (v := 1) hx hb dL_law_239 (by decide) ?_
        refine lv_iadd hx hb dL_law_240 ?_
        refine lv_topi (fun t_90 et_90 => ?_)
        replace h := o_let_s et_90 h
        obtain ⟨hz_91, h⟩ := o_in_s h
        refine va_sld hx hb hX hbl hbA hS hz_91 dL_law_241 ?_
        refine lv_topi (fun t_92 et_92 => ?_)
        replace h := o_let_s et_92 h
        refine lv_aload_n hx hb dL_law_242 rfl (lv_at hl 0 rfl) ?_
        refine lv_iload_n hx hb dL_law_243 rfl (lv_at hl 3 rfl) ?_
        refine lv_iconst (v := 2) hx hb dL_law_244 (by decide) ?_
        refine lv_iadd hx hb dL_law_245 ?_
        refine lv_topi (fun t_93 et_93 => ?_)
        replace h := o_let_s et_93 h
        obtain ⟨hz_94, h⟩ := o_in_s h
        refine va_sld hx hb hX hbl hbA hS hz_94 dL_law_246 ?_
        refine lv_topi (fun t_95 et_95 => ?_)
        replace h := o_let_s et_95 h
        obtain ⟨r_96, hr_96, h⟩ := o_b_s h
        refine kCl (w' := [(a_xx, .inr (5, [.ref a_tp, .ref a_pp, .ref a_ln, .ref a_rd, .ref a_pr, .int xx_e])), (a_tp, .inr (0, [.ref a_tpb, .int tp_c, .int tp_o])), (a_tpb, .inl (cB, 4000, .inl tp_b)), (a_pp, .inr (0, [.ref a_ppb, .int pp_c, .int pp_o])), (a_ppb, .inl (cB, 4000, .inl pp_b)), (a_ln, .inr (1, [.ref a_lnk, .ref a_lnp, .ref a_lnf, .ref a_lns, .ref a_lnn, .int ln_c, .int ln_m])), (a_lnk, .inl (cI, 64, .inl ln_k)), (a_lnp, .inl (cI, 64, .inl ln_p)), (a_lnf, .inl (cI, 64, .inl ln_f)), (a_lns, .inl (cI, 64, .inl ln_s)), (a_lnn, .inl (cL, 4000, .inr (.inl ln_n))), (a_rd, .inr (3, [.ref a_tk, .ref a_ln, .int rd_f, .int rd_p])), (a_tk, .inr (2, [.ref a_tpb, .int tk_e, .int tk_s, .int tk_p, .int tk_h, .long tk_v, .int tk_f])), (a_pr, .inr (4, [.ref a_pp, .ref a_ln])), (a_mo, .inr (6, [.int mo_thrown, .ref a_motape, .int mo_taped, .int mo_fault, .int mo_place, .int mo_lines, .ref a_mokind, .ref a_mofirst, .ref a_mocount, .ref a_mobegins, .ref a_monumbers, .int mo_used, .int mo_state, .int mo_at, .int mo_many, .int mo_labels, .int mo_sign, .long mo_value, .int mo_from, .int mo_to, .ref a_moout, .int mo_printed, .ref a_mofresh, .int mo_written, .int mo_over, .ref a_modigits])), (a_motape, .inl (cI, 4000, .inl mo_tapeA)), (a_mokind, .inl (cI, 64, .inl mo_kindA)), (a_mofirst, .inl (cI, 64, .inl mo_firstA)), (a_mocount, .inl (cI, 64, .inl mo_countA)), (a_mobegins, .inl (cI, 64, .inl mo_beginsA)), (a_monumbers, .inl (cL, 4200, .inr (.inl mo_numbersA))), (a_moout, .inl (cI, 4000, .inl mo_outA)), (a_mofresh, .inl (cI, 4000, .inl mo_freshA)), (a_modigits, .inl (cI, 20, .inl mo_digitsA))]) hP hD hS hA [14, 15, 16, 17, 18, 19, 20, 21, 22, 23] [0, 1, 2, 3, 4, 5, 6, 7, 8, 9, 10, 11, 12, 13] [0, 1, 2, 3, 4, 5, 6, 7, 8, 9, 10, 11, 12, 13, 14, 15, 16, 17, 18, 19, 20, 21, 22, 23] (kRunV (rest := [.long r_89]) K ev_ok hE hA hP hD hS [14, 15, 16, 17, 18, 19, 20, 21, 22, 23] rfl rfl rfl (c_X6_number1 hr_96) hE.1 0 6 rfl rfl (cwV 2 ht (gV kw_726 kw_727 kw_728 kw_7 kw_729) rfl rfl rfl (by decide +kernel) ⟨Nat.le_of_ble_eq_true rfl, Nat.le_of_ble_eq_true rfl⟩) rfl hl.1 rfl (Nat.le_of_ble_eq_true rfl) dL_law_247 ⟨Nat.le_of_ble_eq_true rfl, Nat.le_of_ble_eq_true rfl⟩) rfl rfl rfl (by decide) rfl rfl rfl (fun H locs hP hD hS => ?_)
        refine W.lcmp hx hb dL_law_250 ?_
        refine lv_if_eq (tgt := 341) hx hb dL_law_251 (by decide) (fun c_97 => ?_) (fun c_97 => ?_)
        · replace h := o_t c_97 h
          exact k_L_law_J341 C hE hA ih xx_e tp_c tp_o tp_b pp_c pp_o pp_b ln_c ln_m ln_k ln_p ln_f ln_s ln_n rd_f rd_p tk_e tk_s tk_p tk_h tk_v tk_f mo_taped mo_fault mo_place mo_lines mo_used mo_state mo_at mo_from mo_printed mo_written mo_over mo_tapeA mo_kindA mo_firstA mo_countA mo_beginsA mo_numbersA mo_outA x3 _ _ _ hP hD hS (lv_sub hl [0, 1, 2, 3] rfl) h
        · replace h := o_f c_97 h
          refine lv_iconst (v := 0) hx hb dL_law_254 (by decide) ?_
          exact absurd (Option.some.inj h) (by decide)
      replace h := o_f c_82 h
      by_cases c_98 : t_11 = (5 : Int32)
      · replace h := o_t c_98 h
        refine lv_tableIn (off := 223) (tgt := 256) hx hb dL_law_33 (by rw [c_98]; decide) (by rw [c_98]; decide) (by rw [c_98]; rfl) (by decide) ?_
        refine lv_aload_n hx hb dL_law_256 rfl (lv_at hl 1 rfl) ?_
        refine lv_aload_n hx hb dL_law_257 rfl (lv_at hl 0 rfl) ?_
        refine lv_iload_n hx hb dL_law_258 rfl (lv_at hl 3 rfl) ?_
        refine lv_iconst (v := 1) hx hb dL_law_259 (by decide) ?_
        refine lv_iadd hx hb dL_law_260 ?_
        refine lv_topi (fun t_99 et_99 => ?_)
        replace h := o_let_s et_99 h
        obtain ⟨hz_100, h⟩ := o_in_s h
        refine va_sld hx hb hX hbl hbA hS hz_100 dL_law_261 ?_
        refine lv_topi (fun t_101 et_101 => ?_)
        replace h := o_let_s et_101 h
        obtain ⟨r_102, hr_102, h⟩ := o_b_s h
        refine kCi (w' := [(a_xx, .inr (5, [.ref a_tp, .ref a_pp, .ref a_ln, .ref a_rd, .ref a_pr, .int xx_e])), (a_tp, .inr (0, [.ref a_tpb, .int tp_c, .int tp_o])), (a_tpb, .inl (cB, 4000, .inl tp_b)), (a_pp, .inr (0, [.ref a_ppb, .int pp_c, .int pp_o])), (a_ppb, .inl (cB, 4000, .inl pp_b)), (a_ln, .inr (1, [.ref a_lnk, .ref a_lnp, .ref a_lnf, .ref a_lns, .ref a_lnn, .int ln_c, .int ln_m])), (a_lnk, .inl (cI, 64, .inl ln_k)), (a_lnp, .inl (cI, 64, .inl ln_p)), (a_lnf, .inl (cI, 64, .inl ln_f)), (a_lns, .inl (cI, 64, .inl ln_s)), (a_lnn, .inl (cL, 4000, .inr (.inl ln_n))), (a_rd, .inr (3, [.ref a_tk, .ref a_ln, .int rd_f, .int rd_p])), (a_tk, .inr (2, [.ref a_tpb, .int tk_e, .int tk_s, .int tk_p, .int tk_h, .long tk_v, .int tk_f])), (a_pr, .inr (4, [.ref a_pp, .ref a_ln])), (a_mo, .inr (6, [.int mo_thrown, .ref a_motape, .int mo_taped, .int mo_fault, .int mo_place, .int mo_lines, .ref a_mokind, .ref a_mofirst, .ref a_mocount, .ref a_mobegins, .ref a_monumbers, .int mo_used, .int mo_state, .int mo_at, .int mo_many, .int mo_labels, .int mo_sign, .long mo_value, .int mo_from, .int mo_to, .ref a_moout, .int mo_printed, .ref a_mofresh, .int mo_written, .int mo_over, .ref a_modigits])), (a_motape, .inl (cI, 4000, .inl mo_tapeA)), (a_mokind, .inl (cI, 64, .inl mo_kindA)), (a_mofirst, .inl (cI, 64, .inl mo_firstA)), (a_mocount, .inl (cI, 64, .inl mo_countA)), (a_mobegins, .inl (cI, 64, .inl mo_beginsA)), (a_monumbers, .inl (cL, 4200, .inr (.inl mo_numbersA))), (a_moout, .inl (cI, 4000, .inl mo_outA)), (a_mofresh, .inl (cI, 4000, .inl mo_freshA)), (a_modigits, .inl (cI, 20, .inl mo_digitsA))]) hP hD hS hA [0, 1, 2, 3, 4, 5, 6, 7, 8, 9, 10, 11, 12, 13] [14, 15, 16, 17, 18, 19, 20, 21, 22, 23] [10, 11, 12, 13, 14, 15, 16, 17, 18, 19, 20, 21, 22, 23, 0, 1, 2, 3, 4, 5, 6, 7, 8, 9] (kRunV (rest := []) K ev_ok hE hA hP hD hS [0, 1, 2, 3, 4, 5, 6, 7, 8, 9, 10, 11, 12, 13] rfl rfl rfl (c_X5_print hr_102) hE.1 0 5 rfl rfl (cwV 1 ht (gV kw_418 kw_419 kw_420 kw_1 kw_421) rfl rfl rfl (by decide +kernel) ⟨Nat.le_of_ble_eq_true rfl, Nat.le_of_ble_eq_true rfl⟩) rfl hl.1 rfl (Nat.le_of_ble_eq_true rfl) dL_law_262 ⟨Nat.le_of_ble_eq_true rfl, Nat.le_of_ble_eq_true rfl⟩) rfl rfl rfl (by decide) rfl rfl rfl (fun H locs hP hD hS => ?_)
        refine lv_aload_n hx hb dL_law_265 rfl (lv_at hl 2 rfl) ?_
        refine lv_aload_n hx hb dL_law_266 rfl (lv_at hl 0 rfl) ?_
        refine lv_iload_n hx hb dL_law_267 rfl (lv_at hl 3 rfl) ?_
        refine lv_iconst (v := 1) hx hb dL_law_268 (by decide) ?_
        refine lv_iadd hx hb dL_law_269 ?_
        refine lv_topi (fun t_103 et_103 => ?_)
        replace h := o_let_s et_103 h
        obtain ⟨hz_104, h⟩ := o_in_s h
        refine va_sld hx hb hX hbl hbA hS hz_104 dL_law_270 ?_
        refine lv_topi (fun t_105 et_105 => ?_)
        replace h := o_let_s et_105 h
        obtain ⟨r_106, hr_106, h⟩ := o_b_s h
        refine kCi (w' := [(a_xx, .inr (5, [.ref a_tp, .ref a_pp, .ref a_ln, .ref a_rd, .ref a_pr, .int xx_e])), (a_tp, .inr (0, [.ref a_tpb, .int tp_c, .int tp_o])), (a_tpb, .inl (cB, 4000, .inl tp_b)), (a_pp, .inr (0, [.ref a_ppb, .int pp_c, .int pp_o])), (a_ppb, .inl (cB, 4000, .inl pp_b)), (a_ln, .inr (1, [.ref a_lnk, .ref a_lnp, .ref a_lnf, .ref a_lns, .ref a_lnn, .int ln_c, .int ln_m])), (a_lnk, .inl (cI, 64, .inl ln_k)), (a_lnp, .inl (cI, 64, .inl ln_p)), (a_lnf, .inl (cI, 64, .inl ln_f)), (a_lns, .inl (cI, 64, .inl ln_s)), (a_lnn, .inl (cL, 4000, .inr (.inl ln_n))), (a_rd, .inr (3, [.ref a_tk, .ref a_ln, .int rd_f, .int rd_p])), (a_tk, .inr (2, [.ref a_tpb, .int tk_e, .int tk_s, .int tk_p, .int tk_h, .long tk_v, .int tk_f])), (a_pr, .inr (4, [.ref a_pp, .ref a_ln])), (a_mo, .inr (6, [.int mo_thrown, .ref a_motape, .int mo_taped, .int mo_fault, .int mo_place, .int mo_lines, .ref a_mokind, .ref a_mofirst, .ref a_mocount, .ref a_mobegins, .ref a_monumbers, .int mo_used, .int mo_state, .int mo_at, .int mo_many, .int mo_labels, .int mo_sign, .long mo_value, .int mo_from, .int mo_to, .ref a_moout, .int mo_printed, .ref a_mofresh, .int r_106.2.1, .int r_106.2.2, .ref a_modigits])), (a_motape, .inl (cI, 4000, .inl mo_tapeA)), (a_mokind, .inl (cI, 64, .inl mo_kindA)), (a_mofirst, .inl (cI, 64, .inl mo_firstA)), (a_mocount, .inl (cI, 64, .inl mo_countA)), (a_mobegins, .inl (cI, 64, .inl mo_beginsA)), (a_monumbers, .inl (cL, 4200, .inr (.inl mo_numbersA))), (a_moout, .inl (cI, 4000, .inl mo_outA)), (a_mofresh, .inl (cI, 4000, .inl mo_freshA)), (a_modigits, .inl (cI, 20, .inl mo_digitsA))]) hP hD hS hA [14, 15, 16, 17, 18, 19, 20, 21, 22, 23] [0, 1, 2, 3, 4, 5, 6, 7, 8, 9, 10, 11, 12, 13] [0, 1, 2, 3, 4, 5, 6, 7, 8, 9, 10, 11, 12, 13, 14, 15, 16, 17, 18, 19, 20, 21, 22, 23] (kRunV (rest := [.int r_102]) K ev_ok hE hA hP hD hS [14, 15, 16, 17, 18, 19, 20, 21, 22, 23] rfl rfl rfl (c_X6_print hr_106) hE.1 0 6 rfl rfl (cwV 1 ht (gV kw_730 kw_731 kw_732 kw_7 kw_733) rfl rfl rfl (by decide +kernel) ⟨Nat.le_of_ble_eq_true rfl, Nat.le_of_ble_eq_true rfl⟩) rfl hl.1 rfl (Nat.le_of_ble_eq_true rfl) dL_law_271 ⟨Nat.le_of_ble_eq_true rfl, Nat.le_of_ble_eq_true rfl⟩) rfl rfl rfl (by decide) rfl rfl rfl (fun H locs hP hD hS => ?_)
        refine lv_icmp_eq (tgt := 341) hx hb dL_law_274 (by decide) (fun c_107 => ?_) (fun c_107 => ?_)
        · replace h := o_t c_107 h
          exact k_L_law_J341 C hE hA ih xx_e tp_c tp_o tp_b pp_c pp_o pp_b ln_c ln_m ln_k ln_p ln_f ln_s ln_n rd_f rd_p tk_e tk_s tk_p tk_h tk_v tk_f mo_taped mo_fault mo_place mo_lines mo_used mo_state mo_at mo_from mo_printed r_106.2.1 r_106.2.2 mo_tapeA mo_kindA mo_firstA mo_countA mo_beginsA mo_numbersA mo_outA x3 _ _ _ hP hD hS (lv_sub hl [0, 1, 2, 3] rfl) h
        · replace h := o_f c_107 h
          refine lv_iconst (v := 0) hx hb dL_law_277 (by decide) ?_
          exact absurd (Option.some.inj h) (by decide)
      replace h := o_f c_98 h
      by_cases c_108 : t_11 = (6 : Int32)
      · replace h := o_t c_108 h
        refine lv_tableIn (off := 246) (tgt := 279) hx hb dL_law_33 (by rw [c_108]; decide) (by rw [c_108]; decide) (by rw [c_108]; rfl) (by decide) ?_
        refine lv_aload_n hx hb dL_law_279 rfl (lv_at hl 1 rfl) ?_
        refine lv_aload_n hx hb dL_law_280 rfl (lv_at hl 0 rfl) ?_
        refine lv_iload_n hx hb dL_law_281 rfl (lv_at hl 3 rfl) ?_
        refine lv_iconst (v := 1) hx hb dL_law_282 (by decide) ?_
        refine lv_iadd hx hb dL_law_283 ?_
        refine lv_topi (fun t_109 et_109 => ?_)
        replace h := o_let_s et_109 h
        obtain ⟨hz_110, h⟩ := o_in_s h
        refine va_sld hx hb hX hbl hbA hS hz_110 dL_law_284 ?_
        refine lv_topi (fun t_111 et_111 => ?_)
        replace h := o_let_s et_111 h
        obtain ⟨r_112, hr_112, h⟩ := o_b_s h
        refine kCi (w' := [(a_xx, .inr (5, [.ref a_tp, .ref a_pp, .ref a_ln, .ref a_rd, .ref a_pr, .int xx_e])), (a_tp, .inr (0, [.ref a_tpb, .int tp_c, .int tp_o])), (a_tpb, .inl (cB, 4000, .inl tp_b)), (a_pp, .inr (0, [.ref a_ppb, .int pp_c, .int pp_o])), (a_ppb, .inl (cB, 4000, .inl pp_b)), (a_ln, .inr (1, [.ref a_lnk, .ref a_lnp, .ref a_lnf, .ref a_lns, .ref a_lnn, .int ln_c, .int ln_m])), (a_lnk, .inl (cI, 64, .inl ln_k)), (a_lnp, .inl (cI, 64, .inl ln_p)), (a_lnf, .inl (cI, 64, .inl ln_f)), (a_lns, .inl (cI, 64, .inl ln_s)), (a_lnn, .inl (cL, 4000, .inr (.inl ln_n))), (a_rd, .inr (3, [.ref a_tk, .ref a_ln, .int rd_f, .int rd_p])), (a_tk, .inr (2, [.ref a_tpb, .int tk_e, .int tk_s, .int tk_p, .int tk_h, .long tk_v, .int tk_f])), (a_pr, .inr (4, [.ref a_pp, .ref a_ln])), (a_mo, .inr (6, [.int mo_thrown, .ref a_motape, .int mo_taped, .int mo_fault, .int mo_place, .int mo_lines, .ref a_mokind, .ref a_mofirst, .ref a_mocount, .ref a_mobegins, .ref a_monumbers, .int mo_used, .int mo_state, .int mo_at, .int mo_many, .int mo_labels, .int mo_sign, .long mo_value, .int mo_from, .int mo_to, .ref a_moout, .int mo_printed, .ref a_mofresh, .int mo_written, .int mo_over, .ref a_modigits])), (a_motape, .inl (cI, 4000, .inl mo_tapeA)), (a_mokind, .inl (cI, 64, .inl mo_kindA)), (a_mofirst, .inl (cI, 64, .inl mo_firstA)), (a_mocount, .inl (cI, 64, .inl mo_countA)), (a_mobegins, .inl (cI, 64, .inl mo_beginsA)), (a_monumbers, .inl (cL, 4200, .inr (.inl mo_numbersA))), (a_moout, .inl (cI, 4000, .inl mo_outA)), (a_mofresh, .inl (cI, 4000, .inl mo_freshA)), (a_modigits, .inl (cI, 20, .inl mo_digitsA))]) hP hD hS hA [0, 1, 2, 3, 4, 5, 6, 7, 8, 9, 10, 11, 12, 13] [14, 15, 16, 17, 18, 19, 20, 21, 22, 23] [10, 11, 12, 13, 14, 15, 16, 17, 18, 19, 20, 21, 22, 23, 0, 1, 2, 3, 4, 5, 6, 7, 8, 9] (kRunV (rest := []) K ev_ok hE hA hP hD hS [0, 1, 2, 3, 4, 5, 6, 7, 8, 9, 10, 11, 12, 13] rfl rfl rfl (c_X5_printed hr_112) hE.1 0 5 rfl rfl (cwV 1 ht (gV kw_489 kw_490 kw_491 kw_1 kw_492) rfl rfl rfl (by decide +kernel) ⟨Nat.le_of_ble_eq_true rfl, Nat.le_of_ble_eq_true rfl⟩) rfl hl.1 rfl (Nat.le_of_ble_eq_true rfl) dL_law_285 ⟨Nat.le_of_ble_eq_true rfl, Nat.le_of_ble_eq_true rfl⟩) rfl rfl rfl (by decide) rfl rfl rfl (fun H locs hP hD hS => ?_)
        refine lv_aload_n hx hb dL_law_288 rfl (lv_at hl 2 rfl) ?_
        refine lv_aload_n hx hb dL_law_289 rfl (lv_at hl 0 rfl) ?_
        refine lv_iload_n hx hb dL_law_290 rfl (lv_at hl 3 rfl) ?_
        refine lv_iconst (v := 1) hx hb dL_law_291 (by decide) ?_
        refine lv_iadd hx hb dL_law_292 ?_
        refine lv_topi (fun t_113 et_113 => ?_)
        replace h := o_let_s et_113 h
        obtain ⟨hz_114, h⟩ := o_in_s h
        refine va_sld hx hb hX hbl hbA hS hz_114 dL_law_293 ?_
        refine lv_topi (fun t_115 et_115 => ?_)
        replace h := o_let_s et_115 h
        obtain ⟨r_116, hr_116, h⟩ := o_b_s h
        refine kCi (w' := [(a_xx, .inr (5, [.ref a_tp, .ref a_pp, .ref a_ln, .ref a_rd, .ref a_pr, .int xx_e])), (a_tp, .inr (0, [.ref a_tpb, .int tp_c, .int tp_o])), (a_tpb, .inl (cB, 4000, .inl tp_b)), (a_pp, .inr (0, [.ref a_ppb, .int pp_c, .int pp_o])), (a_ppb, .inl (cB, 4000, .inl pp_b)), (a_ln, .inr (1, [.ref a_lnk, .ref a_lnp, .ref a_lnf, .ref a_lns, .ref a_lnn, .int ln_c, .int ln_m])), (a_lnk, .inl (cI, 64, .inl ln_k)), (a_lnp, .inl (cI, 64, .inl ln_p)), (a_lnf, .inl (cI, 64, .inl ln_f)), (a_lns, .inl (cI, 64, .inl ln_s)), (a_lnn, .inl (cL, 4000, .inr (.inl ln_n))), (a_rd, .inr (3, [.ref a_tk, .ref a_ln, .int rd_f, .int rd_p])), (a_tk, .inr (2, [.ref a_tpb, .int tk_e, .int tk_s, .int tk_p, .int tk_h, .long tk_v, .int tk_f])), (a_pr, .inr (4, [.ref a_pp, .ref a_ln])), (a_mo, .inr (6, [.int mo_thrown, .ref a_motape, .int mo_taped, .int mo_fault, .int mo_place, .int mo_lines, .ref a_mokind, .ref a_mofirst, .ref a_mocount, .ref a_mobegins, .ref a_monumbers, .int mo_used, .int mo_state, .int mo_at, .int mo_many, .int mo_labels, .int mo_sign, .long mo_value, .int mo_from, .int mo_to, .ref a_moout, .int mo_printed, .ref a_mofresh, .int mo_written, .int mo_over, .ref a_modigits])), (a_motape, .inl (cI, 4000, .inl mo_tapeA)), (a_mokind, .inl (cI, 64, .inl mo_kindA)), (a_mofirst, .inl (cI, 64, .inl mo_firstA)), (a_mocount, .inl (cI, 64, .inl mo_countA)), (a_mobegins, .inl (cI, 64, .inl mo_beginsA)), (a_monumbers, .inl (cL, 4200, .inr (.inl mo_numbersA))), (a_moout, .inl (cI, 4000, .inl mo_outA)), (a_mofresh, .inl (cI, 4000, .inl mo_freshA)), (a_modigits, .inl (cI, 20, .inl mo_digitsA))]) hP hD hS hA [14, 15, 16, 17, 18, 19, 20, 21, 22, 23] [0, 1, 2, 3, 4, 5, 6, 7, 8, 9, 10, 11, 12, 13] [0, 1, 2, 3, 4, 5, 6, 7, 8, 9, 10, 11, 12, 13, 14, 15, 16, 17, 18, 19, 20, 21, 22, 23] (kRunV (rest := [.int r_112]) K ev_ok hE hA hP hD hS [14, 15, 16, 17, 18, 19, 20, 21, 22, 23] rfl rfl rfl (c_X6_printed hr_116) hE.1 0 6 rfl rfl (cwV 1 ht (gV kw_767 kw_768 kw_769 kw_7 kw_770) rfl rfl rfl (by decide +kernel) ⟨Nat.le_of_ble_eq_true rfl, Nat.le_of_ble_eq_true rfl⟩) rfl hl.1 rfl (Nat.le_of_ble_eq_true rfl) dL_law_294 ⟨Nat.le_of_ble_eq_true rfl, Nat.le_of_ble_eq_true rfl⟩) rfl rfl rfl (by decide) rfl rfl rfl (fun H locs hP hD hS => ?_)
        refine lv_icmp_eq (tgt := 341) hx hb dL_law_297 (by decide) (fun c_117 => ?_) (fun c_117 => ?_)
        · replace h := o_t c_117 h
          exact k_L_law_J341 C hE hA ih xx_e tp_c tp_o tp_b pp_c pp_o pp_b ln_c ln_m ln_k ln_p ln_f ln_s ln_n rd_f rd_p tk_e tk_s tk_p tk_h tk_v tk_f mo_taped mo_fault mo_place mo_lines mo_used mo_state mo_at mo_from mo_printed mo_written mo_over mo_tapeA mo_kindA mo_firstA mo_countA mo_beginsA mo_numbersA mo_outA x3 _ _ _ hP hD hS (lv_sub hl [0, 1, 2, 3] rfl) h
        · replace h := o_f c_117 h
          refine lv_iconst (v := 0) hx hb dL_law_300 (by decide) ?_
          exact absurd (Option.some.inj h) (by decide)
      replace h := o_f c_108 h
      by_cases c_118 : t_11 = (7 : Int32)
      · replace h := o_t c_118 h
        refine lv_tableIn (off := 269) (tgt := 302) hx hb dL_law_33 (by rw [c_118]; decide) (by rw [c_118]; decide) (by rw [c_118]; rfl) (by decide) ?_
        refine lv_aload_n hx hb dL_law_302 rfl (lv_at hl 1 rfl) ?_
        refine lv_aload_n hx hb dL_law_303 rfl (lv_at hl 0 rfl) ?_
        refine lv_iload_n hx hb dL_law_304 rfl (lv_at hl 3 rfl) ?_
        refine lv_iconst (v := 1) hx hb dL_law_305 (by decide) ?_
        refine lv_iadd hx hb dL_law_306 ?_
        refine lv_topi (fun t_119 et_119 => ?_)
        replace h := o_let_s et_119 h
        obtain ⟨hz_120, h⟩ := o_in_s h
        refine va_sld hx hb hX hbl hbA hS hz_120 dL_law_307 ?_
        refine lv_if_eq (tgt := 315) hx hb dL_law_308 (by decide) (fun c_121 => ?_) (fun c_121 => ?_)
        · replace h := o_t c_121 h
          refine lv_iconst (v := 0) hx hb dL_law_315 (by decide) ?_
          exact k_L_law_J316 C hE hA ih xx_e tp_c tp_o tp_b pp_c pp_o pp_b ln_c ln_m ln_k ln_p ln_f ln_s ln_n rd_f rd_p tk_e tk_s tk_p tk_h tk_v tk_f mo_taped mo_fault mo_place mo_lines mo_used mo_state mo_at mo_from mo_printed mo_written mo_over mo_tapeA mo_kindA mo_firstA mo_countA mo_beginsA mo_numbersA mo_outA x3 (0 : Int32) _ _ _ hP hD hS (lv_sub hl [0, 1, 2, 3] rfl) h
        · replace h := o_f c_121 h
          refine lv_iconst (v := 1) hx hb dL_law_311 (by decide) ?_
          refine lv_goto (tgt := 316) hx hb dL_law_312 (by decide) ?_
          exact k_L_law_J316 C hE hA ih xx_e tp_c tp_o tp_b pp_c pp_o pp_b ln_c ln_m ln_k ln_p ln_f ln_s ln_n rd_f rd_p tk_e tk_s tk_p tk_h tk_v tk_f mo_taped mo_fault mo_place mo_lines mo_used mo_state mo_at mo_from mo_printed mo_written mo_over mo_tapeA mo_kindA mo_firstA mo_countA mo_beginsA mo_numbersA mo_outA x3 (1 : Int32) _ _ _ hP hD hS (lv_sub hl [0, 1, 2, 3] rfl) h
      replace h := o_f c_118 h
      refine lv_tableOut (tgt := 341) hx hb dL_law_33 (by have q0 := sw_ne (n := 0) c_12 (by decide); have q1 := sw_ne (n := 1) c_46 (by decide); have q2 := sw_ne (n := 2) c_56 (by decide); have q3 := sw_ne (n := 3) c_66 (by decide); have q4 := sw_ne (n := 4) c_82 (by decide); have q5 := sw_ne (n := 5) c_98 (by decide); have q6 := sw_ne (n := 6) c_108 (by decide); have q7 := sw_ne (n := 7) c_118 (by decide); omega) (by decide) ?_
      exact k_L_law_J341 C hE hA ih xx_e tp_c tp_o tp_b pp_c pp_o pp_b ln_c ln_m ln_k ln_p ln_f ln_s ln_n rd_f rd_p tk_e tk_s tk_p tk_h tk_v tk_f mo_taped mo_fault mo_place mo_lines mo_used mo_state mo_at mo_from mo_printed mo_written mo_over mo_tapeA mo_kindA mo_firstA mo_countA mo_beginsA mo_numbersA mo_outA x3 _ _ _ hP hD hS (lv_sub hl [0, 1, 2, 3] rfl) h
end
section
def m_law (xs : Nat → Int32) (L : Nat) : Option Int32 := m_L_law_L18 xs L fu 0 0 0 (fun _ => 0) 0 0 (fun _ => 0) 0 0 (fun _ => 0) (fun _ => 0) (fun _ => 0) (fun _ => 0) (fun _ => 0) 0 (-1) 0 0 0 0 0 0 0 (-1) (-1) 0 0 0 0 0 0 0 0 (fun _ => 0) (fun _ => 0) (fun _ => 0) (fun _ => 0) (fun _ => 0) (fun _ => 0) (fun _ => 0) 0
set_option maxHeartbeats 4000000 in
set_option maxRecDepth 100000 in
theorem start_by {p : Program} {e : Env} {s : State} {m : MethodId} {below : List Frame} {meth : Method} {c : Code} (l : Launch) {b L : Nat} {xs : Nat → Int32} (hm : m_law xs L = some 1) (C0 : lw_At p s m meth c b L xs) : W p l e room_1 s m #[Value.ref b] below meth c s.heap [] 0 0 (lw_Z below #[Value.ref b] s) (entryFrame m ([Value.ref b] : List Value).toArray 4) := by
  obtain ⟨hx, hb, hr, hml, hown, htw, hX, hbl, hlocks, hgv⟩ := id C0
  have ht : ∀ w ∈ k_tbl, w.before #[Value.ref b] s = true := fun w h => htw w (List.mem_filter.mp h).1
  have K : kx p s m #[Value.ref b] meth c code 4 ret "LinkTextLaw" k_tbl := ⟨hx, hb, hr, hml, hown, ht, hlocks⟩
  obtain ⟨c0, iS0, hKn0⟩ := u_known (C := RX0) (T := TX0) (N := 3) (n := 3) ht inX0 (ht _ kw_23)
  obtain ⟨c1, iS1, hKn1⟩ := u_known (C := RX1) (T := TX1) (N := 7) (n := 7) ht inX1 (ht _ kw_43)
  obtain ⟨c2, iS2, hKn2⟩ := u_known (C := RX2) (T := TX2) (N := 7) (n := 7) ht inX2 (ht _ kw_81)
  obtain ⟨c3, iS3, hKn3⟩ := u_known (C := RX3) (T := TX3) (N := 4) (n := 4) ht inX3 (ht _ kw_75)
  obtain ⟨c4, iS4, hKn4⟩ := u_known (C := RX4) (T := TX4) (N := 2) (n := 2) ht inX4 (ht _ kw_127)
  obtain ⟨c5, iS5, hKn5⟩ := u_known (C := RX5) (T := TX5) (N := 6) (n := 6) ht inX5 (ht _ kw_15)
  obtain ⟨c6, iS6, hKn6⟩ := u_known (C := RX6) (T := TX6) (N := 26) (n := 26) ht inX6 (ht _ kw_510)
  obtain ⟨D, hKc⟩ : ∃ D : va_G, ∀ (k : Nat) (q : vw_C), vwCl[k]? = some q → u_Kn s q.1 q.2.1 q.2.2 (D.1 k) (D.2 k) := by
    refine ⟨(fun k => if k = 0 then c0 else if k = 1 then c1 else if k = 2 then c2 else if k = 3 then c3 else if k = 4 then c4 else if k = 5 then c5 else c6, fun k => if k = 0 then iS0 else if k = 1 then iS1 else if k = 2 then iS2 else if k = 3 then iS3 else if k = 4 then iS4 else if k = 5 then iS5 else iS6), ?_⟩
    intro k q hq
    match k, hq with
    | 0, hq => cases hq; exact hKn0
    | 1, hq => cases hq; exact hKn1
    | 2, hq => cases hq; exact hKn2
    | 3, hq => cases hq; exact hKn3
    | 4, hq => cases hq; exact hKn4
    | 5, hq => cases hq; exact hKn5
    | 6, hq => cases hq; exact hKn6
    | k + 7, hq => simp [vwCl] at hq
  obtain ⟨cB, kB, mB, hB1, hB2, hB3⟩ := Cond.arrayClass_spec (ht _ kw_41)
  obtain ⟨cI, kI, mI, hI1, hI2, hI3⟩ := Cond.arrayClass_spec (ht _ kw_72)
  obtain ⟨cL, kL, mL, hL1, hL2, hL3⟩ := Cond.arrayClass_spec (ht _ kw_73)
  have hK : va_K D vwCl [(cB, .byte), (cI, .int), (cL, .long)] s := by
    refine ⟨hKc, fun k q hq => ?_⟩
    match k, hq with
    | 0, hq => cases hq; exact ⟨fun n z => ⟨fun k h => (by cases h), kB, hB2, mB, hB3⟩, hB1⟩
    | 1, hq => cases hq; exact ⟨fun n z => ⟨fun k h => (by cases h), kI, hI2, mI, hI3⟩, hI1⟩
    | 2, hq => cases hq; exact ⟨fun n z => ⟨fun k h => (by cases h), kL, hL2, mL, hL3⟩, hL1⟩
    | k + 3, hq => simp at hq
  have hE : ev D cB cI cL (fun q : Nat => s.heap.size ≤ q) s := ⟨hK, ⟨hB1, hI1, hL1⟩, fun w hw hn => va_Nw.of (k_nest_tab hn) (htw w hw)⟩
  have hS : va_S (fun q : Nat => s.heap.size ≤ q) s.heap s.heap [] := va_S.rf
  have hP : va_P D vwCl [] s.heap := fun k q h => by simp at h
  have hD : va_D (fun q : Nat => s.heap.size ≤ q) [] := ⟨fun i j p q h => by simp at h, fun k q h => by simp at h⟩
  have hA : ∀ q : Nat, s.heap.size ≤ q → (fun q : Nat => s.heap.size ≤ q) q := fun _ h => h
  have hl := lv_entry ([.ref b]) (n := 4) (Nat.le_of_ble_eq_true rfl)
  rw [lg_entry_eq]
  generalize (lg_sl ([.ref b]) ++ List.replicate (4 - (lg_sl ([.ref b])).length) Slot.unset).toArray = ls at hl ⊢
  have hl : lv_has ls 4 [(0, .ref b)] := hl
  refine va_new (ci := 5) (fs := [.null, .null, .null, .null, .null, .int 0]) (C := RX5) (T := TX5) (N := 6) hx hb ht inX5 tyX5 tyX5_ok hown (ht _ kw_14) (ht _ kw_15) (ht _ kw_1) hE.1 hP hD hS hA rfl (by decide) (Nat.le_of_ble_eq_true rfl) (Nat.le_of_ble_eq_true rfl) dL_law_0 (fun q_0 H hP hD hS => ?_)
  have hP : va_P D vwCl [(q_0, .inr (5, [.null, .null, .null, .null, .null, .int 0]))] H := hP
  have hD : va_D (fun q : Nat => s.heap.size ≤ q) [(q_0, .inr (5, [.null, .null, .null, .null, .null, .int 0]))] := hD
  refine W.widen (k := 1) (n := 6) (Nat.le_of_ble_eq_true rfl) (Nat.le_of_ble_eq_true rfl) ?_
  refine lv_dup hx hb dL_law_3 rfl ?_
  refine kCn (w' := fun (u_4 : Nat → Nat) => [(q_0, .inr (5, [.ref (u_4 0), .ref (u_4 2), .ref (u_4 4), .ref (u_4 10), .ref (u_4 12), .int 0])), ((u_4 0), .inr (0, [.ref (u_4 1), .int 0, .int 0])), ((u_4 1), .inl (cB, 4000, .inl (fun _ => 0))), ((u_4 2), .inr (0, [.ref (u_4 3), .int 0, .int 0])), ((u_4 3), .inl (cB, 4000, .inl (fun _ => 0))), ((u_4 4), .inr (1, [.ref (u_4 5), .ref (u_4 6), .ref (u_4 7), .ref (u_4 8), .ref (u_4 9), .int 0, .int 0])), ((u_4 5), .inl (cI, 64, .inl (fun _ => 0))), ((u_4 6), .inl (cI, 64, .inl (fun _ => 0))), ((u_4 7), .inl (cI, 64, .inl (fun _ => 0))), ((u_4 8), .inl (cI, 64, .inl (fun _ => 0))), ((u_4 9), .inl (cL, 4000, .inr (.inl (fun _ => 0)))), ((u_4 10), .inr (3, [.ref (u_4 11), .ref (u_4 4), .int 0, .int (-1)])), ((u_4 11), .inr (2, [.ref (u_4 1), .int 0, .int 0, .int 0, .int 0, .long 0, .int 0])), ((u_4 12), .inr (4, [.ref (u_4 2), .ref (u_4 4)]))]) hP hD hS hA [0] [] [0, 1, 2, 3, 4, 5, 6, 7, 8, 9, 10, 11, 12, 13] (kRunI (rest := [.ref q_0]) K ev_ok hE hA hP hD hS [0] rfl rfl rfl n_X5_init (cwI 0 ht (gC kw_18) rfl rfl rfl (ht _ kw_1) (ht _ kw_16) (ht _ kw_17) rfl (by decide +kernel) ⟨Nat.le_of_ble_eq_true rfl, Nat.le_of_ble_eq_true rfl⟩) rfl hl.1 rfl (Nat.le_of_ble_eq_true rfl) dL_law_4 ⟨Nat.le_of_ble_eq_true rfl, Nat.le_of_ble_eq_true rfl⟩) rfl rfl rfl (by decide) rfl (fun _ => rfl) (fun _ => rfl) (fun u_4 H locs hP hD hS => ?_)
  refine W.widen (k := 14) (n := 12288) (Nat.le_of_ble_eq_true rfl) (Nat.le_of_ble_eq_true rfl) ?_
  have hP : va_P D vwCl [(q_0, .inr (5, [.ref (u_4 0), .ref (u_4 2), .ref (u_4 4), .ref (u_4 10), .ref (u_4 12), .int 0])), ((u_4 0), .inr (0, [.ref (u_4 1), .int 0, .int 0])), ((u_4 1), .inl (cB, 4000, .inl (fun _ => 0))), ((u_4 2), .inr (0, [.ref (u_4 3), .int 0, .int 0])), ((u_4 3), .inl (cB, 4000, .inl (fun _ => 0))), ((u_4 4), .inr (1, [.ref (u_4 5), .ref (u_4 6), .ref (u_4 7), .ref (u_4 8), .ref (u_4 9), .int 0, .int 0])), ((u_4 5), .inl (cI, 64, .inl (fun _ => 0))), ((u_4 6), .inl (cI, 64, .inl (fun _ => 0))), ((u_4 7), .inl (cI, 64, .inl (fun _ => 0))), ((u_4 8), .inl (cI, 64, .inl (fun _ => 0))), ((u_4 9), .inl (cL, 4000, .inr (.inl (fun _ => 0)))), ((u_4 10), .inr (3, [.ref (u_4 11), .ref (u_4 4), .int 0, .int (-1)])), ((u_4 11), .inr (2, [.ref (u_4 1), .int 0, .int 0, .int 0, .int 0, .long 0, .int 0])), ((u_4 12), .inr (4, [.ref (u_4 2), .ref (u_4 4)]))] H := hP
  have hD : va_D (fun q : Nat => s.heap.size ≤ q) [(q_0, .inr (5, [.ref (u_4 0), .ref (u_4 2), .ref (u_4 4), .ref (u_4 10), .ref (u_4 12), .int 0])), ((u_4 0), .inr (0, [.ref (u_4 1), .int 0, .int 0])), ((u_4 1), .inl (cB, 4000, .inl (fun _ => 0))), ((u_4 2), .inr (0, [.ref (u_4 3), .int 0, .int 0])), ((u_4 3), .inl (cB, 4000, .inl (fun _ => 0))), ((u_4 4), .inr (1, [.ref (u_4 5), .ref (u_4 6), .ref (u_4 7), .ref (u_4 8), .ref (u_4 9), .int 0, .int 0])), ((u_4 5), .inl (cI, 64, .inl (fun _ => 0))), ((u_4 6), .inl (cI, 64, .inl (fun _ => 0))), ((u_4 7), .inl (cI, 64, .inl (fun _ => 0))), ((u_4 8), .inl (cI, 64, .inl (fun _ => 0))), ((u_4 9), .inl (cL, 4000, .inr (.inl (fun _ => 0)))), ((u_4 10), .inr (3, [.ref (u_4 11), .ref (u_4 4), .int 0, .int (-1)])), ((u_4 11), .inr (2, [.ref (u_4 1), .int 0, .int 0, .int 0, .int 0, .long 0, .int 0])), ((u_4 12), .inr (4, [.ref (u_4 2), .ref (u_4 4)]))] := hD
  refine lv_astore_n (lv' := [(1, .ref q_0), (0, .ref b)]) hx hb dL_law_7 rfl hl (by decide) rfl (fun ls hl => ?_)
  refine va_new (ci := 6) (fs := [.int 0, .null, .int 0, .int 0, .int 0, .int 0, .null, .null, .null, .null, .null, .int 0, .int 0, .int 0, .int 0, .int 0, .int 0, .long 0, .int 0, .int 0, .null, .int 0, .null, .int 0, .int 0, .null]) (C := RX6) (T := TX6) (N := 26) hx hb ht inX6 tyX6 tyX6_ok hown (ht _ kw_509) (ht _ kw_510) (ht _ kw_7) hE.1 hP hD hS hA rfl (by decide) (Nat.le_of_ble_eq_true rfl) (Nat.le_of_ble_eq_true rfl) dL_law_8 (fun q_8 H hP hD hS => ?_)
  have hP : va_P D vwCl [(q_0, .inr (5, [.ref (u_4 0), .ref (u_4 2), .ref (u_4 4), .ref (u_4 10), .ref (u_4 12), .int 0])), ((u_4 0), .inr (0, [.ref (u_4 1), .int 0, .int 0])), ((u_4 1), .inl (cB, 4000, .inl (fun _ => 0))), ((u_4 2), .inr (0, [.ref (u_4 3), .int 0, .int 0])), ((u_4 3), .inl (cB, 4000, .inl (fun _ => 0))), ((u_4 4), .inr (1, [.ref (u_4 5), .ref (u_4 6), .ref (u_4 7), .ref (u_4 8), .ref (u_4 9), .int 0, .int 0])), ((u_4 5), .inl (cI, 64, .inl (fun _ => 0))), ((u_4 6), .inl (cI, 64, .inl (fun _ => 0))), ((u_4 7), .inl (cI, 64, .inl (fun _ => 0))), ((u_4 8), .inl (cI, 64, .inl (fun _ => 0))), ((u_4 9), .inl (cL, 4000, .inr (.inl (fun _ => 0)))), ((u_4 10), .inr (3, [.ref (u_4 11), .ref (u_4 4), .int 0, .int (-1)])), ((u_4 11), .inr (2, [.ref (u_4 1), .int 0, .int 0, .int 0, .int 0, .long 0, .int 0])), ((u_4 12), .inr (4, [.ref (u_4 2), .ref (u_4 4)])), (q_8, .inr (6, [.int 0, .null, .int 0, .int 0, .int 0, .int 0, .null, .null, .null, .null, .null, .int 0, .int 0, .int 0, .int 0, .int 0, .int 0, .long 0, .int 0, .int 0, .null, .int 0, .null, .int 0, .int 0, .null]))] H := hP
  have hD : va_D (fun q : Nat => s.heap.size ≤ q) [(q_0, .inr (5, [.ref (u_4 0), .ref (u_4 2), .ref (u_4 4), .ref (u_4 10), .ref (u_4 12), .int 0])), ((u_4 0), .inr (0, [.ref (u_4 1), .int 0, .int 0])), ((u_4 1), .inl (cB, 4000, .inl (fun _ => 0))), ((u_4 2), .inr (0, [.ref (u_4 3), .int 0, .int 0])), ((u_4 3), .inl (cB, 4000, .inl (fun _ => 0))), ((u_4 4), .inr (1, [.ref (u_4 5), .ref (u_4 6), .ref (u_4 7), .ref (u_4 8), .ref (u_4 9), .int 0, .int 0])), ((u_4 5), .inl (cI, 64, .inl (fun _ => 0))), ((u_4 6), .inl (cI, 64, .inl (fun _ => 0))), ((u_4 7), .inl (cI, 64, .inl (fun _ => 0))), ((u_4 8), .inl (cI, 64, .inl (fun _ => 0))), ((u_4 9), .inl (cL, 4000, .inr (.inl (fun _ => 0)))), ((u_4 10), .inr (3, [.ref (u_4 11), .ref (u_4 4), .int 0, .int (-1)])), ((u_4 11), .inr (2, [.ref (u_4 1), .int 0, .int 0, .int 0, .int 0, .long 0, .int 0])), ((u_4 12), .inr (4, [.ref (u_4 2), .ref (u_4 4)])), (q_8, .inr (6, [.int 0, .null, .int 0, .int 0, .int 0, .int 0, .null, .null, .null, .null, .null, .int 0, .int 0, .int 0, .int 0, .int 0, .int 0, .long 0, .int 0, .int 0, .null, .int 0, .null, .int 0, .int 0, .null]))] := hD
  refine W.widen (k := 15) (n := 12314) (Nat.le_of_ble_eq_true rfl) (Nat.le_of_ble_eq_true rfl) ?_
  refine lv_dup hx hb dL_law_11 rfl ?_
  refine kCn (w' := fun (u_12 : Nat → Nat) => [(q_0, .inr (5, [.ref (u_4 0), .ref (u_4 2), .ref (u_4 4), .ref (u_4 10), .ref (u_4 12), .int 0])), ((u_4 0), .inr (0, [.ref (u_4 1), .int 0, .int 0])), ((u_4 1), .inl (cB, 4000, .inl (fun _ => 0))), ((u_4 2), .inr (0, [.ref (u_4 3), .int 0, .int 0])), ((u_4 3), .inl (cB, 4000, .inl (fun _ => 0))), ((u_4 4), .inr (1, [.ref (u_4 5), .ref (u_4 6), .ref (u_4 7), .ref (u_4 8), .ref (u_4 9), .int 0, .int 0])), ((u_4 5), .inl (cI, 64, .inl (fun _ => 0))), ((u_4 6), .inl (cI, 64, .inl (fun _ => 0))), ((u_4 7), .inl (cI, 64, .inl (fun _ => 0))), ((u_4 8), .inl (cI, 64, .inl (fun _ => 0))), ((u_4 9), .inl (cL, 4000, .inr (.inl (fun _ => 0)))), ((u_4 10), .inr (3, [.ref (u_4 11), .ref (u_4 4), .int 0, .int (-1)])), ((u_4 11), .inr (2, [.ref (u_4 1), .int 0, .int 0, .int 0, .int 0, .long 0, .int 0])), ((u_4 12), .inr (4, [.ref (u_4 2), .ref (u_4 4)])), (q_8, .inr (6, [.int 0, .ref (u_12 0), .int 0, .int (-1), .int (-1), .int 0, .ref (u_12 1), .ref (u_12 2), .ref (u_12 3), .ref (u_12 4), .ref (u_12 5), .int 0, .int 0, .int 0, .int 0, .int 0, .int 0, .long 0, .int 0, .int 0, .ref (u_12 6), .int 0, .ref (u_12 7), .int 0, .int 0, .ref (u_12 8)])), ((u_12 0), .inl (cI, 4000, .inl (fun _ => 0))), ((u_12 1), .inl (cI, 64, .inl (fun _ => 0))), ((u_12 2), .inl (cI, 64, .inl (fun _ => 0))), ((u_12 3), .inl (cI, 64, .inl (fun _ => 0))), ((u_12 4), .inl (cI, 64, .inl (fun _ => 0))), ((u_12 5), .inl (cL, 4200, .inr (.inl (fun _ => 0)))), ((u_12 6), .inl (cI, 4000, .inl (fun _ => 0))), ((u_12 7), .inl (cI, 4000, .inl (fun _ => 0))), ((u_12 8), .inl (cI, 20, .inl (fun _ => 0)))]) hP hD hS hA [14] [0, 1, 2, 3, 4, 5, 6, 7, 8, 9, 10, 11, 12, 13] [0, 1, 2, 3, 4, 5, 6, 7, 8, 9, 10, 11, 12, 13, 14, 15, 16, 17, 18, 19, 20, 21, 22, 23] (kRunI (rest := [.ref q_8]) K ev_ok hE hA hP hD hS [14] rfl rfl rfl n_X6_init (cwI 0 ht (gC kw_513) rfl rfl rfl (ht _ kw_7) (ht _ kw_511) (ht _ kw_512) rfl (by decide +kernel) ⟨Nat.le_of_ble_eq_true rfl, Nat.le_of_ble_eq_true rfl⟩) rfl hl.1 rfl (Nat.le_of_ble_eq_true rfl) dL_law_12 ⟨Nat.le_of_ble_eq_true rfl, Nat.le_of_ble_eq_true rfl⟩) rfl rfl rfl (by decide) rfl (fun _ => rfl) (fun _ => rfl) (fun u_12 H locs hP hD hS => ?_)
  refine W.widen (k := 24) (n := 28790) (Nat.le_of_ble_eq_true rfl) (Nat.le_of_ble_eq_true rfl) ?_
  have hP : va_P D vwCl [(q_0, .inr (5, [.ref (u_4 0), .ref (u_4 2), .ref (u_4 4), .ref (u_4 10), .ref (u_4 12), .int 0])), ((u_4 0), .inr (0, [.ref (u_4 1), .int 0, .int 0])), ((u_4 1), .inl (cB, 4000, .inl (fun _ => 0))), ((u_4 2), .inr (0, [.ref (u_4 3), .int 0, .int 0])), ((u_4 3), .inl (cB, 4000, .inl (fun _ => 0))), ((u_4 4), .inr (1, [.ref (u_4 5), .ref (u_4 6), .ref (u_4 7), .ref (u_4 8), .ref (u_4 9), .int 0, .int 0])), ((u_4 5), .inl (cI, 64, .inl (fun _ => 0))), ((u_4 6), .inl (cI, 64, .inl (fun _ => 0))), ((u_4 7), .inl (cI, 64, .inl (fun _ => 0))), ((u_4 8), .inl (cI, 64, .inl (fun _ => 0))), ((u_4 9), .inl (cL, 4000, .inr (.inl (fun _ => 0)))), ((u_4 10), .inr (3, [.ref (u_4 11), .ref (u_4 4), .int 0, .int (-1)])), ((u_4 11), .inr (2, [.ref (u_4 1), .int 0, .int 0, .int 0, .int 0, .long 0, .int 0])), ((u_4 12), .inr (4, [.ref (u_4 2), .ref (u_4 4)])), (q_8, .inr (6, [.int 0, .ref (u_12 0), .int 0, .int (-1), .int (-1), .int 0, .ref (u_12 1), .ref (u_12 2), .ref (u_12 3), .ref (u_12 4), .ref (u_12 5), .int 0, .int 0, .int 0, .int 0, .int 0, .int 0, .long 0, .int 0, .int 0, .ref (u_12 6), .int 0, .ref (u_12 7), .int 0, .int 0, .ref (u_12 8)])), ((u_12 0), .inl (cI, 4000, .inl (fun _ => 0))), ((u_12 1), .inl (cI, 64, .inl (fun _ => 0))), ((u_12 2), .inl (cI, 64, .inl (fun _ => 0))), ((u_12 3), .inl (cI, 64, .inl (fun _ => 0))), ((u_12 4), .inl (cI, 64, .inl (fun _ => 0))), ((u_12 5), .inl (cL, 4200, .inr (.inl (fun _ => 0)))), ((u_12 6), .inl (cI, 4000, .inl (fun _ => 0))), ((u_12 7), .inl (cI, 4000, .inl (fun _ => 0))), ((u_12 8), .inl (cI, 20, .inl (fun _ => 0)))] H := hP
  have hD : va_D (fun q : Nat => s.heap.size ≤ q) [(q_0, .inr (5, [.ref (u_4 0), .ref (u_4 2), .ref (u_4 4), .ref (u_4 10), .ref (u_4 12), .int 0])), ((u_4 0), .inr (0, [.ref (u_4 1), .int 0, .int 0])), ((u_4 1), .inl (cB, 4000, .inl (fun _ => 0))), ((u_4 2), .inr (0, [.ref (u_4 3), .int 0, .int 0])), ((u_4 3), .inl (cB, 4000, .inl (fun _ => 0))), ((u_4 4), .inr (1, [.ref (u_4 5), .ref (u_4 6), .ref (u_4 7), .ref (u_4 8), .ref (u_4 9), .int 0, .int 0])), ((u_4 5), .inl (cI, 64, .inl (fun _ => 0))), ((u_4 6), .inl (cI, 64, .inl (fun _ => 0))), ((u_4 7), .inl (cI, 64, .inl (fun _ => 0))), ((u_4 8), .inl (cI, 64, .inl (fun _ => 0))), ((u_4 9), .inl (cL, 4000, .inr (.inl (fun _ => 0)))), ((u_4 10), .inr (3, [.ref (u_4 11), .ref (u_4 4), .int 0, .int (-1)])), ((u_4 11), .inr (2, [.ref (u_4 1), .int 0, .int 0, .int 0, .int 0, .long 0, .int 0])), ((u_4 12), .inr (4, [.ref (u_4 2), .ref (u_4 4)])), (q_8, .inr (6, [.int 0, .ref (u_12 0), .int 0, .int (-1), .int (-1), .int 0, .ref (u_12 1), .ref (u_12 2), .ref (u_12 3), .ref (u_12 4), .ref (u_12 5), .int 0, .int 0, .int 0, .int 0, .int 0, .int 0, .long 0, .int 0, .int 0, .ref (u_12 6), .int 0, .ref (u_12 7), .int 0, .int 0, .ref (u_12 8)])), ((u_12 0), .inl (cI, 4000, .inl (fun _ => 0))), ((u_12 1), .inl (cI, 64, .inl (fun _ => 0))), ((u_12 2), .inl (cI, 64, .inl (fun _ => 0))), ((u_12 3), .inl (cI, 64, .inl (fun _ => 0))), ((u_12 4), .inl (cI, 64, .inl (fun _ => 0))), ((u_12 5), .inl (cL, 4200, .inr (.inl (fun _ => 0)))), ((u_12 6), .inl (cI, 4000, .inl (fun _ => 0))), ((u_12 7), .inl (cI, 4000, .inl (fun _ => 0))), ((u_12 8), .inl (cI, 20, .inl (fun _ => 0)))] := hD
  refine lv_astore_n (lv' := [(2, .ref q_8), (1, .ref q_0), (0, .ref b)]) hx hb dL_law_15 rfl hl (by decide) rfl (fun ls hl => ?_)
  refine lv_iconst (v := 0) hx hb dL_law_16 (by decide) ?_
  refine lv_istore_n (lv' := [(3, .int 0), (2, .ref q_8), (1, .ref q_0), (0, .ref b)]) hx hb dL_law_17 rfl hl (by decide) rfl (fun ls hl => ?_)
  have hP : va_P D vwCl [(q_0, .inr (5, [.ref (u_4 0), .ref (u_4 2), .ref (u_4 4), .ref (u_4 10), .ref (u_4 12), .int 0])), ((u_4 0), .inr (0, [.ref (u_4 1), .int 0, .int 0])), ((u_4 1), .inl (cB, 4000, .inl (fun _ => 0))), ((u_4 2), .inr (0, [.ref (u_4 3), .int 0, .int 0])), ((u_4 3), .inl (cB, 4000, .inl (fun _ => 0))), ((u_4 4), .inr (1, [.ref (u_4 5), .ref (u_4 6), .ref (u_4 7), .ref (u_4 8), .ref (u_4 9), .int 0, .int 0])), ((u_4 5), .inl (cI, 64, .inl (fun _ => 0))), ((u_4 6), .inl (cI, 64, .inl (fun _ => 0))), ((u_4 7), .inl (cI, 64, .inl (fun _ => 0))), ((u_4 8), .inl (cI, 64, .inl (fun _ => 0))), ((u_4 9), .inl (cL, 4000, .inr (.inl (fun _ => 0)))), ((u_4 10), .inr (3, [.ref (u_4 11), .ref (u_4 4), .int 0, .int (-1)])), ((u_4 11), .inr (2, [.ref (u_4 1), .int 0, .int 0, .int 0, .int 0, .long 0, .int 0])), ((u_4 12), .inr (4, [.ref (u_4 2), .ref (u_4 4)])), (q_8, .inr (6, [.int 0, .ref (u_12 0), .int 0, .int (-1), .int (-1), .int 0, .ref (u_12 1), .ref (u_12 2), .ref (u_12 3), .ref (u_12 4), .ref (u_12 5), .int 0, .int 0, .int 0, .int 0, .int 0, .int 0, .long 0, .int 0, .int 0, .ref (u_12 6), .int 0, .ref (u_12 7), .int 0, .int 0, .ref (u_12 8)])), ((u_12 0), .inl (cI, 4000, .inl (fun _ => 0))), ((u_12 1), .inl (cI, 64, .inl (fun _ => 0))), ((u_12 2), .inl (cI, 64, .inl (fun _ => 0))), ((u_12 3), .inl (cI, 64, .inl (fun _ => 0))), ((u_12 4), .inl (cI, 64, .inl (fun _ => 0))), ((u_12 5), .inl (cL, 4200, .inr (.inl (fun _ => 0)))), ((u_12 6), .inl (cI, 4000, .inl (fun _ => 0))), ((u_12 7), .inl (cI, 4000, .inl (fun _ => 0))), ((u_12 8), .inl (cI, 20, .inl (fun _ => 0)))] H := hP.sub [0, 1, 2, 3, 4, 5, 6, 7, 8, 9, 10, 11, 12, 13, 14, 15, 16, 17, 18, 19, 20, 21, 22, 23] rfl
  have hD : va_D (fun q : Nat => s.heap.size ≤ q) [(q_0, .inr (5, [.ref (u_4 0), .ref (u_4 2), .ref (u_4 4), .ref (u_4 10), .ref (u_4 12), .int 0])), ((u_4 0), .inr (0, [.ref (u_4 1), .int 0, .int 0])), ((u_4 1), .inl (cB, 4000, .inl (fun _ => 0))), ((u_4 2), .inr (0, [.ref (u_4 3), .int 0, .int 0])), ((u_4 3), .inl (cB, 4000, .inl (fun _ => 0))), ((u_4 4), .inr (1, [.ref (u_4 5), .ref (u_4 6), .ref (u_4 7), .ref (u_4 8), .ref (u_4 9), .int 0, .int 0])), ((u_4 5), .inl (cI, 64, .inl (fun _ => 0))), ((u_4 6), .inl (cI, 64, .inl (fun _ => 0))), ((u_4 7), .inl (cI, 64, .inl (fun _ => 0))), ((u_4 8), .inl (cI, 64, .inl (fun _ => 0))), ((u_4 9), .inl (cL, 4000, .inr (.inl (fun _ => 0)))), ((u_4 10), .inr (3, [.ref (u_4 11), .ref (u_4 4), .int 0, .int (-1)])), ((u_4 11), .inr (2, [.ref (u_4 1), .int 0, .int 0, .int 0, .int 0, .long 0, .int 0])), ((u_4 12), .inr (4, [.ref (u_4 2), .ref (u_4 4)])), (q_8, .inr (6, [.int 0, .ref (u_12 0), .int 0, .int (-1), .int (-1), .int 0, .ref (u_12 1), .ref (u_12 2), .ref (u_12 3), .ref (u_12 4), .ref (u_12 5), .int 0, .int 0, .int 0, .int 0, .int 0, .int 0, .long 0, .int 0, .int 0, .ref (u_12 6), .int 0, .ref (u_12 7), .int 0, .int 0, .ref (u_12 8)])), ((u_12 0), .inl (cI, 4000, .inl (fun _ => 0))), ((u_12 1), .inl (cI, 64, .inl (fun _ => 0))), ((u_12 2), .inl (cI, 64, .inl (fun _ => 0))), ((u_12 3), .inl (cI, 64, .inl (fun _ => 0))), ((u_12 4), .inl (cI, 64, .inl (fun _ => 0))), ((u_12 5), .inl (cL, 4200, .inr (.inl (fun _ => 0)))), ((u_12 6), .inl (cI, 4000, .inl (fun _ => 0))), ((u_12 7), .inl (cI, 4000, .inl (fun _ => 0))), ((u_12 8), .inl (cI, 20, .inl (fun _ => 0)))] := hD.sub [0, 1, 2, 3, 4, 5, 6, 7, 8, 9, 10, 11, 12, 13, 14, 15, 16, 17, 18, 19, 20, 21, 22, 23] (by decide) rfl
  exact k_L_law_L18 ⟨C0, fun _ h => h⟩ hE hA fu 0 0 0 (fun _ => 0) 0 0 (fun _ => 0) 0 0 (fun _ => 0) (fun _ => 0) (fun _ => 0) (fun _ => 0) (fun _ => 0) 0 (-1) 0 0 0 0 0 0 0 (-1) (-1) 0 0 0 0 0 0 0 0 (fun _ => 0) (fun _ => 0) (fun _ => 0) (fun _ => 0) (fun _ => 0) (fun _ => 0) (fun _ => 0) 0 H locs ls hP hD hS (lv_sub hl [3, 2, 1, 0] rfl) hm
end
section
theorem o_in_k {α : Type} {i : Int32} {n : Nat} {k : Option α} (h : ¬ (i < 0 ∨ n ≤ i.toNatClampNeg)) : o_in i n k = k := if_neg h
theorem p_add {k : Nat} (hk : k < 4000) (o : Int32) (f : Nat → Int32) (x : Int32) : m_X0_add (nI k) o f x = some (nI (k + 1), o, upd f k (vp_nar .byte x.toInt8.toInt32)) := by
  unfold m_X0_add
  rw [if_pos (show nI k < (4000 : Int32) from nI_lt (b := 4000) hk (by decide)), o_in_k (nI_in hk (by decide)), nI_clamp (by omega)]
  simp only [o_let]
  rw [nI_1]
theorem p_four1 {k : Nat} (hk : k < 4000) (n : Nat) (o : Int32) (f : Nat → Int32) (x z : Int32) (hz : ¬ z < 0) : m_X5_feedFour_L3 (n + 1) (nI k) o f x z = m_X5_feedFour_L3 n (nI (k + 1)) o (upd f k (vp_nar .byte (x >>> (z &&& 31)).toInt8.toInt32)) x (z + (-8)) := by
  rw [m_X5_feedFour_L3, if_neg hz]
  simp only [o_let, p_add hk, o_b]
theorem p_four {k : Nat} (hk : k + 4 ≤ 4000) (o : Int32) (f : Nat → Int32) (x : Int32) : ∃ g, m_X5_feedFour (nI k) o f x = some (nI (k + 4), o, g) := by
  unfold m_X5_feedFour
  rw [show fu = 99995 + 1 + 1 + 1 + 1 + 1 from rfl, p_four1 (by omega) _ _ _ _ _ (by decide), p_four1 (by omega) _ _ _ _ _ (by decide), p_four1 (by omega) _ _ _ _ _ (by decide), p_four1 (by omega) _ _ _ _ _ (by decide), m_X5_feedFour_L3, if_pos (by decide)]
  exact ⟨_, rfl⟩
theorem p_feed (f : Nat → Int32) (a b c d e : Int32) : ∃ r, m_X5_feed 0 0 f a b c d e = some r ∧ r.1 = 20 := by
  unfold m_X5_feed
  rw [if_pos (by decide)]
  obtain ⟨g1, h1⟩ := p_four (k := 0) (by decide) 0 f a
  obtain ⟨g2, h2⟩ := p_four (k := 4) (by decide) 0 g1 b
  obtain ⟨g3, h3⟩ := p_four (k := 8) (by decide) 0 g2 c
  obtain ⟨g4, h4⟩ := p_four (k := 12) (by decide) 0 g3 d
  obtain ⟨g5, h5⟩ := p_four (k := 16) (by decide) 0 g4 e
  rw [show (0 : Int32) = nI 0 from rfl] at *
  simp only [h1, o_b, h2, h3, h4, h5]
  exact ⟨_, rfl, rfl⟩
theorem p_put1 {k : Nat} (hk : k < 4000) (n : Nat) (f : Nat → Int32) (x z : Int32) (hz : ¬ z < 0) : ∃ g, m_X6_put_L3 (n + 1) (nI k) f x z = m_X6_put_L3 n (nI (k + 1)) g x (z + (-8)) := by
  rw [m_X6_put_L3, if_neg hz]
  simp only [o_let]
  rw [o_in_k (nI_in hk (by decide)), nI_1]
  exact ⟨_, rfl⟩
theorem p_put {k : Nat} (hk : k + 4 ≤ 4000) (f : Nat → Int32) (x : Int32) : ∃ g, m_X6_put (nI k) f x = some (nI (k + 4), g) := by
  unfold m_X6_put
  rw [show fu = 99995 + 1 + 1 + 1 + 1 + 1 from rfl]
  obtain ⟨g1, h1⟩ := p_put1 (k := k) (by omega) (99995 + 1 + 1 + 1 + 1) f x 24 (by decide)
  obtain ⟨g2, h2⟩ := p_put1 (k := k + 1) (by omega) (99995 + 1 + 1 + 1) g1 x (24 + (-8)) (by decide)
  obtain ⟨g3, h3⟩ := p_put1 (k := k + 1 + 1) (by omega) (99995 + 1 + 1) g2 x (24 + (-8) + (-8)) (by decide)
  obtain ⟨g4, h4⟩ := p_put1 (k := k + 1 + 1 + 1) (by omega) (99995 + 1) g3 x (24 + (-8) + (-8) + (-8)) (by decide)
  rw [h1, h2, h3, h4, m_X6_put_L3, if_pos (by decide)]
  exact ⟨_, rfl⟩
theorem p_mfeed (f : Nat → Int32) (a b c d e : Int32) : ∃ r, m_X6_feed 0 f a b c d e = some r ∧ r.1 = 20 := by
  unfold m_X6_feed
  simp only [o_let]
  rw [if_pos (by decide)]
  obtain ⟨g1, h1⟩ := p_put (k := 0) (by decide) f a
  obtain ⟨g2, h2⟩ := p_put (k := 4) (by decide) g1 b
  obtain ⟨g3, h3⟩ := p_put (k := 8) (by decide) g2 c
  obtain ⟨g4, h4⟩ := p_put (k := 12) (by decide) g3 d
  obtain ⟨g5, h5⟩ := p_put (k := 16) (by decide) g4 e
  rw [show (0 : Int32) = nI 0 from rfl] at *
  simp only [h1, o_b, h2, h3, h4, h5]
  exact ⟨_, rfl, rfl⟩
def p_rd (x : Int32) : Int32 := if x = 0 then 0 else -2
theorem p_rd_lt {x : Int32} (h : x < 0) : p_rd x = -2 := if_neg (fun e => by rw [e] at h; exact absurd h (by decide))
theorem p_rd_0 {x : Int32} (h : ¬ x < 0) (h2 : x ≤ 0) : x = 0 := Int32.le_antisymm h2 (Int32.not_lt.mp h)
theorem p_read (x : Int32) : ∃ r, m_X5_read 0 0 0 0 0 0 (-1) 0 0 0 0 0 0 x = some r ∧ r.1 = p_rd x := by
  unfold m_X5_read
  by_cases h : x < 0
  · rw [if_pos h]; exact ⟨_, rfl, (p_rd_lt h).symm⟩
  · rw [if_neg h]
    by_cases h2 : x ≤ 0
    · have e := p_rd_0 h h2
      subst e
      rw [if_pos h2]
      exact ⟨_, rfl, by decide⟩
    · rw [if_neg h2]
      exact ⟨_, rfl, (if_neg (fun e => h2 (by rw [e]; decide))).symm⟩
theorem p_mread (f g : Nat → Int32) (x : Int32) : ∃ r, m_X6_read 0 (-1) (-1) 0 0 0 0 0 f g x = some r ∧ r.1 = p_rd x := by
  unfold m_X6_read
  by_cases h : x < 0
  · rw [if_pos h]; exact ⟨_, rfl, (p_rd_lt h).symm⟩
  · rw [if_neg h]
    by_cases h2 : x ≤ 0
    · have e := p_rd_0 h h2
      subst e
      rw [if_pos h2, show fu = 99999 + 1 from rfl, m_X6_read_L47, if_pos (by decide)]
      exact ⟨_, rfl, by decide⟩
    · rw [if_neg h2]
      exact ⟨_, rfl, (if_neg (fun e => h2 (by rw [e]; decide))).symm⟩
theorem p_fault (x : Int32) : m_X5_fault 0 0 (-1) x = some (-1) := by unfold m_X5_fault; rw [if_pos rfl]
theorem p_mfault (x : Int32) : m_X6_fault (-1) (-1) x = some (-1) := by
  unfold m_X6_fault
  split
  · rfl
  · split
    · rw [if_pos (by decide)]
    · rfl
theorem p_has (x : Int32) : m_X1_has 0 x = some 0 := by
  unfold m_X1_has
  by_cases h : x < 0
  · rw [if_pos h]
  · rw [if_neg h, if_pos (Int32.not_lt.mp h)]
theorem p_isLine (x : Int32) : m_X6_isLine 0 x = some 0 := by
  unfold m_X6_isLine
  by_cases h : x < 0
  · rw [if_pos h]
  · rw [if_neg h, if_pos (Int32.not_lt.mp h)]
theorem p_line (k p s : Nat → Int32) (x y : Int32) : m_X5_line 0 k p s x y = some (-1) := by
  unfold m_X5_line
  simp only [p_has, o_b, ↓reduceIte]
theorem p_mline (k c s : Nat → Int32) (x y : Int32) : m_X6_line 0 k c s x y = some (-1) := by
  unfold m_X6_line
  simp only [p_isLine, o_b, ↓reduceIte]
theorem p_number (f s : Nat → Int32) (n : Nat → Int64) (x y : Int32) : m_X5_number 0 f s n x y = some 0 := by
  have h0 : m_X1_storedAt 0 f s n x y = some 0 := by
    unfold m_X1_storedAt
    by_cases h : y < 0
    · rw [if_pos h]
    · rw [if_neg h]
      have h1 : m_X1_sizeOf 0 s x = some 0 := by
        unfold m_X1_sizeOf
        simp only [p_has, o_b, ↓reduceIte]
      simp only [h1, o_b]
      rw [if_neg h]
  unfold m_X5_number
  simp only [h0, o_b]
  have h2 : m_X5_valueOf 0 = some 0 := by
    unfold m_X5_valueOf
    rw [if_neg (by decide)]
  simp only [h2]
theorem p_mnumber (f c : Nat → Int32) (n : Nat → Int64) (x y : Int32) : m_X6_number1 0 f c n x y = some 0 := by
  unfold m_X6_number1
  simp only [p_isLine, o_b, ↓reduceIte]
theorem p_print (x : Int32) : m_X5_print 0 0 x = some (-1) := by
  unfold m_X5_print
  simp only [p_has, o_b, ↓reduceIte]
theorem p_mprint (w o : Int32) (k : Nat → Int32) (x : Int32) : m_X6_print 0 w o k x = some (-1, w, o) := by
  unfold m_X6_print
  simp only [p_isLine, o_b, ↓reduceIte]
theorem p_printed (f : Nat → Int32) (x : Int32) : m_X5_printed 0 f x = some (-1) := by
  have h : m_X0_byteAt 0 f x = some (-1) := by
    unfold m_X0_byteAt
    by_cases h : x < 0
    · rw [if_pos h]
    · rw [if_neg h, if_neg h]
  unfold m_X5_printed
  simp only [h, o_b]
theorem p_mprinted (f : Nat → Int32) (x : Int32) : m_X6_printed 0 f x = some (-1) := by
  unfold m_X6_printed
  by_cases h : x < 0
  · rw [if_pos h]
  · rw [if_neg h, if_neg h]
theorem p_wipe (f g : Nat → Int32) (x : Int32) : ∃ r, m_X5_wipe 0 0 f 0 0 g x = some r ∧ r.1 = 0 := by
  unfold m_X5_wipe
  by_cases h : x = 0
  · rw [if_pos h]; exact ⟨_, rfl, rfl⟩
  · rw [if_neg h]
    have hc : m_X0_copy 0 0 f 0 g = some (0, 0, va_cpy g f (0 : Int32).toNatClampNeg (0 : Int32).toNatClampNeg (0 : Int32).toNatClampNeg) := by
      unfold m_X0_copy o_cpy
      rw [if_pos ⟨by decide, by decide, by decide, by decide, by decide, fun i hi => absurd hi (by show ¬ i < 0; omega)⟩]
      rfl
    simp only [hc, o_b]
    exact ⟨_, rfl, rfl⟩
theorem p_mwipe (f g : Nat → Int32) (x : Int32) : ∃ r, m_X6_wipe 0 0 f g x = some r ∧ r.1 = 0 := by
  unfold m_X6_wipe
  by_cases h : x = 0
  · rw [if_pos h]; exact ⟨_, rfl, rfl⟩
  · rw [if_neg h, show fu = 99999 + 1 from rfl, m_X6_wipe_L11, if_pos (by decide)]
    exact ⟨_, rfl, rfl⟩
theorem p_end (xs : Nat → Int32) (n : Nat) (xx_e : Int32) (tp_c : Int32) (tp_o : Int32) (tp_b : Nat → Int32) (pp_c : Int32) (pp_o : Int32) (pp_b : Nat → Int32) (ln_c : Int32) (ln_m : Int32) (ln_k : Nat → Int32) (ln_p : Nat → Int32) (ln_f : Nat → Int32) (ln_s : Nat → Int32) (ln_n : Nat → Int64) (rd_f : Int32) (rd_p : Int32) (tk_e : Int32) (tk_s : Int32) (tk_p : Int32) (tk_h : Int32) (tk_v : Int64) (tk_f : Int32) (mo_taped : Int32) (mo_fault : Int32) (mo_place : Int32) (mo_lines : Int32) (mo_used : Int32) (mo_state : Int32) (mo_at : Int32) (mo_from : Int32) (mo_printed : Int32) (mo_written : Int32) (mo_over : Int32) (mo_tapeA : Nat → Int32) (mo_kindA : Nat → Int32) (mo_firstA : Nat → Int32) (mo_countA : Nat → Int32) (mo_beginsA : Nat → Int32) (mo_numbersA : Nat → Int64) (mo_outA : Nat → Int32) : m_L_law_J341 xs 6 (m_L_law_L18 xs 6 (n + 1)) xx_e tp_c tp_o tp_b pp_c pp_o pp_b ln_c ln_m ln_k ln_p ln_f ln_s ln_n rd_f rd_p tk_e tk_s tk_p tk_h tk_v tk_f mo_taped mo_fault mo_place mo_lines mo_used mo_state mo_at mo_from mo_printed mo_written mo_over mo_tapeA mo_kindA mo_firstA mo_countA mo_beginsA mo_numbersA mo_outA 0 = some 1 := by
  unfold m_L_law_J341
  simp only [o_let]
  rw [m_L_law_L18, if_pos (by decide)]
theorem p_wend (xs : Nat → Int32) (n : Nat) (xx_e : Int32) (tp_c : Int32) (tp_o : Int32) (tp_b : Nat → Int32) (pp_c : Int32) (pp_o : Int32) (pp_b : Nat → Int32) (ln_c : Int32) (ln_m : Int32) (ln_k : Nat → Int32) (ln_p : Nat → Int32) (ln_f : Nat → Int32) (ln_s : Nat → Int32) (ln_n : Nat → Int64) (rd_f : Int32) (rd_p : Int32) (tk_e : Int32) (tk_s : Int32) (tk_p : Int32) (tk_h : Int32) (tk_v : Int64) (tk_f : Int32) (mo_taped : Int32) (mo_fault : Int32) (mo_place : Int32) (mo_lines : Int32) (mo_used : Int32) (mo_state : Int32) (mo_at : Int32) (mo_from : Int32) (mo_printed : Int32) (mo_written : Int32) (mo_over : Int32) (mo_tapeA : Nat → Int32) (mo_kindA : Nat → Int32) (mo_firstA : Nat → Int32) (mo_countA : Nat → Int32) (mo_beginsA : Nat → Int32) (mo_numbersA : Nat → Int64) (mo_outA : Nat → Int32) (x r : Int32) (hp : mo_printed = 0) (ht : mo_taped = 0) (hr : r = 0) : m_L_law_J333 xs 6 (m_L_law_L18 xs 6 (n + 1)) xx_e tp_c tp_o tp_b pp_c pp_o pp_b ln_c ln_m ln_k ln_p ln_f ln_s ln_n rd_f rd_p tk_e tk_s tk_p tk_h tk_v tk_f mo_taped mo_fault mo_place mo_lines mo_used mo_state mo_at mo_from mo_printed mo_written mo_over mo_tapeA mo_kindA mo_firstA mo_countA mo_beginsA mo_numbersA mo_outA 0 x r = some 1 := by
  subst hp; subst ht; subst hr
  unfold m_L_law_J333
  obtain ⟨r, h1, h2⟩ := p_mwipe mo_tapeA mo_outA x
  simp only [h1, o_b]
  rw [if_pos h2.symm]
  exact p_end ..
set_option maxHeartbeats 4000000 in
set_option maxRecDepth 100000 in
theorem p_six (xs : Nat → Int32) : m_law xs 6 = some 1 := by
  unfold m_law
  rw [show fu = 99998 + 1 + 1 from rfl, m_L_law_L18, if_neg (by decide), o_in_k (by decide)]
  simp only [o_let]
  generalize xs (0 : Int32).toNatClampNeg &&& 7 = v
  by_cases c0 : v = 0
  · rw [if_pos c0]
    repeat rw [o_in_k (by decide)]
    obtain ⟨r, h1, h2⟩ := p_feed (fun _ => 0) (xs ((0 : Int32) + 1).toNatClampNeg) (xs ((0 : Int32) + 2).toNatClampNeg) (xs ((0 : Int32) + 3).toNatClampNeg) (xs ((0 : Int32) + 4).toNatClampNeg) (xs ((0 : Int32) + 5).toNatClampNeg)
    obtain ⟨q, h3, h4⟩ := p_mfeed (fun _ => 0) (xs ((0 : Int32) + 1).toNatClampNeg) (xs ((0 : Int32) + 2).toNatClampNeg) (xs ((0 : Int32) + 3).toNatClampNeg) (xs ((0 : Int32) + 4).toNatClampNeg) (xs ((0 : Int32) + 5).toNatClampNeg)
    simp only [h1, h3, o_b]
    repeat rw [o_in_k (by decide)]
    rw [if_pos (h2.trans h4.symm)]
    exact p_end ..
  rw [if_neg c0]
  by_cases c1 : v = 1
  · rw [if_pos c1, o_in_k (by decide)]
    obtain ⟨r, h1, h2⟩ := p_read (xs ((0 : Int32) + 1).toNatClampNeg)
    obtain ⟨q, h3, h4⟩ := p_mread (fun _ => 0) (fun _ => 0) (xs ((0 : Int32) + 1).toNatClampNeg)
    simp only [h1, h3, o_b]
    rw [o_in_k (by decide), if_pos (h2.trans h4.symm)]
    exact p_end ..
  rw [if_neg c1]
  by_cases c2 : v = 2
  · rw [if_pos c2, o_in_k (by decide)]
    simp only [p_fault, p_mfault, o_b]
    rw [o_in_k (by decide), if_pos trivial]
    exact p_end ..
  rw [if_neg c2]
  by_cases c3 : v = 3
  · rw [if_pos c3]
    repeat rw [o_in_k (by decide)]
    simp only [p_line, p_mline, o_b]
    repeat rw [o_in_k (by decide)]
    rw [if_pos trivial]
    exact p_end ..
  rw [if_neg c3]
  by_cases c4 : v = 4
  · rw [if_pos c4]
    repeat rw [o_in_k (by decide)]
    simp only [p_number, p_mnumber, o_b]
    repeat rw [o_in_k (by decide)]
    rw [if_pos (by decide)]
    exact p_end ..
  rw [if_neg c4]
  by_cases c5 : v = 5
  · rw [if_pos c5, o_in_k (by decide)]
    simp only [p_print, p_mprint, o_b]
    rw [o_in_k (by decide), if_pos trivial]
    exact p_end ..
  rw [if_neg c5]
  by_cases c6 : v = 6
  · rw [if_pos c6, o_in_k (by decide)]
    simp only [p_printed, p_mprinted, o_b]
    rw [o_in_k (by decide), if_pos trivial]
    exact p_end ..
  rw [if_neg c6]
  by_cases c7 : v = 7
  · rw [if_pos c7, o_in_k (by decide)]
    obtain ⟨r, h1, h2⟩ := p_wipe (fun _ => 0) (fun _ => 0) 0
    obtain ⟨q, h3, h4⟩ := p_wipe (fun _ => 0) (fun _ => 0) 1
    split
    · unfold m_L_law_J316
      simp only [h1, o_b, o_let]
      rw [o_in_k (by decide)]
      split
      · exact p_wend _ _ (hp := rfl) (ht := rfl) (hr := h2) ..
      · exact p_wend _ _ (hp := rfl) (ht := rfl) (hr := h2) ..
    · unfold m_L_law_J316
      simp only [h3, o_b, o_let]
      rw [o_in_k (by decide)]
      split
      · exact p_wend _ _ (hp := rfl) (ht := rfl) (hr := h4) ..
      · exact p_wend _ _ (hp := rfl) (ht := rfl) (hr := h4) ..
  rw [if_neg c7]
  exact p_end ..
theorem p_few {L : Nat} (hL : L < 6) (xs : Nat → Int32) : m_law xs L = some 1 := by
  unfold m_law
  rw [show fu = 99999 + 1 from rfl, m_L_law_L18, if_pos]
  rcases (show L = 0 ∨ L = 1 ∨ L = 2 ∨ L = 3 ∨ L = 4 ∨ L = 5 by omega) with rfl | rfl | rfl | rfl | rfl | rfl <;> decide
theorem p_law {L : Nat} (hL : L ≤ 6) (xs : Nat → Int32) : m_law xs L = some 1 := by
  rcases Nat.lt_or_ge L 6 with h | h
  · exact p_few h xs
  · have e : L = 6 := by omega
    subst e
    exact p_six xs
end
section
theorem whole_start {p : Program} {e : Env} {s : State} {m : MethodId} {below : List Frame} {meth : Method} {c : Code} (l : Launch) {b L : Nat} {xs : Nat → Int32} (hL : L ≤ 6) (C0 : lw_At p s m meth c b L xs) : W p l e room_1 s m #[Value.ref b] below meth c s.heap [] 0 0 (lw_Z below #[Value.ref b] s) (entryFrame m ([Value.ref b] : List Value).toArray 4) := by
  exact start_by l (p_law hL xs) C0
set_option maxHeartbeats 4000000 in
theorem lw_walk (l : Launch) (b : Addr) (xs : List Int32) : MetFree l x (headSpec (Jvm.Cond.code x code maxLocals ret :: tables_1) room_1) (lw_P b xs) (fun _ _ _ _ _ => True) lw_Q := by
  refine MetFree.of_bodyS (code := code) (maxLocals := maxLocals) (ret := ret) (by decide) ?_ ?_
  · intro args s m h hn
    obtain ⟨meth, c, h1, h2, h3, h4, h5, h6, -, -⟩ := Cond.code_spec hn (atoms_spec (ws := Jvm.Cond.code x code maxLocals ret :: tables_1) h _ List.mem_cons_self)
    exact ⟨meth, c, h1, h2, h3, h4, h5, h6⟩
  · intro p e s m args below meth c s₁ B hml0 hP _
    obtain ⟨rfl, hx, hbd, hgv⟩ := hP
    obtain ⟨scr, harrAt, hlist, hof, hsmall⟩ := hx
    obtain ⟨hcb, hkn, -, -⟩ := State.arrayAt?_spec harrAt
    have hown : s.vm.findClass R_law = some m.cls := findClass_of_methodNamed B.named
    have hts0 : ∀ c ∈ (Jvm.Cond.code x code maxLocals ret :: tables_1), c.before #[Value.ref b] s = true := atoms_spec (ws := Jvm.Cond.code x code maxLocals ret :: tables_1) B.pre
    have hts : ∀ w ∈ lw_tbl, w.before #[Value.ref b] s = true := k2_hts_sels lw_privs (fun w hw => hts0 w (List.mem_cons_of_mem _ hw)) lw_privs_ok
    have hml : c.maxLocals = 4 := B.maxLocals_eq (hts0 _ List.mem_cons_self)
    have X₀ : Stand p l e room_1 s m #[Value.ref b] below meth c s₁ [] 0 0 := Stand.of_body B
    have hh0 : s₁.heap = s.heap := by rw [B.state]; rfl
    have hsz : scr.slots.size = xs.length := by rw [← Array.length_toList, hlist, List.length_map]
    have hval : ∀ j : Nat, j < xs.length → scr.slots[j]? = some (.int (xs.getD j 0)) := fun j hj => by
      rw [← Array.getElem?_toList, hlist]
      simp [hj]
    have hbl : b < s.heap.size := (Array.getElem?_eq_some_iff.mp hcb).1
    have hX : va_X b xs.length (fun j => xs.getD j 0) s s.heap := ⟨scr, hcb, hof, hkn, hsz, hval⟩
    have K : W p l e room_1 s m #[Value.ref b] below meth c s₁.heap [] 0 0 (lw_Z below #[Value.ref b] s) (entryFrame m ([Value.ref b] : List Value).toArray 4) := by
      rw [hh0]
      exact whole_start l hbd ⟨B.exec, B.bytes, B.returns, hml, hown, hts, hX, hbl, B.notSynchronized, hgv⟩
    obtain ⟨t, a1, o, b1, b2, b3⟩ := K s₁ rfl X₀
    exact ⟨t, o, a1, b1, b2, b3⟩
theorem lw_pre_spec {args : Array Value} {s : State} (h : (Jvm.Cond.and given_1 narrow_1).before args s = true) (hr : rest_1_c.before args s = true) : ∃ (b : Addr) (xs : List Int32), lw_P b xs args s := by
  have hs := flat_of_before _ h
  have hq := flat_of_before _ hr
  have hc : (Cond.count 1).before args s = true := hs _ (by decide +kernel)
  have harr : (Cond.arrayOf (.arg 0) .int).before args s = true := hs _ (by decide +kernel)
  have hle : (Cond.le (.length (.arg 0)) (.int 6)).before args s = true := hs _ (by decide +kernel)
  have hlen : (Cond.isInt (.length (.arg 0))).before args s = true := hq _ (by decide +kernel)
  have hall : (Cond.all (.arg 0) (.isInt (.elem (.arg 0) (.index 0)))).before args s = true := hq _ (by decide +kernel)
  obtain ⟨b, xs, hb, hx⟩ := State.ints_of_pre rfl harr hlen hall
  have hsm : xs.length < 2 ^ 31 := hx.choose_spec.2.2.2
  have hev : (Term.length (.arg 0)).eval args s none [] s = some (.int xs.length.toInt32) := hx.length_eval hb
  have hv := Cond.le_ints hev (show (Term.int 6).eval args s none [] s = some (.int 6) from rfl)
  have hd : xs.length.toInt32 ≤ 6 := by
    simpa [Cond.before, Cond.holds, hv] using hle
  have hN : xs.length ≤ 6 := (Int32.ofNat_le_ofNat hsm (by decide)).mp (show Int32.ofNat xs.length ≤ Int32.ofNat 6 from hd)
  exact ⟨b, xs, Cond.one_arg hc (show args[0]? = some (.ref b) from hb), hx, hN, h⟩
theorem lw_comes (l : Launch) : Comes l x (Jvm.Cond.code x code maxLocals ret :: tables_1) room_1 (fun tb e args s => Calls_1 tb e args s ∧ rest_1 tb e args s ∧ Pre_1 tb e args s)
    (fun _ _ args s o t => lw_Q args s o t) := by
  intro p e ha hc hk s m args below hf hfit hheap happ hpre
  obtain ⟨b, xs, hP⟩ := lw_pre_spec hpre.2.2 hpre.2.1
  obtain ⟨k, o, h1, h2, h3, hQ⟩ := lw_walk l b xs p e ha hc hk s m args below hf ((Spec.applies_iff_loose hf).mp happ).1 hP trivial
  exact ⟨k, o, h1, h2, h3, hQ⟩
theorem lw_frame {s t : State} {o : Outcome} {args : Array Value} (h : Framed s o t [] 24 28790) :
    Framed s o t (fieldLocs frame_1_writes args s ++ arrayLocs frame_1_arrays args s ++ staticLocs frame_1_statics s) 24 28790 := h
theorem lw_limb (L : Cond) (hL : ∀ (args : Array Value) (s t : State), L.after args s (.returned (some (.int 1))) t = true) :
    ArmFor flags0 classFile x code maxLocals ret World_1 tables_1 room_1 Calls_1 rest_1 Pre_1
      (fun tb e a s o t => postC L tb e a s o t ∧ Framed s o t (fieldLocs frame_1_writes a s ++ arrayLocs frame_1_arrays a s ++ staticLocs frame_1_statics s) 24 28790) := by
  intro l _ _ _ p e ha hc hk s m args below hf hfit hheap happ hpre
  obtain ⟨k, o, h1, h2, h3, rfl, hF⟩ := lw_comes l p e ha hc hk s m args below hf hfit hheap happ hpre
  exact ⟨k, _, h1, h2, h3, hL args s _, lw_frame hF⟩
theorem i_vc : Claimed_1_1 ∧ Claimed_1_2 := ⟨lw_limb limb_1_1 (fun args s t => by simp [limb_1_1, Cond.after, Cond.holds, Cond.value]), lw_limb limb_1_2 (fun args s t => Cond.after_iff.mpr (by
  first | (rw [show limb_1_2 = Cond.eq .result (.int 1) from rfl, Cond.eq_ints (x := 1) (y := 1) rfl rfl]; simp; done) | (simp [limb_1_2, Cond.value, Term.eval]; done)))⟩
end
