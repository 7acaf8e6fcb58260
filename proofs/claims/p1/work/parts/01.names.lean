def lw_okq (q : MethodName × Nat) : Prop := (q.1.cls ≠ "java/lang/invoke/MethodHandle" ∧ q.1.cls ≠ "java/lang/invoke/VarHandle") ∧ Cond.instantiable q.1.cls q.2 ∈ tables_1 ∧ Cond.privateMethod q.1 ∈ tables_1 ∧ Cond.instanceMethod q.1 ∈ tables_1
theorem lw_p0 : lw_okq (⟨"LinkText", "feedFour", "(I)V"⟩, 6) := ⟨⟨by decide +kernel, by decide +kernel⟩, List.mem_of_getElem? (i := 15) (by decide +kernel), List.mem_of_getElem? (i := 163) (by decide +kernel), List.mem_of_getElem? (i := 164) (by decide +kernel)⟩
theorem lw_p1 : lw_okq (⟨"LinkText$Tokens", "sortAt", "(I)I"⟩, 7) := ⟨⟨by decide +kernel, by decide +kernel⟩, List.mem_of_getElem? (i := 81) (by decide +kernel), List.mem_of_getElem? (i := 203) (by decide +kernel), List.mem_of_getElem? (i := 204) (by decide +kernel)⟩
theorem lw_p2 : lw_okq (⟨"LinkText$Tokens", "weigh", "(Z)V"⟩, 7) := ⟨⟨by decide +kernel, by decide +kernel⟩, List.mem_of_getElem? (i := 81) (by decide +kernel), List.mem_of_getElem? (i := 207) (by decide +kernel), List.mem_of_getElem? (i := 208) (by decide +kernel)⟩
theorem lw_p3 : lw_okq (⟨"LinkText$Reader", "openLine", "()I"⟩, 4) := ⟨⟨by decide +kernel, by decide +kernel⟩, List.mem_of_getElem? (i := 75) (by decide +kernel), List.mem_of_getElem? (i := 217) (by decide +kernel), List.mem_of_getElem? (i := 218) (by decide +kernel)⟩
theorem lw_p4 : lw_okq (⟨"LinkText$Reader", "kindHere", "()I"⟩, 4) := ⟨⟨by decide +kernel, by decide +kernel⟩, List.mem_of_getElem? (i := 75) (by decide +kernel), List.mem_of_getElem? (i := 221) (by decide +kernel), List.mem_of_getElem? (i := 222) (by decide +kernel)⟩
theorem lw_p5 : lw_okq (⟨"LinkText$Reader", "fail", "(I)Z"⟩, 4) := ⟨⟨by decide +kernel, by decide +kernel⟩, List.mem_of_getElem? (i := 75) (by decide +kernel), List.mem_of_getElem? (i := 299) (by decide +kernel), List.mem_of_getElem? (i := 300) (by decide +kernel)⟩
theorem lw_p6 : lw_okq (⟨"LinkText$Reader", "takeCode", "()Z"⟩, 4) := ⟨⟨by decide +kernel, by decide +kernel⟩, List.mem_of_getElem? (i := 75) (by decide +kernel), List.mem_of_getElem? (i := 307) (by decide +kernel), List.mem_of_getElem? (i := 308) (by decide +kernel)⟩
theorem lw_p7 : lw_okq (⟨"LinkText$Reader", "takeCrossing", "()Z"⟩, 4) := ⟨⟨by decide +kernel, by decide +kernel⟩, List.mem_of_getElem? (i := 75) (by decide +kernel), List.mem_of_getElem? (i := 319) (by decide +kernel), List.mem_of_getElem? (i := 320) (by decide +kernel)⟩
theorem lw_p8 : lw_okq (⟨"LinkText$Reader", "takeSign", "()Z"⟩, 4) := ⟨⟨by decide +kernel, by decide +kernel⟩, List.mem_of_getElem? (i := 75) (by decide +kernel), List.mem_of_getElem? (i := 323) (by decide +kernel), List.mem_of_getElem? (i := 324) (by decide +kernel)⟩
theorem lw_p9 : lw_okq (⟨"LinkText$Reader", "takeMark", "(C)Z"⟩, 4) := ⟨⟨by decide +kernel, by decide +kernel⟩, List.mem_of_getElem? (i := 75) (by decide +kernel), List.mem_of_getElem? (i := 333) (by decide +kernel), List.mem_of_getElem? (i := 334) (by decide +kernel)⟩
theorem lw_p10 : lw_okq (⟨"LinkText$Reader", "takeNumber", "()Z"⟩, 4) := ⟨⟨by decide +kernel, by decide +kernel⟩, List.mem_of_getElem? (i := 75) (by decide +kernel), List.mem_of_getElem? (i := 337) (by decide +kernel), List.mem_of_getElem? (i := 338) (by decide +kernel)⟩
theorem lw_p11 : lw_okq (⟨"LinkText$Reader", "takeBraid", "()Z"⟩, 4) := ⟨⟨by decide +kernel, by decide +kernel⟩, List.mem_of_getElem? (i := 75) (by decide +kernel), List.mem_of_getElem? (i := 346) (by decide +kernel), List.mem_of_getElem? (i := 347) (by decide +kernel)⟩
theorem lw_p12 : lw_okq (⟨"LinkText$Reader", "takeSigned", "()Z"⟩, 4) := ⟨⟨by decide +kernel, by decide +kernel⟩, List.mem_of_getElem? (i := 75) (by decide +kernel), List.mem_of_getElem? (i := 350) (by decide +kernel), List.mem_of_getElem? (i := 351) (by decide +kernel)⟩
theorem lw_p13 : lw_okq (⟨"LinkText$Reader", "takeLevel", "()Z"⟩, 4) := ⟨⟨by decide +kernel, by decide +kernel⟩, List.mem_of_getElem? (i := 75) (by decide +kernel), List.mem_of_getElem? (i := 358) (by decide +kernel), List.mem_of_getElem? (i := 359) (by decide +kernel)⟩
theorem lw_p14 : lw_okq (⟨"LinkText$Reader", "takePolynomial", "(Ljava/lang/String;)Z"⟩, 4) := ⟨⟨by decide +kernel, by decide +kernel⟩, List.mem_of_getElem? (i := 75) (by decide +kernel), List.mem_of_getElem? (i := 369) (by decide +kernel), List.mem_of_getElem? (i := 370) (by decide +kernel)⟩
theorem lw_p15 : lw_okq (⟨"LinkText$Reader", "takeTerm", "(ZLjava/lang/String;)Z"⟩, 4) := ⟨⟨by decide +kernel, by decide +kernel⟩, List.mem_of_getElem? (i := 75) (by decide +kernel), List.mem_of_getElem? (i := 373) (by decide +kernel), List.mem_of_getElem? (i := 374) (by decide +kernel)⟩
def lw_privs_1 : List (MethodName × Nat) := [(⟨"LinkText", "feedFour", "(I)V"⟩, 6), (⟨"LinkText$Tokens", "sortAt", "(I)I"⟩, 7), (⟨"LinkText$Tokens", "weigh", "(Z)V"⟩, 7), (⟨"LinkText$Reader", "openLine", "()I"⟩, 4), (⟨"LinkText$Reader", "kindHere", "()I"⟩, 4), (⟨"LinkText$Reader", "fail", "(I)Z"⟩, 4), (⟨"LinkText$Reader", "takeCode", "()Z"⟩, 4), (⟨"LinkText$Reader", "takeCrossing", "()Z"⟩, 4), (⟨"LinkText$Reader", "takeSign", "()Z"⟩, 4), (⟨"LinkText$Reader", "takeMark", "(C)Z"⟩, 4), (⟨"LinkText$Reader", "takeNumber", "()Z"⟩, 4), (⟨"LinkText$Reader", "takeBraid", "()Z"⟩, 4), (⟨"LinkText$Reader", "takeSigned", "()Z"⟩, 4), (⟨"LinkText$Reader", "takeLevel", "()Z"⟩, 4), (⟨"LinkText$Reader", "takePolynomial", "(Ljava/lang/String;)Z"⟩, 4), (⟨"LinkText$Reader", "takeTerm", "(ZLjava/lang/String;)Z"⟩, 4)]
theorem lw_r1 : ∀ q ∈ lw_privs_1, lw_okq q := List.forall_mem_cons.mpr ⟨lw_p0, List.forall_mem_cons.mpr ⟨lw_p1, List.forall_mem_cons.mpr ⟨lw_p2, List.forall_mem_cons.mpr ⟨lw_p3, List.forall_mem_cons.mpr ⟨lw_p4, List.forall_mem_cons.mpr ⟨lw_p5, List.forall_mem_cons.mpr ⟨lw_p6, List.forall_mem_cons.mpr ⟨lw_p7, List.forall_mem_cons.mpr ⟨lw_p8, List.forall_mem_cons.mpr ⟨lw_p9, List.forall_mem_cons.mpr ⟨lw_p10, List.forall_mem_cons.mpr ⟨lw_p11, List.forall_mem_cons.mpr ⟨lw_p12, List.forall_mem_cons.mpr ⟨lw_p13, List.forall_mem_cons.mpr ⟨lw_p14, List.forall_mem_cons.mpr ⟨lw_p15, fun _ h => absurd h List.not_mem_nil⟩⟩⟩⟩⟩⟩⟩⟩⟩⟩⟩⟩⟩⟩⟩⟩
theorem lw_p16 : lw_okq (⟨"LinkText$Printer", "putText", "(Ljava/lang/String;)V"⟩, 2) := ⟨⟨by decide +kernel, by decide +kernel⟩, List.mem_of_getElem? (i := 127) (by decide +kernel), List.mem_of_getElem? (i := 429) (by decide +kernel), List.mem_of_getElem? (i := 430) (by decide +kernel)⟩
theorem lw_p17 : lw_okq (⟨"LinkText$Printer", "putCode", "(I)V"⟩, 2) := ⟨⟨by decide +kernel, by decide +kernel⟩, List.mem_of_getElem? (i := 127) (by decide +kernel), List.mem_of_getElem? (i := 436) (by decide +kernel), List.mem_of_getElem? (i := 437) (by decide +kernel)⟩
theorem lw_p18 : lw_okq (⟨"LinkText$Printer", "putDigits", "(J)V"⟩, 2) := ⟨⟨by decide +kernel, by decide +kernel⟩, List.mem_of_getElem? (i := 127) (by decide +kernel), List.mem_of_getElem? (i := 444) (by decide +kernel), List.mem_of_getElem? (i := 445) (by decide +kernel)⟩
theorem lw_p19 : lw_okq (⟨"LinkText$Printer", "putAllSigned", "(I)V"⟩, 2) := ⟨⟨by decide +kernel, by decide +kernel⟩, List.mem_of_getElem? (i := 127) (by decide +kernel), List.mem_of_getElem? (i := 454) (by decide +kernel), List.mem_of_getElem? (i := 455) (by decide +kernel)⟩
theorem lw_p20 : lw_okq (⟨"LinkText$Printer", "putSigned", "(J)V"⟩, 2) := ⟨⟨by decide +kernel, by decide +kernel⟩, List.mem_of_getElem? (i := 127) (by decide +kernel), List.mem_of_getElem? (i := 458) (by decide +kernel), List.mem_of_getElem? (i := 459) (by decide +kernel)⟩
theorem lw_p21 : lw_okq (⟨"LinkText$Printer", "putLevel", "(J)V"⟩, 2) := ⟨⟨by decide +kernel, by decide +kernel⟩, List.mem_of_getElem? (i := 127) (by decide +kernel), List.mem_of_getElem? (i := 469) (by decide +kernel), List.mem_of_getElem? (i := 470) (by decide +kernel)⟩
theorem lw_p22 : lw_okq (⟨"LinkText$Printer", "putPolynomial", "(ILjava/lang/String;)V"⟩, 2) := ⟨⟨by decide +kernel, by decide +kernel⟩, List.mem_of_getElem? (i := 127) (by decide +kernel), List.mem_of_getElem? (i := 476) (by decide +kernel), List.mem_of_getElem? (i := 477) (by decide +kernel)⟩
theorem lw_p23 : lw_okq (⟨"LinkText$Printer", "putTerm", "(JJLjava/lang/String;)V"⟩, 2) := ⟨⟨by decide +kernel, by decide +kernel⟩, List.mem_of_getElem? (i := 127) (by decide +kernel), List.mem_of_getElem? (i := 484) (by decide +kernel), List.mem_of_getElem? (i := 485) (by decide +kernel)⟩
theorem lw_p24 : lw_okq (⟨"LinkTextModel", "put", "(I)V"⟩, 26) := ⟨⟨by decide +kernel, by decide +kernel⟩, List.mem_of_getElem? (i := 510) (by decide +kernel), List.mem_of_getElem? (i := 598) (by decide +kernel), List.mem_of_getElem? (i := 599) (by decide +kernel)⟩
theorem lw_p25 : lw_okq (⟨"LinkTextModel", "stop", "(II)V"⟩, 26) := ⟨⟨by decide +kernel, by decide +kernel⟩, List.mem_of_getElem? (i := 510) (by decide +kernel), List.mem_of_getElem? (i := 606) (by decide +kernel), List.mem_of_getElem? (i := 607) (by decide +kernel)⟩
theorem lw_p26 : lw_okq (⟨"LinkTextModel", "finish", "(I)V"⟩, 26) := ⟨⟨by decide +kernel, by decide +kernel⟩, List.mem_of_getElem? (i := 510) (by decide +kernel), List.mem_of_getElem? (i := 610) (by decide +kernel), List.mem_of_getElem? (i := 611) (by decide +kernel)⟩
theorem lw_p27 : lw_okq (⟨"LinkTextModel", "mayEnd", "()Z"⟩, 26) := ⟨⟨by decide +kernel, by decide +kernel⟩, List.mem_of_getElem? (i := 510) (by decide +kernel), List.mem_of_getElem? (i := 614) (by decide +kernel), List.mem_of_getElem? (i := 615) (by decide +kernel)⟩
theorem lw_p28 : lw_okq (⟨"LinkTextModel", "add", "(J)V"⟩, 26) := ⟨⟨by decide +kernel, by decide +kernel⟩, List.mem_of_getElem? (i := 510) (by decide +kernel), List.mem_of_getElem? (i := 618) (by decide +kernel), List.mem_of_getElem? (i := 619) (by decide +kernel)⟩
theorem lw_p29 : lw_okq (⟨"LinkTextModel", "term", "(I)V"⟩, 26) := ⟨⟨by decide +kernel, by decide +kernel⟩, List.mem_of_getElem? (i := 510) (by decide +kernel), List.mem_of_getElem? (i := 622) (by decide +kernel), List.mem_of_getElem? (i := 623) (by decide +kernel)⟩
theorem lw_p30 : lw_okq (⟨"LinkTextModel", "token", "(II)V"⟩, 26) := ⟨⟨by decide +kernel, by decide +kernel⟩, List.mem_of_getElem? (i := 510) (by decide +kernel), List.mem_of_getElem? (i := 626) (by decide +kernel), List.mem_of_getElem? (i := 627) (by decide +kernel)⟩
theorem lw_p31 : lw_okq (⟨"LinkTextModel", "number", "()V"⟩, 26) := ⟨⟨by decide +kernel, by decide +kernel⟩, List.mem_of_getElem? (i := 510) (by decide +kernel), List.mem_of_getElem? (i := 636) (by decide +kernel), List.mem_of_getElem? (i := 637) (by decide +kernel)⟩
def lw_privs_2 : List (MethodName × Nat) := [(⟨"LinkText$Printer", "putText", "(Ljava/lang/String;)V"⟩, 2), (⟨"LinkText$Printer", "putCode", "(I)V"⟩, 2), (⟨"LinkText$Printer", "putDigits", "(J)V"⟩, 2), (⟨"LinkText$Printer", "putAllSigned", "(I)V"⟩, 2), (⟨"LinkText$Printer", "putSigned", "(J)V"⟩, 2), (⟨"LinkText$Printer", "putLevel", "(J)V"⟩, 2), (⟨"LinkText$Printer", "putPolynomial", "(ILjava/lang/String;)V"⟩, 2), (⟨"LinkText$Printer", "putTerm", "(JJLjava/lang/String;)V"⟩, 2), (⟨"LinkTextModel", "put", "(I)V"⟩, 26), (⟨"LinkTextModel", "stop", "(II)V"⟩, 26), (⟨"LinkTextModel", "finish", "(I)V"⟩, 26), (⟨"LinkTextModel", "mayEnd", "()Z"⟩, 26), (⟨"LinkTextModel", "add", "(J)V"⟩, 26), (⟨"LinkTextModel", "term", "(I)V"⟩, 26), (⟨"LinkTextModel", "token", "(II)V"⟩, 26), (⟨"LinkTextModel", "number", "()V"⟩, 26)]
theorem lw_r2 : ∀ q ∈ lw_privs_2, lw_okq q := List.forall_mem_cons.mpr ⟨lw_p16, List.forall_mem_cons.mpr ⟨lw_p17, List.forall_mem_cons.mpr ⟨lw_p18, List.forall_mem_cons.mpr ⟨lw_p19, List.forall_mem_cons.mpr ⟨lw_p20, List.forall_mem_cons.mpr ⟨lw_p21, List.forall_mem_cons.mpr ⟨lw_p22, List.forall_mem_cons.mpr ⟨lw_p23, List.forall_mem_cons.mpr ⟨lw_p24, List.forall_mem_cons.mpr ⟨lw_p25, List.forall_mem_cons.mpr ⟨lw_p26, List.forall_mem_cons.mpr ⟨lw_p27, List.forall_mem_cons.mpr ⟨lw_p28, List.forall_mem_cons.mpr ⟨lw_p29, List.forall_mem_cons.mpr ⟨lw_p30, List.forall_mem_cons.mpr ⟨lw_p31, fun _ h => absurd h List.not_mem_nil⟩⟩⟩⟩⟩⟩⟩⟩⟩⟩⟩⟩⟩⟩⟩⟩
theorem lw_p32 : lw_okq (⟨"LinkTextModel", "isCoefficient", "()Z"⟩, 26) := ⟨⟨by decide +kernel, by decide +kernel⟩, List.mem_of_getElem? (i := 510) (by decide +kernel), List.mem_of_getElem? (i := 643) (by decide +kernel), List.mem_of_getElem? (i := 644) (by decide +kernel)⟩
theorem lw_p33 : lw_okq (⟨"LinkTextModel", "one", "(I)V"⟩, 26) := ⟨⟨by decide +kernel, by decide +kernel⟩, List.mem_of_getElem? (i := 510) (by decide +kernel), List.mem_of_getElem? (i := 650) (by decide +kernel), List.mem_of_getElem? (i := 651) (by decide +kernel)⟩
theorem lw_p34 : lw_okq (⟨"LinkTextModel", "begin", "(I)V"⟩, 26) := ⟨⟨by decide +kernel, by decide +kernel⟩, List.mem_of_getElem? (i := 510) (by decide +kernel), List.mem_of_getElem? (i := 654) (by decide +kernel), List.mem_of_getElem? (i := 655) (by decide +kernel)⟩
theorem lw_p35 : lw_okq (⟨"LinkTextModel", "kindOfWord", "()I"⟩, 26) := ⟨⟨by decide +kernel, by decide +kernel⟩, List.mem_of_getElem? (i := 510) (by decide +kernel), List.mem_of_getElem? (i := 658) (by decide +kernel), List.mem_of_getElem? (i := 659) (by decide +kernel)⟩
theorem lw_p36 : lw_okq (⟨"LinkTextModel", "isWord", "(J)Z"⟩, 26) := ⟨⟨by decide +kernel, by decide +kernel⟩, List.mem_of_getElem? (i := 510) (by decide +kernel), List.mem_of_getElem? (i := 666) (by decide +kernel), List.mem_of_getElem? (i := 667) (by decide +kernel)⟩
theorem lw_p37 : lw_okq (⟨"LinkTextModel", "kindOfOther", "()I"⟩, 26) := ⟨⟨by decide +kernel, by decide +kernel⟩, List.mem_of_getElem? (i := 510) (by decide +kernel), List.mem_of_getElem? (i := 674) (by decide +kernel), List.mem_of_getElem? (i := 675) (by decide +kernel)⟩
theorem lw_p38 : lw_okq (⟨"LinkTextModel", "code", "(I)V"⟩, 26) := ⟨⟨by decide +kernel, by decide +kernel⟩, List.mem_of_getElem? (i := 510) (by decide +kernel), List.mem_of_getElem? (i := 680) (by decide +kernel), List.mem_of_getElem? (i := 681) (by decide +kernel)⟩
theorem lw_p39 : lw_okq (⟨"LinkTextModel", "wrong", "()V"⟩, 26) := ⟨⟨by decide +kernel, by decide +kernel⟩, List.mem_of_getElem? (i := 510) (by decide +kernel), List.mem_of_getElem? (i := 686) (by decide +kernel), List.mem_of_getElem? (i := 687) (by decide +kernel)⟩
theorem lw_p40 : lw_okq (⟨"LinkTextModel", "simple", "(I)V"⟩, 26) := ⟨⟨by decide +kernel, by decide +kernel⟩, List.mem_of_getElem? (i := 510) (by decide +kernel), List.mem_of_getElem? (i := 690) (by decide +kernel), List.mem_of_getElem? (i := 691) (by decide +kernel)⟩
theorem lw_p41 : lw_okq (⟨"LinkTextModel", "isSide", "(I)Z"⟩, 26) := ⟨⟨by decide +kernel, by decide +kernel⟩, List.mem_of_getElem? (i := 510) (by decide +kernel), List.mem_of_getElem? (i := 694) (by decide +kernel), List.mem_of_getElem? (i := 695) (by decide +kernel)⟩
theorem lw_p42 : lw_okq (⟨"LinkTextModel", "isOver", "()Z"⟩, 26) := ⟨⟨by decide +kernel, by decide +kernel⟩, List.mem_of_getElem? (i := 510) (by decide +kernel), List.mem_of_getElem? (i := 698) (by decide +kernel), List.mem_of_getElem? (i := 699) (by decide +kernel)⟩
theorem lw_p43 : lw_okq (⟨"LinkTextModel", "push", "(I)V"⟩, 26) := ⟨⟨by decide +kernel, by decide +kernel⟩, List.mem_of_getElem? (i := 510) (by decide +kernel), List.mem_of_getElem? (i := 702) (by decide +kernel), List.mem_of_getElem? (i := 703) (by decide +kernel)⟩
theorem lw_p44 : lw_okq (⟨"LinkTextModel", "polynomial", "(I)V"⟩, 26) := ⟨⟨by decide +kernel, by decide +kernel⟩, List.mem_of_getElem? (i := 510) (by decide +kernel), List.mem_of_getElem? (i := 706) (by decide +kernel), List.mem_of_getElem? (i := 707) (by decide +kernel)⟩
theorem lw_p45 : lw_okq (⟨"LinkTextModel", "isName", "()Z"⟩, 26) := ⟨⟨by decide +kernel, by decide +kernel⟩, List.mem_of_getElem? (i := 510) (by decide +kernel), List.mem_of_getElem? (i := 710) (by decide +kernel), List.mem_of_getElem? (i := 711) (by decide +kernel)⟩
theorem lw_p46 : lw_okq (⟨"LinkTextModel", "isLine", "(I)Z"⟩, 26) := ⟨⟨by decide +kernel, by decide +kernel⟩, List.mem_of_getElem? (i := 510) (by decide +kernel), List.mem_of_getElem? (i := 723) (by decide +kernel), List.mem_of_getElem? (i := 724) (by decide +kernel)⟩
theorem lw_p47 : lw_okq (⟨"LinkTextModel", "writeKind", "(I)V"⟩, 26) := ⟨⟨by decide +kernel, by decide +kernel⟩, List.mem_of_getElem? (i := 510) (by decide +kernel), List.mem_of_getElem? (i := 735) (by decide +kernel), List.mem_of_getElem? (i := 736) (by decide +kernel)⟩
def lw_privs_3 : List (MethodName × Nat) := [(⟨"LinkTextModel", "isCoefficient", "()Z"⟩, 26), (⟨"LinkTextModel", "one", "(I)V"⟩, 26), (⟨"LinkTextModel", "begin", "(I)V"⟩, 26), (⟨"LinkTextModel", "kindOfWord", "()I"⟩, 26), (⟨"LinkTextModel", "isWord", "(J)Z"⟩, 26), (⟨"LinkTextModel", "kindOfOther", "()I"⟩, 26), (⟨"LinkTextModel", "code", "(I)V"⟩, 26), (⟨"LinkTextModel", "wrong", "()V"⟩, 26), (⟨"LinkTextModel", "simple", "(I)V"⟩, 26), (⟨"LinkTextModel", "isSide", "(I)Z"⟩, 26), (⟨"LinkTextModel", "isOver", "()Z"⟩, 26), (⟨"LinkTextModel", "push", "(I)V"⟩, 26), (⟨"LinkTextModel", "polynomial", "(I)V"⟩, 26), (⟨"LinkTextModel", "isName", "()Z"⟩, 26), (⟨"LinkTextModel", "isLine", "(I)Z"⟩, 26), (⟨"LinkTextModel", "writeKind", "(I)V"⟩, 26)]
theorem lw_r3 : ∀ q ∈ lw_privs_3, lw_okq q := List.forall_mem_cons.mpr ⟨lw_p32, List.forall_mem_cons.mpr ⟨lw_p33, List.forall_mem_cons.mpr ⟨lw_p34, List.forall_mem_cons.mpr ⟨lw_p35, List.forall_mem_cons.mpr ⟨lw_p36, List.forall_mem_cons.mpr ⟨lw_p37, List.forall_mem_cons.mpr ⟨lw_p38, List.forall_mem_cons.mpr ⟨lw_p39, List.forall_mem_cons.mpr ⟨lw_p40, List.forall_mem_cons.mpr ⟨lw_p41, List.forall_mem_cons.mpr ⟨lw_p42, List.forall_mem_cons.mpr ⟨lw_p43, List.forall_mem_cons.mpr ⟨lw_p44, List.forall_mem_cons.mpr ⟨lw_p45, List.forall_mem_cons.mpr ⟨lw_p46, List.forall_mem_cons.mpr ⟨lw_p47, fun _ h => absurd h List.not_mem_nil⟩⟩⟩⟩⟩⟩⟩⟩⟩⟩⟩⟩⟩⟩⟩⟩
theorem lw_p48 : lw_okq (⟨"LinkTextModel", "writeWord", "(IIIIIIII)V"⟩, 26) := ⟨⟨by decide +kernel, by decide +kernel⟩, List.mem_of_getElem? (i := 510) (by decide +kernel), List.mem_of_getElem? (i := 739) (by decide +kernel), List.mem_of_getElem? (i := 740) (by decide +kernel)⟩
theorem lw_p49 : lw_okq (⟨"LinkTextModel", "write", "(I)V"⟩, 26) := ⟨⟨by decide +kernel, by decide +kernel⟩, List.mem_of_getElem? (i := 510) (by decide +kernel), List.mem_of_getElem? (i := 743) (by decide +kernel), List.mem_of_getElem? (i := 744) (by decide +kernel)⟩
theorem lw_p50 : lw_okq (⟨"LinkTextModel", "writeCode", "(I)V"⟩, 26) := ⟨⟨by decide +kernel, by decide +kernel⟩, List.mem_of_getElem? (i := 510) (by decide +kernel), List.mem_of_getElem? (i := 747) (by decide +kernel), List.mem_of_getElem? (i := 748) (by decide +kernel)⟩
theorem lw_p51 : lw_okq (⟨"LinkTextModel", "writeNumber", "(J)V"⟩, 26) := ⟨⟨by decide +kernel, by decide +kernel⟩, List.mem_of_getElem? (i := 510) (by decide +kernel), List.mem_of_getElem? (i := 752) (by decide +kernel), List.mem_of_getElem? (i := 753) (by decide +kernel)⟩
theorem lw_p52 : lw_okq (⟨"LinkTextModel", "writeTerms", "(I)V"⟩, 26) := ⟨⟨by decide +kernel, by decide +kernel⟩, List.mem_of_getElem? (i := 510) (by decide +kernel), List.mem_of_getElem? (i := 756) (by decide +kernel), List.mem_of_getElem? (i := 757) (by decide +kernel)⟩
theorem lw_p53 : lw_okq (⟨"LinkTextModel", "writeRest", "(I)V"⟩, 26) := ⟨⟨by decide +kernel, by decide +kernel⟩, List.mem_of_getElem? (i := 510) (by decide +kernel), List.mem_of_getElem? (i := 760) (by decide +kernel), List.mem_of_getElem? (i := 761) (by decide +kernel)⟩
theorem lw_p54 : lw_okq (⟨"LinkTextModel", "writeSide", "(J)V"⟩, 26) := ⟨⟨by decide +kernel, by decide +kernel⟩, List.mem_of_getElem? (i := 510) (by decide +kernel), List.mem_of_getElem? (i := 764) (by decide +kernel), List.mem_of_getElem? (i := 765) (by decide +kernel)⟩
def lw_privs_4 : List (MethodName × Nat) := [(⟨"LinkTextModel", "writeWord", "(IIIIIIII)V"⟩, 26), (⟨"LinkTextModel", "write", "(I)V"⟩, 26), (⟨"LinkTextModel", "writeCode", "(I)V"⟩, 26), (⟨"LinkTextModel", "writeNumber", "(J)V"⟩, 26), (⟨"LinkTextModel", "writeTerms", "(I)V"⟩, 26), (⟨"LinkTextModel", "writeRest", "(I)V"⟩, 26), (⟨"LinkTextModel", "writeSide", "(J)V"⟩, 26)]
theorem lw_r4 : ∀ q ∈ lw_privs_4, lw_okq q := List.forall_mem_cons.mpr ⟨lw_p48, List.forall_mem_cons.mpr ⟨lw_p49, List.forall_mem_cons.mpr ⟨lw_p50, List.forall_mem_cons.mpr ⟨lw_p51, List.forall_mem_cons.mpr ⟨lw_p52, List.forall_mem_cons.mpr ⟨lw_p53, List.forall_mem_cons.mpr ⟨lw_p54, fun _ h => absurd h List.not_mem_nil⟩⟩⟩⟩⟩⟩⟩
def lw_privs : List (MethodName × Nat) := lw_privs_1 ++ (lw_privs_2 ++ (lw_privs_3 ++ (lw_privs_4)))
def lw_tbl : List Cond := k2_sels lw_privs ++ tables_1
theorem lw_privs_ok : ∀ q ∈ lw_privs, lw_okq q := by
  show ∀ q ∈ lw_privs_1 ++ (lw_privs_2 ++ (lw_privs_3 ++ (lw_privs_4))), lw_okq q
  exact List.forall_mem_append.mpr ⟨lw_r1, List.forall_mem_append.mpr ⟨lw_r2, List.forall_mem_append.mpr ⟨lw_r3, lw_r4⟩⟩⟩
def k_tbl : List Cond := lw_tbl.filter goodWord
def RX0 : String := "LinkText$ByteRow"
def TX0 : u_T := fun k => match k with
  | 0 => ("LinkText$ByteRow", "bytes", "[B", true)
  | 1 => ("LinkText$ByteRow", "count", "I", false)
  | _ => ("LinkText$ByteRow", "overrun", "Z", false)
def tyX0 : Nat → FieldType := fun k => match k with
  | 0 => .array .byte
  | 1 => .int
  | _ => .boolean
theorem nmX0 : ∀ a, a < 3 → ∀ b, b < 3 → a ≠ b → (TX0 a).2.1 ≠ (TX0 b).2.1 := by decide +kernel
theorem tyX0_ok : ∀ k, k < 3 → parseFieldDescriptor (TX0 k).2.2.1 = some (tyX0 k) := by decide +kernel
theorem iaX0 : ∀ w ∈ u_ws RX0 TX0 3, w ∈ lw_tbl := by decide +kernel
theorem ibX0 : ∀ w ∈ u_ws RX0 TX0 3, goodWord w = true := by decide +kernel
theorem inX0 : ∀ w ∈ u_ws RX0 TX0 3, w ∈ k_tbl := fun w h => List.mem_filter.mpr ⟨iaX0 w h, ibX0 w h⟩
def RX1 : String := "LinkText$Lines"
def TX1 : u_T := fun k => match k with
  | 0 => ("LinkText$Lines", "kinds", "[I", true)
  | 1 => ("LinkText$Lines", "places", "[I", true)
  | 2 => ("LinkText$Lines", "firsts", "[I", true)
  | 3 => ("LinkText$Lines", "sizes", "[I", true)
  | 4 => ("LinkText$Lines", "numbers", "[J", true)
  | 5 => ("LinkText$Lines", "count", "I", false)
  | _ => ("LinkText$Lines", "numberCount", "I", false)
def tyX1 : Nat → FieldType := fun k => match k with
  | 0 => .array .int
  | 1 => .array .int
  | 2 => .array .int
  | 3 => .array .int
  | 4 => .array .long
  | 5 => .int
  | _ => .int
theorem nmX1 : ∀ a, a < 7 → ∀ b, b < 7 → a ≠ b → (TX1 a).2.1 ≠ (TX1 b).2.1 := by decide +kernel
theorem tyX1_ok : ∀ k, k < 7 → parseFieldDescriptor (TX1 k).2.2.1 = some (tyX1 k) := by decide +kernel
theorem iaX1 : ∀ w ∈ u_ws RX1 TX1 7, w ∈ lw_tbl := by decide +kernel
theorem ibX1 : ∀ w ∈ u_ws RX1 TX1 7, goodWord w = true := by decide +kernel
theorem inX1 : ∀ w ∈ u_ws RX1 TX1 7, w ∈ k_tbl := fun w h => List.mem_filter.mpr ⟨iaX1 w h, ibX1 w h⟩
def RX2 : String := "LinkText$Tokens"
def TX2 : u_T := fun k => match k with
  | 0 => ("LinkText$Tokens", "text", "[B", true)
  | 1 => ("LinkText$Tokens", "end", "I", false)
  | 2 => ("LinkText$Tokens", "sort", "I", false)
  | 3 => ("LinkText$Tokens", "place", "I", false)
  | 4 => ("LinkText$Tokens", "behind", "I", false)
  | 5 => ("LinkText$Tokens", "value", "J", false)
  | _ => ("LinkText$Tokens", "fault", "I", false)
def tyX2 : Nat → FieldType := fun k => match k with
  | 0 => .array .byte
  | 1 => .int
  | 2 => .int
  | 3 => .int
  | 4 => .int
  | 5 => .long
  | _ => .int
theorem nmX2 : ∀ a, a < 7 → ∀ b, b < 7 → a ≠ b → (TX2 a).2.1 ≠ (TX2 b).2.1 := by decide +kernel
theorem tyX2_ok : ∀ k, k < 7 → parseFieldDescriptor (TX2 k).2.2.1 = some (tyX2 k) := by decide +kernel
theorem iaX2 : ∀ w ∈ u_ws RX2 TX2 7, w ∈ lw_tbl := by decide +kernel
theorem ibX2 : ∀ w ∈ u_ws RX2 TX2 7, goodWord w = true := by decide +kernel
theorem inX2 : ∀ w ∈ u_ws RX2 TX2 7, w ∈ k_tbl := fun w h => List.mem_filter.mpr ⟨iaX2 w h, ibX2 w h⟩
def RX3 : String := "LinkText$Reader"
def TX3 : u_T := fun k => match k with
  | 0 => ("LinkText$Reader", "tokens", "LLinkText$Tokens;", true)
  | 1 => ("LinkText$Reader", "lines", "LLinkText$Lines;", true)
  | 2 => ("LinkText$Reader", "fault", "I", false)
  | _ => ("LinkText$Reader", "faultPlace", "I", false)
def tyX3 : Nat → FieldType := fun k => match k with
  | 0 => .object "LinkText$Tokens"
  | 1 => .object "LinkText$Lines"
  | 2 => .int
  | _ => .int
theorem nmX3 : ∀ a, a < 4 → ∀ b, b < 4 → a ≠ b → (TX3 a).2.1 ≠ (TX3 b).2.1 := by decide +kernel
theorem tyX3_ok : ∀ k, k < 4 → parseFieldDescriptor (TX3 k).2.2.1 = some (tyX3 k) := by decide +kernel
theorem iaX3 : ∀ w ∈ u_ws RX3 TX3 4, w ∈ lw_tbl := by decide +kernel
theorem ibX3 : ∀ w ∈ u_ws RX3 TX3 4, goodWord w = true := by decide +kernel
theorem inX3 : ∀ w ∈ u_ws RX3 TX3 4, w ∈ k_tbl := fun w h => List.mem_filter.mpr ⟨iaX3 w h, ibX3 w h⟩
def RX4 : String := "LinkText$Printer"
def TX4 : u_T := fun k => match k with
  | 0 => ("LinkText$Printer", "paper", "LLinkText$ByteRow;", true)
  | _ => ("LinkText$Printer", "lines", "LLinkText$Lines;", true)
def tyX4 : Nat → FieldType := fun k => match k with
  | 0 => .object "LinkText$ByteRow"
  | _ => .object "LinkText$Lines"
theorem nmX4 : ∀ a, a < 2 → ∀ b, b < 2 → a ≠ b → (TX4 a).2.1 ≠ (TX4 b).2.1 := by decide +kernel
theorem tyX4_ok : ∀ k, k < 2 → parseFieldDescriptor (TX4 k).2.2.1 = some (tyX4 k) := by decide +kernel
theorem iaX4 : ∀ w ∈ u_ws RX4 TX4 2, w ∈ lw_tbl := by decide +kernel
theorem ibX4 : ∀ w ∈ u_ws RX4 TX4 2, goodWord w = true := by decide +kernel
theorem inX4 : ∀ w ∈ u_ws RX4 TX4 2, w ∈ k_tbl := fun w h => List.mem_filter.mpr ⟨iaX4 w h, ibX4 w h⟩
def RX5 : String := "LinkText"
def TX5 : u_T := fun k => match k with
  | 0 => ("LinkText", "tape", "LLinkText$ByteRow;", true)
  | 1 => ("LinkText", "paper", "LLinkText$ByteRow;", true)
  | 2 => ("LinkText", "lines", "LLinkText$Lines;", true)
  | 3 => ("LinkText", "reader", "LLinkText$Reader;", true)
  | 4 => ("LinkText", "printer", "LLinkText$Printer;", true)
  | _ => ("LinkText", "everRead", "Z", false)
def tyX5 : Nat → FieldType := fun k => match k with
  | 0 => .object "LinkText$ByteRow"
  | 1 => .object "LinkText$ByteRow"
  | 2 => .object "LinkText$Lines"
  | 3 => .object "LinkText$Reader"
  | 4 => .object "LinkText$Printer"
  | _ => .boolean
theorem nmX5 : ∀ a, a < 6 → ∀ b, b < 6 → a ≠ b → (TX5 a).2.1 ≠ (TX5 b).2.1 := by decide +kernel
theorem tyX5_ok : ∀ k, k < 6 → parseFieldDescriptor (TX5 k).2.2.1 = some (tyX5 k) := by decide +kernel
theorem iaX5 : ∀ w ∈ u_ws RX5 TX5 6, w ∈ lw_tbl := by decide +kernel
theorem ibX5 : ∀ w ∈ u_ws RX5 TX5 6, goodWord w = true := by decide +kernel
theorem inX5 : ∀ w ∈ u_ws RX5 TX5 6, w ∈ k_tbl := fun w h => List.mem_filter.mpr ⟨iaX5 w h, ibX5 w h⟩
def RX6 : String := "LinkTextModel"
def TX6 : u_T := fun k => match k with
  | 0 => ("LinkTextModel", "thrown", "I", false)
  | 1 => ("LinkTextModel", "tape", "[I", true)
  | 2 => ("LinkTextModel", "taped", "I", false)
  | 3 => ("LinkTextModel", "fault", "I", false)
  | 4 => ("LinkTextModel", "place", "I", false)
  | 5 => ("LinkTextModel", "lines", "I", false)
  | 6 => ("LinkTextModel", "kind", "[I", true)
  | 7 => ("LinkTextModel", "first", "[I", true)
  | 8 => ("LinkTextModel", "count", "[I", true)
  | 9 => ("LinkTextModel", "begins", "[I", true)
  | 10 => ("LinkTextModel", "numbers", "[J", true)
  | 11 => ("LinkTextModel", "used", "I", false)
  | 12 => ("LinkTextModel", "state", "I", false)
  | 13 => ("LinkTextModel", "at", "I", false)
  | 14 => ("LinkTextModel", "many", "I", false)
  | 15 => ("LinkTextModel", "labels", "I", false)
  | 16 => ("LinkTextModel", "sign", "I", false)
  | 17 => ("LinkTextModel", "value", "J", false)
  | 18 => ("LinkTextModel", "from", "I", false)
  | 19 => ("LinkTextModel", "to", "I", false)
  | 20 => ("LinkTextModel", "out", "[I", true)
  | 21 => ("LinkTextModel", "printed", "I", false)
  | 22 => ("LinkTextModel", "fresh", "[I", true)
  | 23 => ("LinkTextModel", "written", "I", false)
  | 24 => ("LinkTextModel", "over", "Z", false)
  | _ => ("LinkTextModel", "digits", "[I", true)
def tyX6 : Nat → FieldType := fun k => match k with
  | 0 => .int
  | 1 => .array .int
  | 2 => .int
  | 3 => .int
  | 4 => .int
  | 5 => .int
  | 6 => .array .int
  | 7 => .array .int
  | 8 => .array .int
  | 9 => .array .int
  | 10 => .array .long
  | 11 => .int
  | 12 => .int
  | 13 => .int
  | 14 => .int
  | 15 => .int
  | 16 => .int
  | 17 => .long
  | 18 => .int
  | 19 => .int
  | 20 => .array .int
  | 21 => .int
  | 22 => .array .int
  | 23 => .int
  | 24 => .boolean
  | _ => .array .int
theorem nmX6 : ∀ a, a < 26 → ∀ b, b < 26 → a ≠ b → (TX6 a).2.1 ≠ (TX6 b).2.1 := by decide +kernel
theorem tyX6_ok : ∀ k, k < 26 → parseFieldDescriptor (TX6 k).2.2.1 = some (tyX6 k) := by decide +kernel
theorem iaX6 : ∀ w ∈ u_ws RX6 TX6 26, w ∈ lw_tbl := by decide +kernel
theorem ibX6 : ∀ w ∈ u_ws RX6 TX6 26, goodWord w = true := by decide +kernel
theorem inX6 : ∀ w ∈ u_ws RX6 TX6 26, w ∈ k_tbl := fun w h => List.mem_filter.mpr ⟨iaX6 w h, ibX6 w h⟩
abbrev vwCl : List vw_C := [(RX0, TX0, 3), (RX1, TX1, 7), (RX2, TX2, 7), (RX3, TX3, 4), (RX4, TX4, 2), (RX5, TX5, 6), (RX6, TX6, 26)]
