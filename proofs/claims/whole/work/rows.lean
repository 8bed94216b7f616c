section
-- ===== PART A: goes FIRST, ahead of the names: the tables' words, and 'selects' of the private methods out of them =====
/-- a private method of a class that the tables say can be made, by its rows of tables_1 -/
def lw_okq (q : MethodName × Nat) : Prop := (q.1.cls ≠ "java/lang/invoke/MethodHandle" ∧ q.1.cls ≠ "java/lang/invoke/VarHandle") ∧ Cond.instantiable q.1.cls q.2 ∈ tables_1 ∧ Cond.privateMethod q.1 ∈ tables_1 ∧ Cond.instanceMethod q.1 ∈ tables_1
theorem lw_p0 : lw_okq (⟨"java/lang/Throwable", "fillInStackTrace", "(I)Ljava/lang/Throwable;"⟩, 6) := ⟨⟨by decide +kernel, by decide +kernel⟩, List.mem_of_getElem? (i := 193) (by decide +kernel), List.mem_of_getElem? (i := 191) (by decide +kernel), List.mem_of_getElem? (i := 192) (by decide +kernel)⟩
theorem lw_p1 : lw_okq (⟨"ProcessMill", "beginProcess", "(II)LProcessMill$Proc;"⟩, 16) := ⟨⟨by decide +kernel, by decide +kernel⟩, List.mem_of_getElem? (i := 18) (by decide +kernel), List.mem_of_getElem? (i := 241) (by decide +kernel), List.mem_of_getElem? (i := 242) (by decide +kernel)⟩
theorem lw_p2 : lw_okq (⟨"ProcessMill", "makeReady", "(LProcessMill$Proc;I)V"⟩, 16) := ⟨⟨by decide +kernel, by decide +kernel⟩, List.mem_of_getElem? (i := 18) (by decide +kernel), List.mem_of_getElem? (i := 360) (by decide +kernel), List.mem_of_getElem? (i := 361) (by decide +kernel)⟩
theorem lw_p3 : lw_okq (⟨"ProcessMill", "takeLastTurn", "(LProcessMill$Proc;)V"⟩, 16) := ⟨⟨by decide +kernel, by decide +kernel⟩, List.mem_of_getElem? (i := 18) (by decide +kernel), List.mem_of_getElem? (i := 365) (by decide +kernel), List.mem_of_getElem? (i := 366) (by decide +kernel)⟩
theorem lw_p4 : lw_okq (⟨"ProcessMill", "find", "(I)LProcessMill$Proc;"⟩, 16) := ⟨⟨by decide +kernel, by decide +kernel⟩, List.mem_of_getElem? (i := 18) (by decide +kernel), List.mem_of_getElem? (i := 376) (by decide +kernel), List.mem_of_getElem? (i := 377) (by decide +kernel)⟩
theorem lw_p5 : lw_okq (⟨"ProcessMill$Term", "addSingle", "(II)V"⟩, 2) := ⟨⟨by decide +kernel, by decide +kernel⟩, List.mem_of_getElem? (i := 70) (by decide +kernel), List.mem_of_getElem? (i := 384) (by decide +kernel), List.mem_of_getElem? (i := 385) (by decide +kernel)⟩
theorem lw_p6 : lw_okq (⟨"ProcessMill", "deliver", "(LProcessMill$Proc;LProcessMill$Term;)Z"⟩, 16) := ⟨⟨by decide +kernel, by decide +kernel⟩, List.mem_of_getElem? (i := 18) (by decide +kernel), List.mem_of_getElem? (i := 388) (by decide +kernel), List.mem_of_getElem? (i := 389) (by decide +kernel)⟩
theorem lw_p7 : lw_okq (⟨"ProcessMill", "nextInTurn", "()LProcessMill$Proc;"⟩, 16) := ⟨⟨by decide +kernel, by decide +kernel⟩, List.mem_of_getElem? (i := 18) (by decide +kernel), List.mem_of_getElem? (i := 411) (by decide +kernel), List.mem_of_getElem? (i := 412) (by decide +kernel)⟩
theorem lw_p8 : lw_okq (⟨"ProcessMill", "doSlice", "(LProcessMill$Proc;)V"⟩, 16) := ⟨⟨by decide +kernel, by decide +kernel⟩, List.mem_of_getElem? (i := 18) (by decide +kernel), List.mem_of_getElem? (i := 419) (by decide +kernel), List.mem_of_getElem? (i := 420) (by decide +kernel)⟩
theorem lw_p9 : lw_okq (⟨"ProcessMill", "doWord", "(LProcessMill$Proc;IIII)I"⟩, 16) := ⟨⟨by decide +kernel, by decide +kernel⟩, List.mem_of_getElem? (i := 18) (by decide +kernel), List.mem_of_getElem? (i := 429) (by decide +kernel), List.mem_of_getElem? (i := 430) (by decide +kernel)⟩
theorem lw_p10 : lw_okq (⟨"ProcessMill", "end", "(LProcessMill$Proc;)I"⟩, 16) := ⟨⟨by decide +kernel, by decide +kernel⟩, List.mem_of_getElem? (i := 18) (by decide +kernel), List.mem_of_getElem? (i := 438) (by decide +kernel), List.mem_of_getElem? (i := 439) (by decide +kernel)⟩
theorem lw_p11 : lw_okq (⟨"ProcessMill", "die", "(LProcessMill$Proc;LProcessMill$Term;)V"⟩, 16) := ⟨⟨by decide +kernel, by decide +kernel⟩, List.mem_of_getElem? (i := 18) (by decide +kernel), List.mem_of_getElem? (i := 442) (by decide +kernel), List.mem_of_getElem? (i := 443) (by decide +kernel)⟩
theorem lw_p12 : lw_okq (⟨"ProcessMill$Watches", "dropWhere", "([II)V"⟩, 5) := ⟨⟨by decide +kernel, by decide +kernel⟩, List.mem_of_getElem? (i := 28) (by decide +kernel), List.mem_of_getElem? (i := 458) (by decide +kernel), List.mem_of_getElem? (i := 459) (by decide +kernel)⟩
theorem lw_p13 : lw_okq (⟨"ProcessMill$Term", "endOfFirst", "()I"⟩, 2) := ⟨⟨by decide +kernel, by decide +kernel⟩, List.mem_of_getElem? (i := 70) (by decide +kernel), List.mem_of_getElem? (i := 491) (by decide +kernel), List.mem_of_getElem? (i := 492) (by decide +kernel)⟩
theorem lw_p14 : lw_okq (⟨"ProcessMill$Term", "setPart", "(LProcessMill$Term;II)Z"⟩, 2) := ⟨⟨by decide +kernel, by decide +kernel⟩, List.mem_of_getElem? (i := 70) (by decide +kernel), List.mem_of_getElem? (i := 495) (by decide +kernel), List.mem_of_getElem? (i := 496) (by decide +kernel)⟩
theorem lw_p15 : lw_okq (⟨"ProcessMill", "comeBack", "(LProcessMill$Proc;)I"⟩, 16) := ⟨⟨by decide +kernel, by decide +kernel⟩, List.mem_of_getElem? (i := 18) (by decide +kernel), List.mem_of_getElem? (i := 518) (by decide +kernel), List.mem_of_getElem? (i := 519) (by decide +kernel)⟩
def lw_privs_1 : List (MethodName × Nat) := [(⟨"java/lang/Throwable", "fillInStackTrace", "(I)Ljava/lang/Throwable;"⟩, 6), (⟨"ProcessMill", "beginProcess", "(II)LProcessMill$Proc;"⟩, 16), (⟨"ProcessMill", "makeReady", "(LProcessMill$Proc;I)V"⟩, 16), (⟨"ProcessMill", "takeLastTurn", "(LProcessMill$Proc;)V"⟩, 16), (⟨"ProcessMill", "find", "(I)LProcessMill$Proc;"⟩, 16), (⟨"ProcessMill$Term", "addSingle", "(II)V"⟩, 2), (⟨"ProcessMill", "deliver", "(LProcessMill$Proc;LProcessMill$Term;)Z"⟩, 16), (⟨"ProcessMill", "nextInTurn", "()LProcessMill$Proc;"⟩, 16), (⟨"ProcessMill", "doSlice", "(LProcessMill$Proc;)V"⟩, 16), (⟨"ProcessMill", "doWord", "(LProcessMill$Proc;IIII)I"⟩, 16), (⟨"ProcessMill", "end", "(LProcessMill$Proc;)I"⟩, 16), (⟨"ProcessMill", "die", "(LProcessMill$Proc;LProcessMill$Term;)V"⟩, 16), (⟨"ProcessMill$Watches", "dropWhere", "([II)V"⟩, 5), (⟨"ProcessMill$Term", "endOfFirst", "()I"⟩, 2), (⟨"ProcessMill$Term", "setPart", "(LProcessMill$Term;II)Z"⟩, 2), (⟨"ProcessMill", "comeBack", "(LProcessMill$Proc;)I"⟩, 16)]
theorem lw_r1 : ∀ q ∈ lw_privs_1, lw_okq q := List.forall_mem_cons.mpr ⟨lw_p0, List.forall_mem_cons.mpr ⟨lw_p1, List.forall_mem_cons.mpr ⟨lw_p2, List.forall_mem_cons.mpr ⟨lw_p3, List.forall_mem_cons.mpr ⟨lw_p4, List.forall_mem_cons.mpr ⟨lw_p5, List.forall_mem_cons.mpr ⟨lw_p6, List.forall_mem_cons.mpr ⟨lw_p7, List.forall_mem_cons.mpr ⟨lw_p8, List.forall_mem_cons.mpr ⟨lw_p9, List.forall_mem_cons.mpr ⟨lw_p10, List.forall_mem_cons.mpr ⟨lw_p11, List.forall_mem_cons.mpr ⟨lw_p12, List.forall_mem_cons.mpr ⟨lw_p13, List.forall_mem_cons.mpr ⟨lw_p14, List.forall_mem_cons.mpr ⟨lw_p15, fun _ h => absurd h List.not_mem_nil⟩⟩⟩⟩⟩⟩⟩⟩⟩⟩⟩⟩⟩⟩⟩⟩
theorem lw_p16 : lw_okq (⟨"ProcessMill", "fail", "(LProcessMill$Proc;LProcessMill$Term;)I"⟩, 16) := ⟨⟨by decide +kernel, by decide +kernel⟩, List.mem_of_getElem? (i := 18) (by decide +kernel), List.mem_of_getElem? (i := 537) (by decide +kernel), List.mem_of_getElem? (i := 538) (by decide +kernel)⟩
theorem lw_p17 : lw_okq (⟨"ProcessMill", "beget", "(LProcessMill$Proc;ZLProcessMill$Term;ILProcessMill$Term;)I"⟩, 16) := ⟨⟨by decide +kernel, by decide +kernel⟩, List.mem_of_getElem? (i := 18) (by decide +kernel), List.mem_of_getElem? (i := 546) (by decide +kernel), List.mem_of_getElem? (i := 547) (by decide +kernel)⟩
theorem lw_p18 : lw_okq (⟨"ProcessMill", "post", "(LProcessMill$Term;LProcessMill$Term;)I"⟩, 16) := ⟨⟨by decide +kernel, by decide +kernel⟩, List.mem_of_getElem? (i := 18) (by decide +kernel), List.mem_of_getElem? (i := 554) (by decide +kernel), List.mem_of_getElem? (i := 555) (by decide +kernel)⟩
theorem lw_p19 : lw_okq (⟨"ProcessMill", "findByName", "(I)LProcessMill$Proc;"⟩, 16) := ⟨⟨by decide +kernel, by decide +kernel⟩, List.mem_of_getElem? (i := 18) (by decide +kernel), List.mem_of_getElem? (i := 558) (by decide +kernel), List.mem_of_getElem? (i := 559) (by decide +kernel)⟩
theorem lw_p20 : lw_okq (⟨"ProcessMill", "findByTerm", "(LProcessMill$Term;)LProcessMill$Proc;"⟩, 16) := ⟨⟨by decide +kernel, by decide +kernel⟩, List.mem_of_getElem? (i := 18) (by decide +kernel), List.mem_of_getElem? (i := 562) (by decide +kernel), List.mem_of_getElem? (i := 563) (by decide +kernel)⟩
theorem lw_p21 : lw_okq (⟨"ProcessMill", "awaitFor", "(LProcessMill$Proc;ILProcessMill$Term;I)I"⟩, 16) := ⟨⟨by decide +kernel, by decide +kernel⟩, List.mem_of_getElem? (i := 18) (by decide +kernel), List.mem_of_getElem? (i := 598) (by decide +kernel), List.mem_of_getElem? (i := 599) (by decide +kernel)⟩
theorem lw_p22 : lw_okq (⟨"ProcessMill", "link", "(LProcessMill$Proc;LProcessMill$Proc;)I"⟩, 16) := ⟨⟨by decide +kernel, by decide +kernel⟩, List.mem_of_getElem? (i := 18) (by decide +kernel), List.mem_of_getElem? (i := 606) (by decide +kernel), List.mem_of_getElem? (i := 607) (by decide +kernel)⟩
theorem lw_p23 : lw_okq (⟨"ProcessMill", "getExit", "(LProcessMill$Proc;ILProcessMill$Term;Z)V"⟩, 16) := ⟨⟨by decide +kernel, by decide +kernel⟩, List.mem_of_getElem? (i := 18) (by decide +kernel), List.mem_of_getElem? (i := 610) (by decide +kernel), List.mem_of_getElem? (i := 611) (by decide +kernel)⟩
theorem lw_p24 : lw_okq (⟨"ProcessMill$Term", "addPairSign", "()V"⟩, 2) := ⟨⟨by decide +kernel, by decide +kernel⟩, List.mem_of_getElem? (i := 70) (by decide +kernel), List.mem_of_getElem? (i := 622) (by decide +kernel), List.mem_of_getElem? (i := 623) (by decide +kernel)⟩
theorem lw_p25 : lw_okq (⟨"ProcessMill$Term", "addReason", "(LProcessMill$Term;)V"⟩, 2) := ⟨⟨by decide +kernel, by decide +kernel⟩, List.mem_of_getElem? (i := 70) (by decide +kernel), List.mem_of_getElem? (i := 626) (by decide +kernel), List.mem_of_getElem? (i := 627) (by decide +kernel)⟩
theorem lw_p26 : lw_okq (⟨"ProcessMill", "watch", "(LProcessMill$Proc;LProcessMill$Term;LProcessMill$Proc;)I"⟩, 16) := ⟨⟨by decide +kernel, by decide +kernel⟩, List.mem_of_getElem? (i := 18) (by decide +kernel), List.mem_of_getElem? (i := 638) (by decide +kernel), List.mem_of_getElem? (i := 639) (by decide +kernel)⟩
theorem lw_p27 : lw_okq (⟨"ProcessMill", "exit", "(LProcessMill$Proc;LProcessMill$Proc;LProcessMill$Term;)I"⟩, 16) := ⟨⟨by decide +kernel, by decide +kernel⟩, List.mem_of_getElem? (i := 18) (by decide +kernel), List.mem_of_getElem? (i := 659) (by decide +kernel), List.mem_of_getElem? (i := 660) (by decide +kernel)⟩
theorem lw_p28 : lw_okq (⟨"ProcessMill", "takeName", "(LProcessMill$Proc;I)I"⟩, 16) := ⟨⟨by decide +kernel, by decide +kernel⟩, List.mem_of_getElem? (i := 18) (by decide +kernel), List.mem_of_getElem? (i := 666) (by decide +kernel), List.mem_of_getElem? (i := 667) (by decide +kernel)⟩
theorem lw_p29 : lw_okq (⟨"ProcessMill", "print", "(LProcessMill$Term;)I"⟩, 16) := ⟨⟨by decide +kernel, by decide +kernel⟩, List.mem_of_getElem? (i := 18) (by decide +kernel), List.mem_of_getElem? (i := 673) (by decide +kernel), List.mem_of_getElem? (i := 674) (by decide +kernel)⟩
theorem lw_p30 : lw_okq (⟨"ProcessMill", "spreadDeaths", "()V"⟩, 16) := ⟨⟨by decide +kernel, by decide +kernel⟩, List.mem_of_getElem? (i := 18) (by decide +kernel), List.mem_of_getElem? (i := 681) (by decide +kernel), List.mem_of_getElem? (i := 682) (by decide +kernel)⟩
theorem lw_p31 : lw_okq (⟨"ProcessMill", "tellLinked", "(LProcessMill$Proc;)V"⟩, 16) := ⟨⟨by decide +kernel, by decide +kernel⟩, List.mem_of_getElem? (i := 18) (by decide +kernel), List.mem_of_getElem? (i := 685) (by decide +kernel), List.mem_of_getElem? (i := 686) (by decide +kernel)⟩
def lw_privs_2 : List (MethodName × Nat) := [(⟨"ProcessMill", "fail", "(LProcessMill$Proc;LProcessMill$Term;)I"⟩, 16), (⟨"ProcessMill", "beget", "(LProcessMill$Proc;ZLProcessMill$Term;ILProcessMill$Term;)I"⟩, 16), (⟨"ProcessMill", "post", "(LProcessMill$Term;LProcessMill$Term;)I"⟩, 16), (⟨"ProcessMill", "findByName", "(I)LProcessMill$Proc;"⟩, 16), (⟨"ProcessMill", "findByTerm", "(LProcessMill$Term;)LProcessMill$Proc;"⟩, 16), (⟨"ProcessMill", "awaitFor", "(LProcessMill$Proc;ILProcessMill$Term;I)I"⟩, 16), (⟨"ProcessMill", "link", "(LProcessMill$Proc;LProcessMill$Proc;)I"⟩, 16), (⟨"ProcessMill", "getExit", "(LProcessMill$Proc;ILProcessMill$Term;Z)V"⟩, 16), (⟨"ProcessMill$Term", "addPairSign", "()V"⟩, 2), (⟨"ProcessMill$Term", "addReason", "(LProcessMill$Term;)V"⟩, 2), (⟨"ProcessMill", "watch", "(LProcessMill$Proc;LProcessMill$Term;LProcessMill$Proc;)I"⟩, 16), (⟨"ProcessMill", "exit", "(LProcessMill$Proc;LProcessMill$Proc;LProcessMill$Term;)I"⟩, 16), (⟨"ProcessMill", "takeName", "(LProcessMill$Proc;I)I"⟩, 16), (⟨"ProcessMill", "print", "(LProcessMill$Term;)I"⟩, 16), (⟨"ProcessMill", "spreadDeaths", "()V"⟩, 16), (⟨"ProcessMill", "tellLinked", "(LProcessMill$Proc;)V"⟩, 16)]
theorem lw_r2 : ∀ q ∈ lw_privs_2, lw_okq q := List.forall_mem_cons.mpr ⟨lw_p16, List.forall_mem_cons.mpr ⟨lw_p17, List.forall_mem_cons.mpr ⟨lw_p18, List.forall_mem_cons.mpr ⟨lw_p19, List.forall_mem_cons.mpr ⟨lw_p20, List.forall_mem_cons.mpr ⟨lw_p21, List.forall_mem_cons.mpr ⟨lw_p22, List.forall_mem_cons.mpr ⟨lw_p23, List.forall_mem_cons.mpr ⟨lw_p24, List.forall_mem_cons.mpr ⟨lw_p25, List.forall_mem_cons.mpr ⟨lw_p26, List.forall_mem_cons.mpr ⟨lw_p27, List.forall_mem_cons.mpr ⟨lw_p28, List.forall_mem_cons.mpr ⟨lw_p29, List.forall_mem_cons.mpr ⟨lw_p30, List.forall_mem_cons.mpr ⟨lw_p31, fun _ h => absurd h List.not_mem_nil⟩⟩⟩⟩⟩⟩⟩⟩⟩⟩⟩⟩⟩⟩⟩⟩
theorem lw_p32 : lw_okq (⟨"ProcessMill", "tellWatchers", "(LProcessMill$Proc;)V"⟩, 16) := ⟨⟨by decide +kernel, by decide +kernel⟩, List.mem_of_getElem? (i := 18) (by decide +kernel), List.mem_of_getElem? (i := 693) (by decide +kernel), List.mem_of_getElem? (i := 694) (by decide +kernel)⟩
theorem lw_p33 : lw_okq (⟨"ProcessMill", "firstDue", "()LProcessMill$Proc;"⟩, 16) := ⟨⟨by decide +kernel, by decide +kernel⟩, List.mem_of_getElem? (i := 18) (by decide +kernel), List.mem_of_getElem? (i := 708) (by decide +kernel), List.mem_of_getElem? (i := 709) (by decide +kernel)⟩
theorem lw_p34 : lw_okq (⟨"ProcessMill", "readyOnes", "()I"⟩, 16) := ⟨⟨by decide +kernel, by decide +kernel⟩, List.mem_of_getElem? (i := 18) (by decide +kernel), List.mem_of_getElem? (i := 755) (by decide +kernel), List.mem_of_getElem? (i := 756) (by decide +kernel)⟩
theorem lw_p35 : lw_okq (⟨"ProcessMillModel", "fails", "(ZI)Z"⟩, 41) := ⟨⟨by decide +kernel, by decide +kernel⟩, List.mem_of_getElem? (i := 759) (by decide +kernel), List.mem_of_getElem? (i := 902) (by decide +kernel), List.mem_of_getElem? (i := 903) (by decide +kernel)⟩
theorem lw_p36 : lw_okq (⟨"ProcessMillModel", "create", "(II)I"⟩, 41) := ⟨⟨by decide +kernel, by decide +kernel⟩, List.mem_of_getElem? (i := 759) (by decide +kernel), List.mem_of_getElem? (i := 910) (by decide +kernel), List.mem_of_getElem? (i := 911) (by decide +kernel)⟩
theorem lw_p37 : lw_okq (⟨"ProcessMillModel", "set", "(III)V"⟩, 41) := ⟨⟨by decide +kernel, by decide +kernel⟩, List.mem_of_getElem? (i := 759) (by decide +kernel), List.mem_of_getElem? (i := 914) (by decide +kernel), List.mem_of_getElem? (i := 915) (by decide +kernel)⟩
theorem lw_p38 : lw_okq (⟨"ProcessMillModel", "becomesReady", "(I)V"⟩, 41) := ⟨⟨by decide +kernel, by decide +kernel⟩, List.mem_of_getElem? (i := 759) (by decide +kernel), List.mem_of_getElem? (i := 918) (by decide +kernel), List.mem_of_getElem? (i := 919) (by decide +kernel)⟩
theorem lw_p39 : lw_okq (⟨"ProcessMillModel", "isProcess", "(I)Z"⟩, 41) := ⟨⟨by decide +kernel, by decide +kernel⟩, List.mem_of_getElem? (i := 759) (by decide +kernel), List.mem_of_getElem? (i := 926) (by decide +kernel), List.mem_of_getElem? (i := 927) (by decide +kernel)⟩
theorem lw_p40 : lw_okq (⟨"ProcessMillModel", "comes", "(II)Z"⟩, 41) := ⟨⟨by decide +kernel, by decide +kernel⟩, List.mem_of_getElem? (i := 759) (by decide +kernel), List.mem_of_getElem? (i := 930) (by decide +kernel), List.mem_of_getElem? (i := 931) (by decide +kernel)⟩
theorem lw_p41 : lw_okq (⟨"ProcessMillModel", "copy", "(II)V"⟩, 41) := ⟨⟨by decide +kernel, by decide +kernel⟩, List.mem_of_getElem? (i := 759) (by decide +kernel), List.mem_of_getElem? (i := 934) (by decide +kernel), List.mem_of_getElem? (i := 935) (by decide +kernel)⟩
theorem lw_p42 : lw_okq (⟨"ProcessMillModel", "nextReady", "(Z)I"⟩, 41) := ⟨⟨by decide +kernel, by decide +kernel⟩, List.mem_of_getElem? (i := 759) (by decide +kernel), List.mem_of_getElem? (i := 942) (by decide +kernel), List.mem_of_getElem? (i := 943) (by decide +kernel)⟩
theorem lw_p43 : lw_okq (⟨"ProcessMillModel", "step", "(I)V"⟩, 41) := ⟨⟨by decide +kernel, by decide +kernel⟩, List.mem_of_getElem? (i := 759) (by decide +kernel), List.mem_of_getElem? (i := 946) (by decide +kernel), List.mem_of_getElem? (i := 947) (by decide +kernel)⟩
theorem lw_p44 : lw_okq (⟨"ProcessMillModel", "simple", "(IIIIIIII)V"⟩, 41) := ⟨⟨by decide +kernel, by decide +kernel⟩, List.mem_of_getElem? (i := 759) (by decide +kernel), List.mem_of_getElem? (i := 956) (by decide +kernel), List.mem_of_getElem? (i := 957) (by decide +kernel)⟩
theorem lw_p45 : lw_okq (⟨"ProcessMillModel", "endsBy", "(II)V"⟩, 41) := ⟨⟨by decide +kernel, by decide +kernel⟩, List.mem_of_getElem? (i := 759) (by decide +kernel), List.mem_of_getElem? (i := 960) (by decide +kernel), List.mem_of_getElem? (i := 961) (by decide +kernel)⟩
theorem lw_p46 : lw_okq (⟨"ProcessMillModel", "dies", "(II)V"⟩, 41) := ⟨⟨by decide +kernel, by decide +kernel⟩, List.mem_of_getElem? (i := 759) (by decide +kernel), List.mem_of_getElem? (i := 964) (by decide +kernel), List.mem_of_getElem? (i := 965) (by decide +kernel)⟩
theorem lw_p47 : lw_okq (⟨"ProcessMillModel", "dropWatch", "(I)V"⟩, 41) := ⟨⟨by decide +kernel, by decide +kernel⟩, List.mem_of_getElem? (i := 759) (by decide +kernel), List.mem_of_getElem? (i := 968) (by decide +kernel), List.mem_of_getElem? (i := 969) (by decide +kernel)⟩
def lw_privs_3 : List (MethodName × Nat) := [(⟨"ProcessMill", "tellWatchers", "(LProcessMill$Proc;)V"⟩, 16), (⟨"ProcessMill", "firstDue", "()LProcessMill$Proc;"⟩, 16), (⟨"ProcessMill", "readyOnes", "()I"⟩, 16), (⟨"ProcessMillModel", "fails", "(ZI)Z"⟩, 41), (⟨"ProcessMillModel", "create", "(II)I"⟩, 41), (⟨"ProcessMillModel", "set", "(III)V"⟩, 41), (⟨"ProcessMillModel", "becomesReady", "(I)V"⟩, 41), (⟨"ProcessMillModel", "isProcess", "(I)Z"⟩, 41), (⟨"ProcessMillModel", "comes", "(II)Z"⟩, 41), (⟨"ProcessMillModel", "copy", "(II)V"⟩, 41), (⟨"ProcessMillModel", "nextReady", "(Z)I"⟩, 41), (⟨"ProcessMillModel", "step", "(I)V"⟩, 41), (⟨"ProcessMillModel", "simple", "(IIIIIIII)V"⟩, 41), (⟨"ProcessMillModel", "endsBy", "(II)V"⟩, 41), (⟨"ProcessMillModel", "dies", "(II)V"⟩, 41), (⟨"ProcessMillModel", "dropWatch", "(I)V"⟩, 41)]
theorem lw_r3 : ∀ q ∈ lw_privs_3, lw_okq q := List.forall_mem_cons.mpr ⟨lw_p32, List.forall_mem_cons.mpr ⟨lw_p33, List.forall_mem_cons.mpr ⟨lw_p34, List.forall_mem_cons.mpr ⟨lw_p35, List.forall_mem_cons.mpr ⟨lw_p36, List.forall_mem_cons.mpr ⟨lw_p37, List.forall_mem_cons.mpr ⟨lw_p38, List.forall_mem_cons.mpr ⟨lw_p39, List.forall_mem_cons.mpr ⟨lw_p40, List.forall_mem_cons.mpr ⟨lw_p41, List.forall_mem_cons.mpr ⟨lw_p42, List.forall_mem_cons.mpr ⟨lw_p43, List.forall_mem_cons.mpr ⟨lw_p44, List.forall_mem_cons.mpr ⟨lw_p45, List.forall_mem_cons.mpr ⟨lw_p46, List.forall_mem_cons.mpr ⟨lw_p47, fun _ h => absurd h List.not_mem_nil⟩⟩⟩⟩⟩⟩⟩⟩⟩⟩⟩⟩⟩⟩⟩⟩
theorem lw_p48 : lw_okq (⟨"ProcessMillModel", "reckons", "(IIIII)V"⟩, 41) := ⟨⟨by decide +kernel, by decide +kernel⟩, List.mem_of_getElem? (i := 759) (by decide +kernel), List.mem_of_getElem? (i := 972) (by decide +kernel), List.mem_of_getElem? (i := 973) (by decide +kernel)⟩
theorem lw_p49 : lw_okq (⟨"ProcessMillModel", "is", "(II)Z"⟩, 41) := ⟨⟨by decide +kernel, by decide +kernel⟩, List.mem_of_getElem? (i := 759) (by decide +kernel), List.mem_of_getElem? (i := 976) (by decide +kernel), List.mem_of_getElem? (i := 977) (by decide +kernel)⟩
theorem lw_p50 : lw_okq (⟨"ProcessMillModel", "kindOf", "(I)I"⟩, 41) := ⟨⟨by decide +kernel, by decide +kernel⟩, List.mem_of_getElem? (i := 759) (by decide +kernel), List.mem_of_getElem? (i := 980) (by decide +kernel), List.mem_of_getElem? (i := 981) (by decide +kernel)⟩
theorem lw_p51 : lw_okq (⟨"ProcessMillModel", "bad", "(IZ)Z"⟩, 41) := ⟨⟨by decide +kernel, by decide +kernel⟩, List.mem_of_getElem? (i := 759) (by decide +kernel), List.mem_of_getElem? (i := 984) (by decide +kernel), List.mem_of_getElem? (i := 985) (by decide +kernel)⟩
theorem lw_p52 : lw_okq (⟨"ProcessMillModel", "failsWith", "(III)V"⟩, 41) := ⟨⟨by decide +kernel, by decide +kernel⟩, List.mem_of_getElem? (i := 759) (by decide +kernel), List.mem_of_getElem? (i := 988) (by decide +kernel), List.mem_of_getElem? (i := 989) (by decide +kernel)⟩
theorem lw_p53 : lw_okq (⟨"ProcessMillModel", "failsOf", "(II)V"⟩, 41) := ⟨⟨by decide +kernel, by decide +kernel⟩, List.mem_of_getElem? (i := 759) (by decide +kernel), List.mem_of_getElem? (i := 992) (by decide +kernel), List.mem_of_getElem? (i := 993) (by decide +kernel)⟩
theorem lw_p54 : lw_okq (⟨"ProcessMillModel", "valueOf", "(I)I"⟩, 41) := ⟨⟨by decide +kernel, by decide +kernel⟩, List.mem_of_getElem? (i := 759) (by decide +kernel), List.mem_of_getElem? (i := 996) (by decide +kernel), List.mem_of_getElem? (i := 997) (by decide +kernel)⟩
theorem lw_p55 : lw_okq (⟨"ProcessMillModel", "ends", "(I)I"⟩, 41) := ⟨⟨by decide +kernel, by decide +kernel⟩, List.mem_of_getElem? (i := 759) (by decide +kernel), List.mem_of_getElem? (i := 1000) (by decide +kernel), List.mem_of_getElem? (i := 1001) (by decide +kernel)⟩
theorem lw_p56 : lw_okq (⟨"ProcessMillModel", "pair", "(III)V"⟩, 41) := ⟨⟨by decide +kernel, by decide +kernel⟩, List.mem_of_getElem? (i := 759) (by decide +kernel), List.mem_of_getElem? (i := 1004) (by decide +kernel), List.mem_of_getElem? (i := 1005) (by decide +kernel)⟩
theorem lw_p57 : lw_okq (⟨"ProcessMillModel", "behind", "(II)I"⟩, 41) := ⟨⟨by decide +kernel, by decide +kernel⟩, List.mem_of_getElem? (i := 759) (by decide +kernel), List.mem_of_getElem? (i := 1008) (by decide +kernel), List.mem_of_getElem? (i := 1009) (by decide +kernel)⟩
theorem lw_p58 : lw_okq (⟨"ProcessMillModel", "part", "(IIII)V"⟩, 41) := ⟨⟨by decide +kernel, by decide +kernel⟩, List.mem_of_getElem? (i := 759) (by decide +kernel), List.mem_of_getElem? (i := 1012) (by decide +kernel), List.mem_of_getElem? (i := 1013) (by decide +kernel)⟩
theorem lw_p59 : lw_okq (⟨"ProcessMillModel", "compare", "(II)I"⟩, 41) := ⟨⟨by decide +kernel, by decide +kernel⟩, List.mem_of_getElem? (i := 759) (by decide +kernel), List.mem_of_getElem? (i := 1016) (by decide +kernel), List.mem_of_getElem? (i := 1017) (by decide +kernel)⟩
theorem lw_p60 : lw_okq (⟨"ProcessMillModel", "calls", "(IIIIII)V"⟩, 41) := ⟨⟨by decide +kernel, by decide +kernel⟩, List.mem_of_getElem? (i := 759) (by decide +kernel), List.mem_of_getElem? (i := 1020) (by decide +kernel), List.mem_of_getElem? (i := 1021) (by decide +kernel)⟩
theorem lw_p61 : lw_okq (⟨"ProcessMillModel", "link", "(IIZ)V"⟩, 41) := ⟨⟨by decide +kernel, by decide +kernel⟩, List.mem_of_getElem? (i := 759) (by decide +kernel), List.mem_of_getElem? (i := 1024) (by decide +kernel), List.mem_of_getElem? (i := 1025) (by decide +kernel)⟩
theorem lw_p62 : lw_okq (⟨"ProcessMillModel", "mails", "(IIIIII)V"⟩, 41) := ⟨⟨by decide +kernel, by decide +kernel⟩, List.mem_of_getElem? (i := 759) (by decide +kernel), List.mem_of_getElem? (i := 1028) (by decide +kernel), List.mem_of_getElem? (i := 1029) (by decide +kernel)⟩
theorem lw_p63 : lw_okq (⟨"ProcessMillModel", "withName", "(I)I"⟩, 41) := ⟨⟨by decide +kernel, by decide +kernel⟩, List.mem_of_getElem? (i := 759) (by decide +kernel), List.mem_of_getElem? (i := 1032) (by decide +kernel), List.mem_of_getElem? (i := 1033) (by decide +kernel)⟩
def lw_privs_4 : List (MethodName × Nat) := [(⟨"ProcessMillModel", "reckons", "(IIIII)V"⟩, 41), (⟨"ProcessMillModel", "is", "(II)Z"⟩, 41), (⟨"ProcessMillModel", "kindOf", "(I)I"⟩, 41), (⟨"ProcessMillModel", "bad", "(IZ)Z"⟩, 41), (⟨"ProcessMillModel", "failsWith", "(III)V"⟩, 41), (⟨"ProcessMillModel", "failsOf", "(II)V"⟩, 41), (⟨"ProcessMillModel", "valueOf", "(I)I"⟩, 41), (⟨"ProcessMillModel", "ends", "(I)I"⟩, 41), (⟨"ProcessMillModel", "pair", "(III)V"⟩, 41), (⟨"ProcessMillModel", "behind", "(II)I"⟩, 41), (⟨"ProcessMillModel", "part", "(IIII)V"⟩, 41), (⟨"ProcessMillModel", "compare", "(II)I"⟩, 41), (⟨"ProcessMillModel", "calls", "(IIIIII)V"⟩, 41), (⟨"ProcessMillModel", "link", "(IIZ)V"⟩, 41), (⟨"ProcessMillModel", "mails", "(IIIIII)V"⟩, 41), (⟨"ProcessMillModel", "withName", "(I)I"⟩, 41)]
theorem lw_r4 : ∀ q ∈ lw_privs_4, lw_okq q := List.forall_mem_cons.mpr ⟨lw_p48, List.forall_mem_cons.mpr ⟨lw_p49, List.forall_mem_cons.mpr ⟨lw_p50, List.forall_mem_cons.mpr ⟨lw_p51, List.forall_mem_cons.mpr ⟨lw_p52, List.forall_mem_cons.mpr ⟨lw_p53, List.forall_mem_cons.mpr ⟨lw_p54, List.forall_mem_cons.mpr ⟨lw_p55, List.forall_mem_cons.mpr ⟨lw_p56, List.forall_mem_cons.mpr ⟨lw_p57, List.forall_mem_cons.mpr ⟨lw_p58, List.forall_mem_cons.mpr ⟨lw_p59, List.forall_mem_cons.mpr ⟨lw_p60, List.forall_mem_cons.mpr ⟨lw_p61, List.forall_mem_cons.mpr ⟨lw_p62, List.forall_mem_cons.mpr ⟨lw_p63, fun _ h => absurd h List.not_mem_nil⟩⟩⟩⟩⟩⟩⟩⟩⟩⟩⟩⟩⟩⟩⟩⟩
theorem lw_p64 : lw_okq (⟨"ProcessMillModel", "waits", "(II)V"⟩, 41) := ⟨⟨by decide +kernel, by decide +kernel⟩, List.mem_of_getElem? (i := 759) (by decide +kernel), List.mem_of_getElem? (i := 1036) (by decide +kernel), List.mem_of_getElem? (i := 1037) (by decide +kernel)⟩
theorem lw_p65 : lw_okq (⟨"ProcessMillModel", "others", "(IIIIII)V"⟩, 41) := ⟨⟨by decide +kernel, by decide +kernel⟩, List.mem_of_getElem? (i := 759) (by decide +kernel), List.mem_of_getElem? (i := 1042) (by decide +kernel), List.mem_of_getElem? (i := 1043) (by decide +kernel)⟩
theorem lw_p66 : lw_okq (⟨"ProcessMillModel", "exit", "(IIIZ)V"⟩, 41) := ⟨⟨by decide +kernel, by decide +kernel⟩, List.mem_of_getElem? (i := 759) (by decide +kernel), List.mem_of_getElem? (i := 1046) (by decide +kernel), List.mem_of_getElem? (i := 1047) (by decide +kernel)⟩
theorem lw_p67 : lw_okq (⟨"ProcessMillModel", "isAtom", "(II)Z"⟩, 41) := ⟨⟨by decide +kernel, by decide +kernel⟩, List.mem_of_getElem? (i := 759) (by decide +kernel), List.mem_of_getElem? (i := 1050) (by decide +kernel), List.mem_of_getElem? (i := 1051) (by decide +kernel)⟩
theorem lw_p68 : lw_okq (⟨"ProcessMillModel", "tells", "(IIII)V"⟩, 41) := ⟨⟨by decide +kernel, by decide +kernel⟩, List.mem_of_getElem? (i := 759) (by decide +kernel), List.mem_of_getElem? (i := 1054) (by decide +kernel), List.mem_of_getElem? (i := 1055) (by decide +kernel)⟩
theorem lw_p69 : lw_okq (⟨"ProcessMillModel", "tellsDown", "(IIII)V"⟩, 41) := ⟨⟨by decide +kernel, by decide +kernel⟩, List.mem_of_getElem? (i := 759) (by decide +kernel), List.mem_of_getElem? (i := 1058) (by decide +kernel), List.mem_of_getElem? (i := 1059) (by decide +kernel)⟩
theorem lw_p70 : lw_okq (⟨"ProcessMillModel", "spread", "()V"⟩, 41) := ⟨⟨by decide +kernel, by decide +kernel⟩, List.mem_of_getElem? (i := 759) (by decide +kernel), List.mem_of_getElem? (i := 1062) (by decide +kernel), List.mem_of_getElem? (i := 1063) (by decide +kernel)⟩
theorem lw_p71 : lw_okq (⟨"ProcessMillModel", "numberOf", "(II)I"⟩, 41) := ⟨⟨by decide +kernel, by decide +kernel⟩, List.mem_of_getElem? (i := 759) (by decide +kernel), List.mem_of_getElem? (i := 1082) (by decide +kernel), List.mem_of_getElem? (i := 1083) (by decide +kernel)⟩
def lw_privs_5 : List (MethodName × Nat) := [(⟨"ProcessMillModel", "waits", "(II)V"⟩, 41), (⟨"ProcessMillModel", "others", "(IIIIII)V"⟩, 41), (⟨"ProcessMillModel", "exit", "(IIIZ)V"⟩, 41), (⟨"ProcessMillModel", "isAtom", "(II)Z"⟩, 41), (⟨"ProcessMillModel", "tells", "(IIII)V"⟩, 41), (⟨"ProcessMillModel", "tellsDown", "(IIII)V"⟩, 41), (⟨"ProcessMillModel", "spread", "()V"⟩, 41), (⟨"ProcessMillModel", "numberOf", "(II)I"⟩, 41)]
theorem lw_r5 : ∀ q ∈ lw_privs_5, lw_okq q := List.forall_mem_cons.mpr ⟨lw_p64, List.forall_mem_cons.mpr ⟨lw_p65, List.forall_mem_cons.mpr ⟨lw_p66, List.forall_mem_cons.mpr ⟨lw_p67, List.forall_mem_cons.mpr ⟨lw_p68, List.forall_mem_cons.mpr ⟨lw_p69, List.forall_mem_cons.mpr ⟨lw_p70, List.forall_mem_cons.mpr ⟨lw_p71, fun _ h => absurd h List.not_mem_nil⟩⟩⟩⟩⟩⟩⟩⟩
def lw_privs : List (MethodName × Nat) := lw_privs_1 ++ (lw_privs_2 ++ (lw_privs_3 ++ (lw_privs_4 ++ (lw_privs_5))))
def lw_tbl : List Cond := k2_sels lw_privs ++ tables_1
theorem lw_privs_ok : ∀ q ∈ lw_privs, lw_okq q := by
  show ∀ q ∈ lw_privs_1 ++ (lw_privs_2 ++ (lw_privs_3 ++ (lw_privs_4 ++ (lw_privs_5)))), lw_okq q
  exact List.forall_mem_append.mpr ⟨lw_r1, List.forall_mem_append.mpr ⟨lw_r2, List.forall_mem_append.mpr ⟨lw_r3, List.forall_mem_append.mpr ⟨lw_r4, lw_r5⟩⟩⟩⟩
-- ===== end of PART A; then your names; then what follows =====
end
section
/-! ===== BEGIN words of one list among another's, by their places ===== -/
theorem goodIn_r {big : List Cond} (ws : List Cond) (ps : List Nat) (hp : ws = ps.filterMap (fun i => big[i]?)) (h : ws.all goodWord = true) : GoodIn big ws := by
  intro w hw
  have h1 := List.all_eq_true.mp h w hw
  rw [hp] at hw
  obtain ⟨i, -, hi⟩ := List.mem_filterMap.mp hw
  have hm : w ∈ big := by first | exact List.mem_of_getElem? hi | exact List.getElem?_mem hi
  exact ⟨hm, good_of_word h1⟩
theorem goodIn_app {big a b : List Cond} (ha : GoodIn big a) (hb : GoodIn big b) : GoodIn big (a ++ b) := fun w h => (List.mem_append.mp h).elim (ha w) (hb w)
theorem goodIn_ca {big a b : List Cond} {c : Cond} (ha : GoodIn big (c :: a)) (hb : GoodIn big b) : GoodIn big (c :: (a ++ b)) := fun w h => (List.mem_cons.mp h).elim (fun e => ha w (List.mem_cons.mpr (Or.inl e))) (fun h => (List.mem_append.mp h).elim (fun h => ha w (List.mem_cons.mpr (Or.inr h))) (hb w))
theorem goodIn_sub {big ws : List Cond} (hm : ∀ w ∈ ws, w ∈ big) (h : ws.all goodWord = true) : GoodIn big ws := fun w hw => ⟨hm w hw, good_of_word (List.all_eq_true.mp h w hw)⟩
def RX0 : String := "ProcessMill$Mailbox"
def TX0 : u_T := fun k => match k with
  | 0 => ("ProcessMill$Mailbox", "rows", "[LProcessMill$Term;", true)
  | 1 => ("ProcessMill$Mailbox", "count", "I", false)
  | _ => ("ProcessMill$Mailbox", "pointer", "I", false)
def tyX0 : Nat → FieldType := fun k => match k with
  | 0 => .array (.object "ProcessMill$Term")
  | 1 => .int
  | _ => .int
abbrev wsX00 : List Cond := u_ws RX0 TX0 3
theorem nmX0 : ∀ a, a < 3 → ∀ b, b < 3 → a ≠ b → (TX0 a).2.1 ≠ (TX0 b).2.1 := by decide +kernel
theorem tyX0_ok : ∀ k, k < 3 → parseFieldDescriptor (TX0 k).2.2.1 = some (tyX0 k) := by decide +kernel
abbrev cX0_init : ByteArray := prog_2_method_1_code
def yX0_init : MethodName := ⟨RX0, "<init>", "()V"⟩
abbrev cX0_rowAt : ByteArray := prog_2_method_2_code
def yX0_rowAt : MethodName := ⟨RX0, "rowAt", "(I)LProcessMill$Term;"⟩
abbrev cX0_atPointer : ByteArray := prog_2_method_3_code
def yX0_atPointer : MethodName := ⟨RX0, "atPointer", "()LProcessMill$Term;"⟩
abbrev cX0_newRow : ByteArray := prog_2_method_4_code
def yX0_newRow : MethodName := ⟨RX0, "newRow", "()LProcessMill$Term;"⟩
abbrev cX0_dropAtPointer : ByteArray := prog_2_method_5_code
def yX0_dropAtPointer : MethodName := ⟨RX0, "dropAtPointer", "()V"⟩
abbrev cX0_advance : ByteArray := prog_2_method_6_code
def yX0_advance : MethodName := ⟨RX0, "advance", "()V"⟩
abbrev cX0_pointToFirst : ByteArray := prog_2_method_7_code
def yX0_pointToFirst : MethodName := ⟨RX0, "pointToFirst", "()V"⟩
abbrev cX0_clear : ByteArray := prog_2_method_8_code
def yX0_clear : MethodName := ⟨RX0, "clear", "()V"⟩
def RX1 : String := "ProcessMill$Proc"
def TX1 : u_T := fun k => match k with
  | 0 => ("ProcessMill$Proc", "pid", "I", true)
  | 1 => ("ProcessMill$Proc", "priority", "I", true)
  | 2 => ("ProcessMill$Proc", "registers", "[LProcessMill$Term;", true)
  | 3 => ("ProcessMill$Proc", "reason", "LProcessMill$Term;", true)
  | 4 => ("ProcessMill$Proc", "box", "LProcessMill$Mailbox;", true)
  | 5 => ("ProcessMill$Proc", "trail", "LProcessMill$Trail;", true)
  | 6 => ("ProcessMill$Proc", "state", "I", false)
  | 7 => ("ProcessMill$Proc", "at", "I", false)
  | 8 => ("ProcessMill$Proc", "atIfMail", "I", false)
  | 9 => ("ProcessMill$Proc", "atIfLate", "I", false)
  | 10 => ("ProcessMill$Proc", "deadline", "J", false)
  | 11 => ("ProcessMill$Proc", "turn", "I", false)
  | 12 => ("ProcessMill$Proc", "name", "I", false)
  | 13 => ("ProcessMill$Proc", "traps", "Z", false)
  | 14 => ("ProcessMill$Proc", "links", "J", false)
  | _ => ("ProcessMill$Proc", "wordsDone", "I", false)
def tyX1 : Nat → FieldType := fun k => match k with
  | 0 => .int
  | 1 => .int
  | 2 => .array (.object "ProcessMill$Term")
  | 3 => .object "ProcessMill$Term"
  | 4 => .object "ProcessMill$Mailbox"
  | 5 => .object "ProcessMill$Trail"
  | 6 => .int
  | 7 => .int
  | 8 => .int
  | 9 => .int
  | 10 => .long
  | 11 => .int
  | 12 => .int
  | 13 => .boolean
  | 14 => .long
  | _ => .int
abbrev wsX10 : List Cond := u_ws RX1 TX1 16
theorem nmX1 : ∀ a, a < 16 → ∀ b, b < 16 → a ≠ b → (TX1 a).2.1 ≠ (TX1 b).2.1 := by decide +kernel
theorem tyX1_ok : ∀ k, k < 16 → parseFieldDescriptor (TX1 k).2.2.1 = some (tyX1 k) := by decide +kernel
abbrev cX1_init : ByteArray := prog_3_method_1_code
def yX1_init : MethodName := ⟨RX1, "<init>", "(II)V"⟩
abbrev cX1_x : ByteArray := prog_3_method_2_code
def yX1_x : MethodName := ⟨RX1, "x", "(I)LProcessMill$Term;"⟩
abbrev cX1_beginToWait : ByteArray := prog_3_method_3_code
def yX1_beginToWait : MethodName := ⟨RX1, "beginToWait", "(IIJ)V"⟩
abbrev cX1_comesBefore : ByteArray := prog_3_method_4_code
def yX1_comesBefore : MethodName := ⟨RX1, "comesBefore", "(LProcessMill$Proc;Z)Z"⟩
abbrev cX1_isLinkedWith : ByteArray := prog_3_method_5_code
def yX1_isLinkedWith : MethodName := ⟨RX1, "isLinkedWith", "(LProcessMill$Proc;)Z"⟩
abbrev cX1_linkWith : ByteArray := prog_3_method_6_code
def yX1_linkWith : MethodName := ⟨RX1, "linkWith", "(LProcessMill$Proc;)V"⟩
abbrev cX1_unlinkFrom : ByteArray := prog_3_method_7_code
def yX1_unlinkFrom : MethodName := ⟨RX1, "unlinkFrom", "(LProcessMill$Proc;)V"⟩
abbrev cX1_fact : ByteArray := prog_3_method_8_code
def yX1_fact : MethodName := ⟨RX1, "fact", "(I)I"⟩
def RX2 : String := "ProcessMill$Sheet"
def TX2 : u_T := fun k => match k with
  | 0 => ("ProcessMill$Sheet", "kept", "[I", true)
  | _ => ("ProcessMill$Sheet", "printed", "I", false)
def tyX2 : Nat → FieldType := fun k => match k with
  | 0 => .array .int
  | _ => .int
abbrev wsX20 : List Cond := u_ws RX2 TX2 2
theorem nmX2 : ∀ a, a < 2 → ∀ b, b < 2 → a ≠ b → (TX2 a).2.1 ≠ (TX2 b).2.1 := by decide +kernel
theorem tyX2_ok : ∀ k, k < 2 → parseFieldDescriptor (TX2 k).2.2.1 = some (tyX2 k) := by decide +kernel
abbrev cX2_init : ByteArray := prog_4_method_1_code
def yX2_init : MethodName := ⟨RX2, "<init>", "()V"⟩
abbrev cX2_print : ByteArray := prog_4_method_2_code
def yX2_print : MethodName := ⟨RX2, "print", "(LProcessMill$Term;)V"⟩
abbrev cX2_numberAt : ByteArray := prog_4_method_3_code
def yX2_numberAt : MethodName := ⟨RX2, "numberAt", "(I)I"⟩
def RX3 : String := "ProcessMill$Term"
def TX3 : u_T := fun k => match k with
  | 0 => ("ProcessMill$Term", "row", "[I", true)
  | _ => ("ProcessMill$Term", "length", "I", false)
def tyX3 : Nat → FieldType := fun k => match k with
  | 0 => .array .int
  | _ => .int
abbrev wsX30 : List Cond := u_ws RX3 TX3 2
theorem nmX3 : ∀ a, a < 2 → ∀ b, b < 2 → a ≠ b → (TX3 a).2.1 ≠ (TX3 b).2.1 := by decide +kernel
theorem tyX3_ok : ∀ k, k < 2 → parseFieldDescriptor (TX3 k).2.2.1 = some (tyX3 k) := by decide +kernel
abbrev cX3_init : ByteArray := prog_5_method_1_code
def yX3_init : MethodName := ⟨RX3, "<init>", "()V"⟩
abbrev cX3_kind : ByteArray := prog_5_method_2_code
def yX3_kind : MethodName := ⟨RX3, "kind", "()I"⟩
abbrev cX3_kindOf : ByteArray := prog_5_method_3_code
def yX3_kindOf : MethodName := ⟨RX3, "kindOf", "(I)I"⟩
abbrev cX3_value : ByteArray := prog_5_method_4_code
def yX3_value : MethodName := ⟨RX3, "value", "()I"⟩
abbrev cX3_isAtom : ByteArray := prog_5_method_5_code
def yX3_isAtom : MethodName := ⟨RX3, "isAtom", "(I)Z"⟩
abbrev cX3_numberAt : ByteArray := prog_5_method_6_code
def yX3_numberAt : MethodName := ⟨RX3, "numberAt", "(I)I"⟩
abbrev cX3_setSingle : ByteArray := prog_5_method_7_code
def yX3_setSingle : MethodName := ⟨RX3, "setSingle", "(II)V"⟩
abbrev cX3_copy : ByteArray := prog_5_method_8_code
def yX3_copy : MethodName := ⟨RX3, "copy", "(LProcessMill$Term;)V"⟩
abbrev cX3_setPair : ByteArray := prog_5_method_9_code
def yX3_setPair : MethodName := ⟨RX3, "setPair", "(LProcessMill$Term;LProcessMill$Term;)Z"⟩
abbrev cX3_setFirst : ByteArray := prog_5_method_10_code
def yX3_setFirst : MethodName := ⟨RX3, "setFirst", "(LProcessMill$Term;)Z"⟩
abbrev cX3_setSecond : ByteArray := prog_5_method_11_code
def yX3_setSecond : MethodName := ⟨RX3, "setSecond", "(LProcessMill$Term;)Z"⟩
abbrev cX3_setPart : ByteArray := prog_5_method_12_code
def yX3_setPart : MethodName := ⟨RX3, "setPart", "(LProcessMill$Term;II)Z"⟩
abbrev cX3_endOfFirst : ByteArray := prog_5_method_13_code
def yX3_endOfFirst : MethodName := ⟨RX3, "endOfFirst", "()I"⟩
abbrev cX3_compareWith : ByteArray := prog_5_method_14_code
def yX3_compareWith : MethodName := ⟨RX3, "compareWith", "(LProcessMill$Term;)I"⟩
abbrev cX3_setExit : ByteArray := prog_5_method_15_code
def yX3_setExit : MethodName := ⟨RX3, "setExit", "(ILProcessMill$Term;)V"⟩
abbrev cX3_setDown : ByteArray := prog_5_method_16_code
def yX3_setDown : MethodName := ⟨RX3, "setDown", "(IILProcessMill$Term;)V"⟩
abbrev cX3_addPairSign : ByteArray := prog_5_method_17_code
def yX3_addPairSign : MethodName := ⟨RX3, "addPairSign", "()V"⟩
abbrev cX3_addSingle : ByteArray := prog_5_method_18_code
def yX3_addSingle : MethodName := ⟨RX3, "addSingle", "(II)V"⟩
abbrev cX3_addReason : ByteArray := prog_5_method_19_code
def yX3_addReason : MethodName := ⟨RX3, "addReason", "(LProcessMill$Term;)V"⟩
def RX4 : String := "ProcessMill$Trail"
def TX4 : u_T := fun k => match k with
  | 0 => ("ProcessMill$Trail", "backs", "[I", true)
  | 1 => ("ProcessMill$Trail", "catches", "[I", true)
  | 2 => ("ProcessMill$Trail", "backsAtCatch", "[I", true)
  | 3 => ("ProcessMill$Trail", "backCount", "I", false)
  | _ => ("ProcessMill$Trail", "catchCount", "I", false)
def tyX4 : Nat → FieldType := fun k => match k with
  | 0 => .array .int
  | 1 => .array .int
  | 2 => .array .int
  | 3 => .int
  | _ => .int
abbrev wsX40 : List Cond := u_ws RX4 TX4 5
theorem nmX4 : ∀ a, a < 5 → ∀ b, b < 5 → a ≠ b → (TX4 a).2.1 ≠ (TX4 b).2.1 := by decide +kernel
theorem tyX4_ok : ∀ k, k < 5 → parseFieldDescriptor (TX4 k).2.2.1 = some (tyX4 k) := by decide +kernel
abbrev cX4_init : ByteArray := prog_6_method_1_code
def yX4_init : MethodName := ⟨RX4, "<init>", "()V"⟩
abbrev cX4_addBack : ByteArray := prog_6_method_2_code
def yX4_addBack : MethodName := ⟨RX4, "addBack", "(I)Z"⟩
abbrev cX4_takeBack : ByteArray := prog_6_method_3_code
def yX4_takeBack : MethodName := ⟨RX4, "takeBack", "()I"⟩
abbrev cX4_addCatch : ByteArray := prog_6_method_4_code
def yX4_addCatch : MethodName := ⟨RX4, "addCatch", "(I)Z"⟩
abbrev cX4_dropCatch : ByteArray := prog_6_method_5_code
def yX4_dropCatch : MethodName := ⟨RX4, "dropCatch", "()V"⟩
abbrev cX4_takeCatch : ByteArray := prog_6_method_6_code
def yX4_takeCatch : MethodName := ⟨RX4, "takeCatch", "()I"⟩
abbrev cX4_clear : ByteArray := prog_6_method_7_code
def yX4_clear : MethodName := ⟨RX4, "clear", "()V"⟩
def RX5 : String := "ProcessMill$Watches"
def TX5 : u_T := fun k => match k with
  | 0 => ("ProcessMill$Watches", "numbers", "[I", true)
  | 1 => ("ProcessMill$Watches", "watchers", "[I", true)
  | 2 => ("ProcessMill$Watches", "watched", "[I", true)
  | 3 => ("ProcessMill$Watches", "count", "I", false)
  | _ => ("ProcessMill$Watches", "made", "I", false)
def tyX5 : Nat → FieldType := fun k => match k with
  | 0 => .array .int
  | 1 => .array .int
  | 2 => .array .int
  | 3 => .int
  | _ => .int
abbrev wsX50 : List Cond := u_ws RX5 TX5 5
theorem nmX5 : ∀ a, a < 5 → ∀ b, b < 5 → a ≠ b → (TX5 a).2.1 ≠ (TX5 b).2.1 := by decide +kernel
theorem tyX5_ok : ∀ k, k < 5 → parseFieldDescriptor (TX5 k).2.2.1 = some (tyX5 k) := by decide +kernel
abbrev cX5_init : ByteArray := prog_7_method_1_code
def yX5_init : MethodName := ⟨RX5, "<init>", "()V"⟩
abbrev cX5_isFull : ByteArray := prog_7_method_2_code
def yX5_isFull : MethodName := ⟨RX5, "isFull", "()Z"⟩
abbrev cX5_nextNumber : ByteArray := prog_7_method_3_code
def yX5_nextNumber : MethodName := ⟨RX5, "nextNumber", "()I"⟩
abbrev cX5_add : ByteArray := prog_7_method_4_code
def yX5_add : MethodName := ⟨RX5, "add", "(III)V"⟩
abbrev cX5_dropMadeBy : ByteArray := prog_7_method_5_code
def yX5_dropMadeBy : MethodName := ⟨RX5, "dropMadeBy", "(I)V"⟩
abbrev cX5_dropThoseOf : ByteArray := prog_7_method_6_code
def yX5_dropThoseOf : MethodName := ⟨RX5, "dropThoseOf", "(I)V"⟩
abbrev cX5_dropWhere : ByteArray := prog_7_method_7_code
def yX5_dropWhere : MethodName := ⟨RX5, "dropWhere", "([II)V"⟩
def RX6 : String := "ProcessMill"
def TX6 : u_T := fun k => match k with
  | 0 => ("ProcessMill", "program", "[I", true)
  | 1 => ("ProcessMill", "processes", "[LProcessMill$Proc;", true)
  | 2 => ("ProcessMill", "named", "[LProcessMill$Proc;", true)
  | 3 => ("ProcessMill", "dying", "[LProcessMill$Proc;", true)
  | 4 => ("ProcessMill", "watches", "LProcessMill$Watches;", true)
  | 5 => ("ProcessMill", "sheet", "LProcessMill$Sheet;", true)
  | 6 => ("ProcessMill", "letter", "LProcessMill$Term;", true)
  | 7 => ("ProcessMill", "cause", "LProcessMill$Term;", true)
  | 8 => ("ProcessMill", "started", "I", false)
  | 9 => ("ProcessMill", "deaths", "I", false)
  | 10 => ("ProcessMill", "deathsSpread", "I", false)
  | 11 => ("ProcessMill", "turns", "I", false)
  | 12 => ("ProcessMill", "slices", "I", false)
  | 13 => ("ProcessMill", "wordsDone", "I", false)
  | 14 => ("ProcessMill", "time", "I", false)
  | _ => ("ProcessMill", "messagesCame", "I", false)
def tyX6 : Nat → FieldType := fun k => match k with
  | 0 => .array .int
  | 1 => .array (.object "ProcessMill$Proc")
  | 2 => .array (.object "ProcessMill$Proc")
  | 3 => .array (.object "ProcessMill$Proc")
  | 4 => .object "ProcessMill$Watches"
  | 5 => .object "ProcessMill$Sheet"
  | 6 => .object "ProcessMill$Term"
  | 7 => .object "ProcessMill$Term"
  | 8 => .int
  | 9 => .int
  | 10 => .int
  | 11 => .int
  | 12 => .int
  | 13 => .int
  | 14 => .int
  | _ => .int
abbrev wsX60 : List Cond := u_ws RX6 TX6 16
theorem nmX6 : ∀ a, a < 16 → ∀ b, b < 16 → a ≠ b → (TX6 a).2.1 ≠ (TX6 b).2.1 := by decide +kernel
theorem tyX6_ok : ∀ k, k < 16 → parseFieldDescriptor (TX6 k).2.2.1 = some (tyX6 k) := by decide +kernel
abbrev cX6_init : ByteArray := prog_1_method_1_code
def yX6_init : MethodName := ⟨RX6, "<init>", "()V"⟩
abbrev cX6_word : ByteArray := prog_1_method_2_code
def yX6_word : MethodName := ⟨RX6, "word", "(IIIII)V"⟩
abbrev cX6_start : ByteArray := prog_1_method_3_code
def yX6_start : MethodName := ⟨RX6, "start", "(II)I"⟩
abbrev cX6_send : ByteArray := prog_1_method_4_code
def yX6_send : MethodName := ⟨RX6, "send", "(II)Z"⟩
abbrev cX6_run : ByteArray := prog_1_method_5_code
def yX6_run : MethodName := ⟨RX6, "run", "(I)I"⟩
abbrev cX6_pass : ByteArray := prog_1_method_6_code
def yX6_pass : MethodName := ⟨RX6, "pass", "(I)I"⟩
abbrev cX6_out : ByteArray := prog_1_method_7_code
def yX6_out : MethodName := ⟨RX6, "out", "(I)I"⟩
abbrev cX6_process : ByteArray := prog_1_method_8_code
def yX6_process : MethodName := ⟨RX6, "process", "(II)I"⟩
abbrev cX6_register : ByteArray := prog_1_method_9_code
def yX6_register : MethodName := ⟨RX6, "register", "(III)I"⟩
abbrev cX6_message : ByteArray := prog_1_method_10_code
def yX6_message : MethodName := ⟨RX6, "message", "(III)I"⟩
abbrev cX6_total : ByteArray := prog_1_method_11_code
def yX6_total : MethodName := ⟨RX6, "total", "(I)I"⟩
abbrev cX6_isBelow : ByteArray := prog_1_method_12_code
def yX6_isBelow : MethodName := ⟨RX6, "isBelow", "(II)Z"⟩
abbrev cX6_place : ByteArray := prog_1_method_13_code
def yX6_place : MethodName := ⟨RX6, "place", "(I)I"⟩
abbrev cX6_find : ByteArray := prog_1_method_14_code
def yX6_find : MethodName := ⟨RX6, "find", "(I)LProcessMill$Proc;"⟩
abbrev cX6_findByTerm : ByteArray := prog_1_method_15_code
def yX6_findByTerm : MethodName := ⟨RX6, "findByTerm", "(LProcessMill$Term;)LProcessMill$Proc;"⟩
abbrev cX6_readyOnes : ByteArray := prog_1_method_16_code
def yX6_readyOnes : MethodName := ⟨RX6, "readyOnes", "()I"⟩
abbrev cX6_beginProcess : ByteArray := prog_1_method_17_code
def yX6_beginProcess : MethodName := ⟨RX6, "beginProcess", "(II)LProcessMill$Proc;"⟩
abbrev cX6_makeReady : ByteArray := prog_1_method_18_code
def yX6_makeReady : MethodName := ⟨RX6, "makeReady", "(LProcessMill$Proc;I)V"⟩
abbrev cX6_takeLastTurn : ByteArray := prog_1_method_19_code
def yX6_takeLastTurn : MethodName := ⟨RX6, "takeLastTurn", "(LProcessMill$Proc;)V"⟩
abbrev cX6_nextInTurn : ByteArray := prog_1_method_20_code
def yX6_nextInTurn : MethodName := ⟨RX6, "nextInTurn", "()LProcessMill$Proc;"⟩
abbrev cX6_firstDue : ByteArray := prog_1_method_21_code
def yX6_firstDue : MethodName := ⟨RX6, "firstDue", "()LProcessMill$Proc;"⟩
abbrev cX6_doSlice : ByteArray := prog_1_method_22_code
def yX6_doSlice : MethodName := ⟨RX6, "doSlice", "(LProcessMill$Proc;)V"⟩
abbrev cX6_doWord : ByteArray := prog_1_method_23_code
def yX6_doWord : MethodName := ⟨RX6, "doWord", "(LProcessMill$Proc;IIII)I"⟩
abbrev cX6_give : ByteArray := prog_1_method_24_code
def yX6_give : MethodName := ⟨RX6, "give", "(LProcessMill$Term;II)I"⟩
abbrev cX6_giveCopy : ByteArray := prog_1_method_25_code
def yX6_giveCopy : MethodName := ⟨RX6, "giveCopy", "(LProcessMill$Term;LProcessMill$Term;)I"⟩
abbrev cX6_areNumbers : ByteArray := prog_1_method_26_code
def yX6_areNumbers : MethodName := ⟨RX6, "areNumbers", "(LProcessMill$Term;LProcessMill$Term;)Z"⟩
abbrev cX6_goOn : ByteArray := prog_1_method_27_code
def yX6_goOn : MethodName := ⟨RX6, "goOn", "(LProcessMill$Proc;IZ)I"⟩
abbrev cX6_callWord : ByteArray := prog_1_method_28_code
def yX6_callWord : MethodName := ⟨RX6, "callWord", "(LProcessMill$Proc;I)I"⟩
abbrev cX6_comeBack : ByteArray := prog_1_method_29_code
def yX6_comeBack : MethodName := ⟨RX6, "comeBack", "(LProcessMill$Proc;)I"⟩
abbrev cX6_end : ByteArray := prog_1_method_30_code
def yX6_end : MethodName := ⟨RX6, "end", "(LProcessMill$Proc;)I"⟩
abbrev cX6_dropCatch : ByteArray := prog_1_method_31_code
def yX6_dropCatch : MethodName := ⟨RX6, "dropCatch", "(LProcessMill$Proc;)I"⟩
abbrev cX6_fail : ByteArray := prog_1_method_32_code
def yX6_fail : MethodName := ⟨RX6, "fail", "(LProcessMill$Proc;LProcessMill$Term;)I"⟩
abbrev cX6_beget : ByteArray := prog_1_method_33_code
def yX6_beget : MethodName := ⟨RX6, "beget", "(LProcessMill$Proc;ZLProcessMill$Term;ILProcessMill$Term;)I"⟩
abbrev cX6_post : ByteArray := prog_1_method_34_code
def yX6_post : MethodName := ⟨RX6, "post", "(LProcessMill$Term;LProcessMill$Term;)I"⟩
abbrev cX6_findByName : ByteArray := prog_1_method_35_code
def yX6_findByName : MethodName := ⟨RX6, "findByName", "(I)LProcessMill$Proc;"⟩
abbrev cX6_readMail : ByteArray := prog_1_method_36_code
def yX6_readMail : MethodName := ⟨RX6, "readMail", "(LProcessMill$Proc;LProcessMill$Term;I)I"⟩
abbrev cX6_dropMail : ByteArray := prog_1_method_37_code
def yX6_dropMail : MethodName := ⟨RX6, "dropMail", "(LProcessMill$Proc;)I"⟩
abbrev cX6_advance : ByteArray := prog_1_method_38_code
def yX6_advance : MethodName := ⟨RX6, "advance", "(LProcessMill$Proc;)I"⟩
abbrev cX6_await : ByteArray := prog_1_method_39_code
def yX6_await : MethodName := ⟨RX6, "await", "(LProcessMill$Proc;I)I"⟩
abbrev cX6_awaitFor : ByteArray := prog_1_method_40_code
def yX6_awaitFor : MethodName := ⟨RX6, "awaitFor", "(LProcessMill$Proc;ILProcessMill$Term;I)I"⟩
abbrev cX6_deliver : ByteArray := prog_1_method_41_code
def yX6_deliver : MethodName := ⟨RX6, "deliver", "(LProcessMill$Proc;LProcessMill$Term;)Z"⟩
abbrev cX6_link : ByteArray := prog_1_method_42_code
def yX6_link : MethodName := ⟨RX6, "link", "(LProcessMill$Proc;LProcessMill$Proc;)I"⟩
abbrev cX6_unlink : ByteArray := prog_1_method_43_code
def yX6_unlink : MethodName := ⟨RX6, "unlink", "(LProcessMill$Proc;LProcessMill$Proc;)I"⟩
abbrev cX6_watch : ByteArray := prog_1_method_44_code
def yX6_watch : MethodName := ⟨RX6, "watch", "(LProcessMill$Proc;LProcessMill$Term;LProcessMill$Proc;)I"⟩
abbrev cX6_exit : ByteArray := prog_1_method_45_code
def yX6_exit : MethodName := ⟨RX6, "exit", "(LProcessMill$Proc;LProcessMill$Proc;LProcessMill$Term;)I"⟩
abbrev cX6_trap : ByteArray := prog_1_method_46_code
def yX6_trap : MethodName := ⟨RX6, "trap", "(LProcessMill$Proc;Z)I"⟩
abbrev cX6_takeName : ByteArray := prog_1_method_47_code
def yX6_takeName : MethodName := ⟨RX6, "takeName", "(LProcessMill$Proc;I)I"⟩
abbrev cX6_lookUp : ByteArray := prog_1_method_48_code
def yX6_lookUp : MethodName := ⟨RX6, "lookUp", "(LProcessMill$Term;LProcessMill$Proc;)I"⟩
abbrev cX6_print : ByteArray := prog_1_method_49_code
def yX6_print : MethodName := ⟨RX6, "print", "(LProcessMill$Term;)I"⟩
abbrev cX6_getExit : ByteArray := prog_1_method_50_code
def yX6_getExit : MethodName := ⟨RX6, "getExit", "(LProcessMill$Proc;ILProcessMill$Term;Z)V"⟩
abbrev cX6_die : ByteArray := prog_1_method_51_code
def yX6_die : MethodName := ⟨RX6, "die", "(LProcessMill$Proc;LProcessMill$Term;)V"⟩
abbrev cX6_spreadDeaths : ByteArray := prog_1_method_52_code
def yX6_spreadDeaths : MethodName := ⟨RX6, "spreadDeaths", "()V"⟩
abbrev cX6_tellLinked : ByteArray := prog_1_method_53_code
def yX6_tellLinked : MethodName := ⟨RX6, "tellLinked", "(LProcessMill$Proc;)V"⟩
abbrev cX6_tellWatchers : ByteArray := prog_1_method_54_code
def yX6_tellWatchers : MethodName := ⟨RX6, "tellWatchers", "(LProcessMill$Proc;)V"⟩
def RX7 : String := "ProcessMillModel"
def TX7 : u_T := fun k => match k with
  | 0 => ("ProcessMillModel", "told", "[I", true)
  | 1 => ("ProcessMillModel", "sizes", "[I", true)
  | 2 => ("ProcessMillModel", "operations", "[I", true)
  | 3 => ("ProcessMillModel", "as", "[I", true)
  | 4 => ("ProcessMillModel", "bs", "[I", true)
  | 5 => ("ProcessMillModel", "cs", "[I", true)
  | 6 => ("ProcessMillModel", "state", "[I", true)
  | 7 => ("ProcessMillModel", "place", "[I", true)
  | 8 => ("ProcessMillModel", "priority", "[I", true)
  | 9 => ("ProcessMillModel", "name", "[I", true)
  | 10 => ("ProcessMillModel", "traps", "[Z", true)
  | 11 => ("ProcessMillModel", "mail", "[I", true)
  | 12 => ("ProcessMillModel", "pointer", "[I", true)
  | 13 => ("ProcessMillModel", "backs", "[I", true)
  | 14 => ("ProcessMillModel", "backCount", "[I", true)
  | 15 => ("ProcessMillModel", "catches", "[I", true)
  | 16 => ("ProcessMillModel", "caught", "[I", true)
  | 17 => ("ProcessMillModel", "catchCount", "[I", true)
  | 18 => ("ProcessMillModel", "done", "[I", true)
  | 19 => ("ProcessMillModel", "onTo", "[I", true)
  | 20 => ("ProcessMillModel", "lateTo", "[I", true)
  | 21 => ("ProcessMillModel", "due", "[I", true)
  | 22 => ("ProcessMillModel", "timed", "[Z", true)
  | 23 => ("ProcessMillModel", "since", "[I", true)
  | 24 => ("ProcessMillModel", "linked", "[Z", true)
  | 25 => ("ProcessMillModel", "count", "I", false)
  | 26 => ("ProcessMillModel", "readies", "I", false)
  | 27 => ("ProcessMillModel", "watchers", "[I", true)
  | 28 => ("ProcessMillModel", "watched", "[I", true)
  | 29 => ("ProcessMillModel", "numbers", "[I", true)
  | 30 => ("ProcessMillModel", "watchCount", "I", false)
  | 31 => ("ProcessMillModel", "made", "I", false)
  | 32 => ("ProcessMillModel", "fallen", "[I", true)
  | 33 => ("ProcessMillModel", "fallenCount", "I", false)
  | 34 => ("ProcessMillModel", "out", "[I", true)
  | 35 => ("ProcessMillModel", "printed", "I", false)
  | 36 => ("ProcessMillModel", "slices", "I", false)
  | 37 => ("ProcessMillModel", "allDone", "I", false)
  | 38 => ("ProcessMillModel", "time", "I", false)
  | 39 => ("ProcessMillModel", "came", "I", false)
  | _ => ("ProcessMillModel", "thrown", "I", false)
def tyX7 : Nat → FieldType := fun k => match k with
  | 0 => .array .int
  | 1 => .array .int
  | 2 => .array .int
  | 3 => .array .int
  | 4 => .array .int
  | 5 => .array .int
  | 6 => .array .int
  | 7 => .array .int
  | 8 => .array .int
  | 9 => .array .int
  | 10 => .array .boolean
  | 11 => .array .int
  | 12 => .array .int
  | 13 => .array .int
  | 14 => .array .int
  | 15 => .array .int
  | 16 => .array .int
  | 17 => .array .int
  | 18 => .array .int
  | 19 => .array .int
  | 20 => .array .int
  | 21 => .array .int
  | 22 => .array .boolean
  | 23 => .array .int
  | 24 => .array .boolean
  | 25 => .int
  | 26 => .int
  | 27 => .array .int
  | 28 => .array .int
  | 29 => .array .int
  | 30 => .int
  | 31 => .int
  | 32 => .array .int
  | 33 => .int
  | 34 => .array .int
  | 35 => .int
  | 36 => .int
  | 37 => .int
  | 38 => .int
  | 39 => .int
  | _ => .int
abbrev wsX70 : List Cond := u_ws RX7 TX7 41
theorem nmX7 : ∀ a, a < 41 → ∀ b, b < 41 → a ≠ b → (TX7 a).2.1 ≠ (TX7 b).2.1 := by decide +kernel
theorem tyX7_ok : ∀ k, k < 41 → parseFieldDescriptor (TX7 k).2.2.1 = some (tyX7 k) := by decide +kernel
abbrev cX7_init : ByteArray := prog_9_method_1_code
def yX7_init : MethodName := ⟨RX7, "<init>", "()V"⟩
abbrev cX7_thrown : ByteArray := prog_9_method_2_code
def yX7_thrown : MethodName := ⟨RX7, "thrown", "()I"⟩
abbrev cX7_fails : ByteArray := prog_9_method_3_code
def yX7_fails : MethodName := ⟨RX7, "fails", "(ZI)Z"⟩
abbrev cX7_within : ByteArray := prog_9_method_4_code
def yX7_within : MethodName := ⟨RX7, "within", "(III)Z"⟩
abbrev cX7_mod : ByteArray := prog_9_method_5_code
def yX7_mod : MethodName := ⟨RX7, "mod", "(II)I"⟩
abbrev cX7_set : ByteArray := prog_9_method_6_code
def yX7_set : MethodName := ⟨RX7, "set", "(III)V"⟩
abbrev cX7_copy : ByteArray := prog_9_method_7_code
def yX7_copy : MethodName := ⟨RX7, "copy", "(II)V"⟩
abbrev cX7_kindOf : ByteArray := prog_9_method_8_code
def yX7_kindOf : MethodName := ⟨RX7, "kindOf", "(I)I"⟩
abbrev cX7_valueOf : ByteArray := prog_9_method_9_code
def yX7_valueOf : MethodName := ⟨RX7, "valueOf", "(I)I"⟩
abbrev cX7_is : ByteArray := prog_9_method_10_code
def yX7_is : MethodName := ⟨RX7, "is", "(II)Z"⟩
abbrev cX7_ends : ByteArray := prog_9_method_11_code
def yX7_ends : MethodName := ⟨RX7, "ends", "(I)I"⟩
abbrev cX7_behind : ByteArray := prog_9_method_12_code
def yX7_behind : MethodName := ⟨RX7, "behind", "(II)I"⟩
abbrev cX7_part : ByteArray := prog_9_method_13_code
def yX7_part : MethodName := ⟨RX7, "part", "(IIII)V"⟩
abbrev cX7_pair : ByteArray := prog_9_method_14_code
def yX7_pair : MethodName := ⟨RX7, "pair", "(III)V"⟩
abbrev cX7_compare : ByteArray := prog_9_method_15_code
def yX7_compare : MethodName := ⟨RX7, "compare", "(II)I"⟩
abbrev cX7_word : ByteArray := prog_9_method_16_code
def yX7_word : MethodName := ⟨RX7, "word", "(IIIII)V"⟩
abbrev cX7_becomesReady : ByteArray := prog_9_method_17_code
def yX7_becomesReady : MethodName := ⟨RX7, "becomesReady", "(I)V"⟩
abbrev cX7_create : ByteArray := prog_9_method_18_code
def yX7_create : MethodName := ⟨RX7, "create", "(II)I"⟩
abbrev cX7_start : ByteArray := prog_9_method_19_code
def yX7_start : MethodName := ⟨RX7, "start", "(II)I"⟩
abbrev cX7_comes : ByteArray := prog_9_method_20_code
def yX7_comes : MethodName := ⟨RX7, "comes", "(II)Z"⟩
abbrev cX7_isProcess : ByteArray := prog_9_method_21_code
def yX7_isProcess : MethodName := ⟨RX7, "isProcess", "(I)Z"⟩
abbrev cX7_send : ByteArray := prog_9_method_22_code
def yX7_send : MethodName := ⟨RX7, "send", "(II)Z"⟩
abbrev cX7_dies : ByteArray := prog_9_method_23_code
def yX7_dies : MethodName := ⟨RX7, "dies", "(II)V"⟩
abbrev cX7_spread : ByteArray := prog_9_method_24_code
def yX7_spread : MethodName := ⟨RX7, "spread", "()V"⟩
abbrev cX7_dropWatch : ByteArray := prog_9_method_25_code
def yX7_dropWatch : MethodName := ⟨RX7, "dropWatch", "(I)V"⟩
abbrev cX7_link : ByteArray := prog_9_method_26_code
def yX7_link : MethodName := ⟨RX7, "link", "(IIZ)V"⟩
abbrev cX7_tells : ByteArray := prog_9_method_27_code
def yX7_tells : MethodName := ⟨RX7, "tells", "(IIII)V"⟩
abbrev cX7_tellsDown : ByteArray := prog_9_method_28_code
def yX7_tellsDown : MethodName := ⟨RX7, "tellsDown", "(IIII)V"⟩
abbrev cX7_isAtom : ByteArray := prog_9_method_29_code
def yX7_isAtom : MethodName := ⟨RX7, "isAtom", "(II)Z"⟩
abbrev cX7_exit : ByteArray := prog_9_method_30_code
def yX7_exit : MethodName := ⟨RX7, "exit", "(IIIZ)V"⟩
abbrev cX7_bad : ByteArray := prog_9_method_31_code
def yX7_bad : MethodName := ⟨RX7, "bad", "(IZ)Z"⟩
abbrev cX7_failsWith : ByteArray := prog_9_method_32_code
def yX7_failsWith : MethodName := ⟨RX7, "failsWith", "(III)V"⟩
abbrev cX7_failsOf : ByteArray := prog_9_method_33_code
def yX7_failsOf : MethodName := ⟨RX7, "failsOf", "(II)V"⟩
abbrev cX7_registerOf : ByteArray := prog_9_method_34_code
def yX7_registerOf : MethodName := ⟨RX7, "registerOf", "(II)I"⟩
abbrev cX7_waits : ByteArray := prog_9_method_35_code
def yX7_waits : MethodName := ⟨RX7, "waits", "(II)V"⟩
abbrev cX7_endsBy : ByteArray := prog_9_method_36_code
def yX7_endsBy : MethodName := ⟨RX7, "endsBy", "(II)V"⟩
abbrev cX7_withName : ByteArray := prog_9_method_37_code
def yX7_withName : MethodName := ⟨RX7, "withName", "(I)I"⟩
abbrev cX7_reckons : ByteArray := prog_9_method_38_code
def yX7_reckons : MethodName := ⟨RX7, "reckons", "(IIIII)V"⟩
abbrev cX7_step : ByteArray := prog_9_method_39_code
def yX7_step : MethodName := ⟨RX7, "step", "(I)V"⟩
abbrev cX7_simple : ByteArray := prog_9_method_40_code
def yX7_simple : MethodName := ⟨RX7, "simple", "(IIIIIIII)V"⟩
abbrev cX7_calls : ByteArray := prog_9_method_41_code
def yX7_calls : MethodName := ⟨RX7, "calls", "(IIIIII)V"⟩
abbrev cX7_mails : ByteArray := prog_9_method_42_code
def yX7_mails : MethodName := ⟨RX7, "mails", "(IIIIII)V"⟩
abbrev cX7_others : ByteArray := prog_9_method_43_code
def yX7_others : MethodName := ⟨RX7, "others", "(IIIIII)V"⟩
abbrev cX7_nextReady : ByteArray := prog_9_method_44_code
def yX7_nextReady : MethodName := ⟨RX7, "nextReady", "(Z)I"⟩
abbrev cX7_run : ByteArray := prog_9_method_45_code
def yX7_run : MethodName := ⟨RX7, "run", "(I)I"⟩
abbrev cX7_pass : ByteArray := prog_9_method_46_code
def yX7_pass : MethodName := ⟨RX7, "pass", "(I)I"⟩
abbrev cX7_out : ByteArray := prog_9_method_47_code
def yX7_out : MethodName := ⟨RX7, "out", "(I)I"⟩
abbrev cX7_process : ByteArray := prog_9_method_48_code
def yX7_process : MethodName := ⟨RX7, "process", "(II)I"⟩
abbrev cX7_numberOf : ByteArray := prog_9_method_49_code
def yX7_numberOf : MethodName := ⟨RX7, "numberOf", "(II)I"⟩
abbrev cX7_register : ByteArray := prog_9_method_50_code
def yX7_register : MethodName := ⟨RX7, "register", "(III)I"⟩
abbrev cX7_message : ByteArray := prog_9_method_51_code
def yX7_message : MethodName := ⟨RX7, "message", "(III)I"⟩
abbrev cX7_total : ByteArray := prog_9_method_52_code
def yX7_total : MethodName := ⟨RX7, "total", "(I)I"⟩
def RJ13 : String := "java/lang/Long"
def TJ13 : u_T := fun k => match k with
  | _ => ("", "", "", false)
def tyJ13 : Nat → FieldType := fun k => match k with
  | _ => .int
abbrev wsJ130 : List Cond := u_ws RJ13 TJ13 0
theorem nmJ13 : ∀ a, a < 0 → ∀ b, b < 0 → a ≠ b → (TJ13 a).2.1 ≠ (TJ13 b).2.1 := by decide +kernel
theorem tyJ13_ok : ∀ k, k < 0 → parseFieldDescriptor (TJ13 k).2.2.1 = some (tyJ13 k) := by decide +kernel
abbrev cJ13_bitCount_95d88 : ByteArray := prog_13_method_50_code
def yJ13_bitCount_95d88 : MethodName := ⟨RJ13, "bitCount", "(J)I"⟩
def RJ9 : String := "java/lang/Math"
def TJ9 : u_T := fun k => match k with
  | _ => ("", "", "", false)
def tyJ9 : Nat → FieldType := fun k => match k with
  | _ => .int
abbrev wsJ90 : List Cond := u_ws RJ9 TJ9 0
theorem nmJ9 : ∀ a, a < 0 → ∀ b, b < 0 → a ≠ b → (TJ9 a).2.1 ≠ (TJ9 b).2.1 := by decide +kernel
theorem tyJ9_ok : ∀ k, k < 0 → parseFieldDescriptor (TJ9 k).2.2.1 = some (tyJ9 k) := by decide +kernel
abbrev cJ9_floorMod_7cf53 : ByteArray := prog_14_method_50_code
def yJ9_floorMod_7cf53 : MethodName := ⟨RJ9, "floorMod", "(II)I"⟩
abbrev cJ9_min_7cf53 : ByteArray := prog_14_method_69_code
def yJ9_min_7cf53 : MethodName := ⟨RJ9, "min", "(II)I"⟩
def RJ10 : String := "java/lang/System"
def TJ10 : u_T := fun k => match k with
  | _ => ("", "", "", false)
def tyJ10 : Nat → FieldType := fun k => match k with
  | _ => .int
abbrev wsJ100 : List Cond := u_ws RJ10 TJ10 0
theorem nmJ10 : ∀ a, a < 0 → ∀ b, b < 0 → a ≠ b → (TJ10 a).2.1 ≠ (TJ10 b).2.1 := by decide +kernel
theorem tyJ10_ok : ∀ k, k < 0 → parseFieldDescriptor (TJ10 k).2.2.1 = some (tyJ10 k) := by decide +kernel
def RL : String := "ProcessMillLaw"
abbrev cL_word : ByteArray := method_3_code
def yL_word : MethodName := ⟨RL, "word", "(LProcessMill;IIIII)I"⟩
abbrev cL_start : ByteArray := method_4_code
def yL_start : MethodName := ⟨RL, "start", "(LProcessMill;II[J)I"⟩
abbrev cL_send : ByteArray := method_5_code
def yL_send : MethodName := ⟨RL, "send", "(LProcessMill;II[J)I"⟩
abbrev cL_run : ByteArray := method_6_code
def yL_run : MethodName := ⟨RL, "run", "(LProcessMill;I[J)I"⟩
abbrev cL_pass : ByteArray := method_7_code
def yL_pass : MethodName := ⟨RL, "pass", "(LProcessMill;I[J)I"⟩
abbrev cL_process : ByteArray := method_8_code
def yL_process : MethodName := ⟨RL, "process", "(LProcessMill;II[J)I"⟩
abbrev cL_register : ByteArray := method_9_code
def yL_register : MethodName := ⟨RL, "register", "(LProcessMill;III[J)I"⟩
abbrev cL_message : ByteArray := method_10_code
def yL_message : MethodName := ⟨RL, "message", "(LProcessMill;III[J)I"⟩
abbrev cL_total : ByteArray := method_11_code
def yL_total : MethodName := ⟨RL, "total", "(LProcessMill;I[J)I"⟩
abbrev cL_law : ByteArray := code
def yL_law : MethodName := ⟨RL, "law", "([I)Z"⟩
abbrev vwCl : List vw_C := [(RX0, TX0, 3), (RX1, TX1, 16), (RX2, TX2, 2), (RX3, TX3, 2), (RX4, TX4, 5), (RX5, TX5, 5), (RX6, TX6, 16), (RX7, TX7, 41)]
end
section
theorem dX0_init_0 : decode cX0_init 0 = .ok (.aload_n 0, 1) := by decide +kernel
theorem dX0_init_1 : decode cX0_init 1 = .ok (.invokespecial 1, 3) := by decide +kernel
theorem dX0_init_4 : decode cX0_init 4 = .ok (.aload_n 0, 1) := by decide +kernel
theorem dX0_init_5 : decode cX0_init 5 = .ok (.bipush 40, 2) := by decide +kernel
theorem dX0_init_7 : decode cX0_init 7 = .ok (.anewarray 9, 3) := by decide +kernel
theorem dX0_init_10 : decode cX0_init 10 = .ok (.putfield 11, 3) := by decide +kernel
theorem dX0_init_13 : decode cX0_init 13 = .ok (.aload_n 0, 1) := by decide +kernel
theorem dX0_init_14 : decode cX0_init 14 = .ok (.iconst 0, 1) := by decide +kernel
theorem dX0_init_15 : decode cX0_init 15 = .ok (.putfield 15, 3) := by decide +kernel
theorem dX0_init_18 : decode cX0_init 18 = .ok (.aload_n 0, 1) := by decide +kernel
theorem dX0_init_19 : decode cX0_init 19 = .ok (.iconst 0, 1) := by decide +kernel
theorem dX0_init_20 : decode cX0_init 20 = .ok (.putfield 19, 3) := by decide +kernel
theorem dX0_init_23 : decode cX0_init 23 = .ok (.return_, 1) := by decide +kernel
theorem dX0_rowAt_0 : decode cX0_rowAt 0 = .ok (.iload_n 1, 1) := by decide +kernel
theorem dX0_rowAt_1 : decode cX0_rowAt 1 = .ok (.ifCond .lt 20, 3) := by decide +kernel
theorem dX0_rowAt_4 : decode cX0_rowAt 4 = .ok (.iload_n 1, 1) := by decide +kernel
theorem dX0_rowAt_5 : decode cX0_rowAt 5 = .ok (.aload_n 0, 1) := by decide +kernel
theorem dX0_rowAt_6 : decode cX0_rowAt 6 = .ok (.getfield 15, 3) := by decide +kernel
theorem dX0_rowAt_9 : decode cX0_rowAt 9 = .ok (.if_icmp .ge 12, 3) := by decide +kernel
theorem dX0_rowAt_12 : decode cX0_rowAt 12 = .ok (.aload_n 0, 1) := by decide +kernel
theorem dX0_rowAt_13 : decode cX0_rowAt 13 = .ok (.getfield 11, 3) := by decide +kernel
theorem dX0_rowAt_16 : decode cX0_rowAt 16 = .ok (.iload_n 1, 1) := by decide +kernel
theorem dX0_rowAt_17 : decode cX0_rowAt 17 = .ok (.aaload, 1) := by decide +kernel
theorem dX0_rowAt_18 : decode cX0_rowAt 18 = .ok (.goto 4, 3) := by decide +kernel
theorem dX0_rowAt_21 : decode cX0_rowAt 21 = .ok (.aconst_null, 1) := by decide +kernel
theorem dX0_rowAt_22 : decode cX0_rowAt 22 = .ok (.areturn, 1) := by decide +kernel
theorem dX0_atPointer_0 : decode cX0_atPointer 0 = .ok (.aload_n 0, 1) := by decide +kernel
theorem dX0_atPointer_1 : decode cX0_atPointer 1 = .ok (.aload_n 0, 1) := by decide +kernel
theorem dX0_atPointer_2 : decode cX0_atPointer 2 = .ok (.getfield 19, 3) := by decide +kernel
theorem dX0_atPointer_5 : decode cX0_atPointer 5 = .ok (.invokevirtual 22, 3) := by decide +kernel
theorem dX0_atPointer_8 : decode cX0_atPointer 8 = .ok (.areturn, 1) := by decide +kernel
theorem dX0_newRow_0 : decode cX0_newRow 0 = .ok (.aload_n 0, 1) := by decide +kernel
theorem dX0_newRow_1 : decode cX0_newRow 1 = .ok (.getfield 15, 3) := by decide +kernel
theorem dX0_newRow_4 : decode cX0_newRow 4 = .ok (.bipush 40, 2) := by decide +kernel
theorem dX0_newRow_6 : decode cX0_newRow 6 = .ok (.if_icmp .lt 5, 3) := by decide +kernel
theorem dX0_newRow_9 : decode cX0_newRow 9 = .ok (.aconst_null, 1) := by decide +kernel
theorem dX0_newRow_10 : decode cX0_newRow 10 = .ok (.areturn, 1) := by decide +kernel
theorem dX0_newRow_11 : decode cX0_newRow 11 = .ok (.aload_n 0, 1) := by decide +kernel
theorem dX0_newRow_12 : decode cX0_newRow 12 = .ok (.getfield 11, 3) := by decide +kernel
theorem dX0_newRow_15 : decode cX0_newRow 15 = .ok (.aload_n 0, 1) := by decide +kernel
theorem dX0_newRow_16 : decode cX0_newRow 16 = .ok (.getfield 15, 3) := by decide +kernel
theorem dX0_newRow_19 : decode cX0_newRow 19 = .ok (.aaload, 1) := by decide +kernel
theorem dX0_newRow_20 : decode cX0_newRow 20 = .ok (.ifnonnull 19, 3) := by decide +kernel
theorem dX0_newRow_23 : decode cX0_newRow 23 = .ok (.aload_n 0, 1) := by decide +kernel
theorem dX0_newRow_24 : decode cX0_newRow 24 = .ok (.getfield 11, 3) := by decide +kernel
theorem dX0_newRow_27 : decode cX0_newRow 27 = .ok (.aload_n 0, 1) := by decide +kernel
theorem dX0_newRow_28 : decode cX0_newRow 28 = .ok (.getfield 15, 3) := by decide +kernel
theorem dX0_newRow_31 : decode cX0_newRow 31 = .ok (.new 9, 3) := by decide +kernel
theorem dX0_newRow_34 : decode cX0_newRow 34 = .ok (.dup, 1) := by decide +kernel
theorem dX0_newRow_35 : decode cX0_newRow 35 = .ok (.invokespecial 26, 3) := by decide +kernel
theorem dX0_newRow_38 : decode cX0_newRow 38 = .ok (.aastore, 1) := by decide +kernel
theorem dX0_newRow_39 : decode cX0_newRow 39 = .ok (.aload_n 0, 1) := by decide +kernel
theorem dX0_newRow_40 : decode cX0_newRow 40 = .ok (.dup, 1) := by decide +kernel
theorem dX0_newRow_41 : decode cX0_newRow 41 = .ok (.getfield 15, 3) := by decide +kernel
theorem dX0_newRow_44 : decode cX0_newRow 44 = .ok (.iconst 1, 1) := by decide +kernel
theorem dX0_newRow_45 : decode cX0_newRow 45 = .ok (.iadd, 1) := by decide +kernel
theorem dX0_newRow_46 : decode cX0_newRow 46 = .ok (.putfield 15, 3) := by decide +kernel
theorem dX0_newRow_49 : decode cX0_newRow 49 = .ok (.aload_n 0, 1) := by decide +kernel
theorem dX0_newRow_50 : decode cX0_newRow 50 = .ok (.getfield 11, 3) := by decide +kernel
theorem dX0_newRow_53 : decode cX0_newRow 53 = .ok (.aload_n 0, 1) := by decide +kernel
theorem dX0_newRow_54 : decode cX0_newRow 54 = .ok (.getfield 15, 3) := by decide +kernel
theorem dX0_newRow_57 : decode cX0_newRow 57 = .ok (.iconst 1, 1) := by decide +kernel
theorem dX0_newRow_58 : decode cX0_newRow 58 = .ok (.isub, 1) := by decide +kernel
theorem dX0_newRow_59 : decode cX0_newRow 59 = .ok (.aaload, 1) := by decide +kernel
theorem dX0_newRow_60 : decode cX0_newRow 60 = .ok (.areturn, 1) := by decide +kernel
theorem dX0_dropAtPointer_0 : decode cX0_dropAtPointer 0 = .ok (.aload_n 0, 1) := by decide +kernel
theorem dX0_dropAtPointer_1 : decode cX0_dropAtPointer 1 = .ok (.getfield 19, 3) := by decide +kernel
theorem dX0_dropAtPointer_4 : decode cX0_dropAtPointer 4 = .ok (.aload_n 0, 1) := by decide +kernel
theorem dX0_dropAtPointer_5 : decode cX0_dropAtPointer 5 = .ok (.getfield 15, 3) := by decide +kernel
theorem dX0_dropAtPointer_8 : decode cX0_dropAtPointer 8 = .ok (.if_icmp .ge 68, 3) := by decide +kernel
theorem dX0_dropAtPointer_11 : decode cX0_dropAtPointer 11 = .ok (.aload_n 0, 1) := by decide +kernel
theorem dX0_dropAtPointer_12 : decode cX0_dropAtPointer 12 = .ok (.getfield 11, 3) := by decide +kernel
theorem dX0_dropAtPointer_15 : decode cX0_dropAtPointer 15 = .ok (.aload_n 0, 1) := by decide +kernel
theorem dX0_dropAtPointer_16 : decode cX0_dropAtPointer 16 = .ok (.getfield 19, 3) := by decide +kernel
theorem dX0_dropAtPointer_19 : decode cX0_dropAtPointer 19 = .ok (.aaload, 1) := by decide +kernel
theorem dX0_dropAtPointer_20 : decode cX0_dropAtPointer 20 = .ok (.astore_n 1, 1) := by decide +kernel
theorem dX0_dropAtPointer_21 : decode cX0_dropAtPointer 21 = .ok (.aload_n 0, 1) := by decide +kernel
theorem dX0_dropAtPointer_22 : decode cX0_dropAtPointer 22 = .ok (.getfield 19, 3) := by decide +kernel
theorem dX0_dropAtPointer_25 : decode cX0_dropAtPointer 25 = .ok (.iconst 1, 1) := by decide +kernel
theorem dX0_dropAtPointer_26 : decode cX0_dropAtPointer 26 = .ok (.iadd, 1) := by decide +kernel
theorem dX0_dropAtPointer_27 : decode cX0_dropAtPointer 27 = .ok (.istore_n 2, 1) := by decide +kernel
theorem dX0_dropAtPointer_28 : decode cX0_dropAtPointer 28 = .ok (.iload_n 2, 1) := by decide +kernel
theorem dX0_dropAtPointer_29 : decode cX0_dropAtPointer 29 = .ok (.aload_n 0, 1) := by decide +kernel
theorem dX0_dropAtPointer_30 : decode cX0_dropAtPointer 30 = .ok (.getfield 15, 3) := by decide +kernel
theorem dX0_dropAtPointer_33 : decode cX0_dropAtPointer 33 = .ok (.if_icmp .ge 23, 3) := by decide +kernel
theorem dX0_dropAtPointer_36 : decode cX0_dropAtPointer 36 = .ok (.aload_n 0, 1) := by decide +kernel
theorem dX0_dropAtPointer_37 : decode cX0_dropAtPointer 37 = .ok (.getfield 11, 3) := by decide +kernel
theorem dX0_dropAtPointer_40 : decode cX0_dropAtPointer 40 = .ok (.iload_n 2, 1) := by decide +kernel
theorem dX0_dropAtPointer_41 : decode cX0_dropAtPointer 41 = .ok (.iconst 1, 1) := by decide +kernel
theorem dX0_dropAtPointer_42 : decode cX0_dropAtPointer 42 = .ok (.isub, 1) := by decide +kernel
theorem dX0_dropAtPointer_43 : decode cX0_dropAtPointer 43 = .ok (.aload_n 0, 1) := by decide +kernel
theorem dX0_dropAtPointer_44 : decode cX0_dropAtPointer 44 = .ok (.getfield 11, 3) := by decide +kernel
theorem dX0_dropAtPointer_47 : decode cX0_dropAtPointer 47 = .ok (.iload_n 2, 1) := by decide +kernel
theorem dX0_dropAtPointer_48 : decode cX0_dropAtPointer 48 = .ok (.aaload, 1) := by decide +kernel
theorem dX0_dropAtPointer_49 : decode cX0_dropAtPointer 49 = .ok (.aastore, 1) := by decide +kernel
theorem dX0_dropAtPointer_50 : decode cX0_dropAtPointer 50 = .ok (.iinc 2 1, 3) := by decide +kernel
theorem dX0_dropAtPointer_53 : decode cX0_dropAtPointer 53 = .ok (.goto (-25), 3) := by decide +kernel
theorem dX0_dropAtPointer_56 : decode cX0_dropAtPointer 56 = .ok (.aload_n 0, 1) := by decide +kernel
theorem dX0_dropAtPointer_57 : decode cX0_dropAtPointer 57 = .ok (.dup, 1) := by decide +kernel
theorem dX0_dropAtPointer_58 : decode cX0_dropAtPointer 58 = .ok (.getfield 15, 3) := by decide +kernel
theorem dX0_dropAtPointer_61 : decode cX0_dropAtPointer 61 = .ok (.iconst 1, 1) := by decide +kernel
theorem dX0_dropAtPointer_62 : decode cX0_dropAtPointer 62 = .ok (.isub, 1) := by decide +kernel
theorem dX0_dropAtPointer_63 : decode cX0_dropAtPointer 63 = .ok (.putfield 15, 3) := by decide +kernel
theorem dX0_dropAtPointer_66 : decode cX0_dropAtPointer 66 = .ok (.aload_n 0, 1) := by decide +kernel
theorem dX0_dropAtPointer_67 : decode cX0_dropAtPointer 67 = .ok (.getfield 11, 3) := by decide +kernel
theorem dX0_dropAtPointer_70 : decode cX0_dropAtPointer 70 = .ok (.aload_n 0, 1) := by decide +kernel
theorem dX0_dropAtPointer_71 : decode cX0_dropAtPointer 71 = .ok (.getfield 15, 3) := by decide +kernel
theorem dX0_dropAtPointer_74 : decode cX0_dropAtPointer 74 = .ok (.aload_n 1, 1) := by decide +kernel
theorem dX0_dropAtPointer_75 : decode cX0_dropAtPointer 75 = .ok (.aastore, 1) := by decide +kernel
theorem dX0_dropAtPointer_76 : decode cX0_dropAtPointer 76 = .ok (.aload_n 0, 1) := by decide +kernel
theorem dX0_dropAtPointer_77 : decode cX0_dropAtPointer 77 = .ok (.iconst 0, 1) := by decide +kernel
theorem dX0_dropAtPointer_78 : decode cX0_dropAtPointer 78 = .ok (.putfield 19, 3) := by decide +kernel
theorem dX0_dropAtPointer_81 : decode cX0_dropAtPointer 81 = .ok (.return_, 1) := by decide +kernel
theorem dX0_advance_0 : decode cX0_advance 0 = .ok (.aload_n 0, 1) := by decide +kernel
theorem dX0_advance_1 : decode cX0_advance 1 = .ok (.getfield 19, 3) := by decide +kernel
theorem dX0_advance_4 : decode cX0_advance 4 = .ok (.aload_n 0, 1) := by decide +kernel
theorem dX0_advance_5 : decode cX0_advance 5 = .ok (.getfield 15, 3) := by decide +kernel
theorem dX0_advance_8 : decode cX0_advance 8 = .ok (.if_icmp .ge 13, 3) := by decide +kernel
theorem dX0_advance_11 : decode cX0_advance 11 = .ok (.aload_n 0, 1) := by decide +kernel
theorem dX0_advance_12 : decode cX0_advance 12 = .ok (.dup, 1) := by decide +kernel
theorem dX0_advance_13 : decode cX0_advance 13 = .ok (.getfield 19, 3) := by decide +kernel
theorem dX0_advance_16 : decode cX0_advance 16 = .ok (.iconst 1, 1) := by decide +kernel
theorem dX0_advance_17 : decode cX0_advance 17 = .ok (.iadd, 1) := by decide +kernel
theorem dX0_advance_18 : decode cX0_advance 18 = .ok (.putfield 19, 3) := by decide +kernel
theorem dX0_advance_21 : decode cX0_advance 21 = .ok (.return_, 1) := by decide +kernel
theorem dX0_pointToFirst_0 : decode cX0_pointToFirst 0 = .ok (.aload_n 0, 1) := by decide +kernel
theorem dX0_pointToFirst_1 : decode cX0_pointToFirst 1 = .ok (.iconst 0, 1) := by decide +kernel
theorem dX0_pointToFirst_2 : decode cX0_pointToFirst 2 = .ok (.putfield 19, 3) := by decide +kernel
theorem dX0_pointToFirst_5 : decode cX0_pointToFirst 5 = .ok (.return_, 1) := by decide +kernel
theorem dX0_clear_0 : decode cX0_clear 0 = .ok (.aload_n 0, 1) := by decide +kernel
theorem dX0_clear_1 : decode cX0_clear 1 = .ok (.iconst 0, 1) := by decide +kernel
theorem dX0_clear_2 : decode cX0_clear 2 = .ok (.putfield 15, 3) := by decide +kernel
theorem dX0_clear_5 : decode cX0_clear 5 = .ok (.aload_n 0, 1) := by decide +kernel
theorem dX0_clear_6 : decode cX0_clear 6 = .ok (.iconst 0, 1) := by decide +kernel
theorem dX0_clear_7 : decode cX0_clear 7 = .ok (.putfield 19, 3) := by decide +kernel
theorem dX0_clear_10 : decode cX0_clear 10 = .ok (.return_, 1) := by decide +kernel
theorem dX1_init_0 : decode cX1_init 0 = .ok (.aload_n 0, 1) := by decide +kernel
theorem dX1_init_1 : decode cX1_init 1 = .ok (.invokespecial 3, 3) := by decide +kernel
theorem dX1_init_4 : decode cX1_init 4 = .ok (.aload_n 0, 1) := by decide +kernel
theorem dX1_init_5 : decode cX1_init 5 = .ok (.bipush 8, 2) := by decide +kernel
theorem dX1_init_7 : decode cX1_init 7 = .ok (.anewarray 9, 3) := by decide +kernel
theorem dX1_init_10 : decode cX1_init 10 = .ok (.putfield 11, 3) := by decide +kernel
theorem dX1_init_13 : decode cX1_init 13 = .ok (.aload_n 0, 1) := by decide +kernel
theorem dX1_init_14 : decode cX1_init 14 = .ok (.new 9, 3) := by decide +kernel
theorem dX1_init_17 : decode cX1_init 17 = .ok (.dup, 1) := by decide +kernel
theorem dX1_init_18 : decode cX1_init 18 = .ok (.invokespecial 17, 3) := by decide +kernel
theorem dX1_init_21 : decode cX1_init 21 = .ok (.putfield 18, 3) := by decide +kernel
theorem dX1_init_24 : decode cX1_init 24 = .ok (.aload_n 0, 1) := by decide +kernel
theorem dX1_init_25 : decode cX1_init 25 = .ok (.new 22, 3) := by decide +kernel
theorem dX1_init_28 : decode cX1_init 28 = .ok (.dup, 1) := by decide +kernel
theorem dX1_init_29 : decode cX1_init 29 = .ok (.invokespecial 24, 3) := by decide +kernel
theorem dX1_init_32 : decode cX1_init 32 = .ok (.putfield 25, 3) := by decide +kernel
theorem dX1_init_35 : decode cX1_init 35 = .ok (.aload_n 0, 1) := by decide +kernel
theorem dX1_init_36 : decode cX1_init 36 = .ok (.new 29, 3) := by decide +kernel
theorem dX1_init_39 : decode cX1_init 39 = .ok (.dup, 1) := by decide +kernel
theorem dX1_init_40 : decode cX1_init 40 = .ok (.invokespecial 31, 3) := by decide +kernel
theorem dX1_init_43 : decode cX1_init 43 = .ok (.putfield 32, 3) := by decide +kernel
theorem dX1_init_46 : decode cX1_init 46 = .ok (.aload_n 0, 1) := by decide +kernel
theorem dX1_init_47 : decode cX1_init 47 = .ok (.iconst 0, 1) := by decide +kernel
theorem dX1_init_48 : decode cX1_init 48 = .ok (.putfield 36, 3) := by decide +kernel
theorem dX1_init_51 : decode cX1_init 51 = .ok (.aload_n 0, 1) := by decide +kernel
theorem dX1_init_52 : decode cX1_init 52 = .ok (.iconst 0, 1) := by decide +kernel
theorem dX1_init_53 : decode cX1_init 53 = .ok (.putfield 40, 3) := by decide +kernel
theorem dX1_init_56 : decode cX1_init 56 = .ok (.aload_n 0, 1) := by decide +kernel
theorem dX1_init_57 : decode cX1_init 57 = .ok (.iconst 0, 1) := by decide +kernel
theorem dX1_init_58 : decode cX1_init 58 = .ok (.putfield 43, 3) := by decide +kernel
theorem dX1_init_61 : decode cX1_init 61 = .ok (.aload_n 0, 1) := by decide +kernel
theorem dX1_init_62 : decode cX1_init 62 = .ok (.iconst 0, 1) := by decide +kernel
theorem dX1_init_63 : decode cX1_init 63 = .ok (.putfield 46, 3) := by decide +kernel
theorem dX1_init_66 : decode cX1_init 66 = .ok (.aload_n 0, 1) := by decide +kernel
theorem dX1_init_67 : decode cX1_init 67 = .ok (.ldc2_w 49, 3) := by decide +kernel
theorem dX1_init_70 : decode cX1_init 70 = .ok (.putfield 51, 3) := by decide +kernel
theorem dX1_init_73 : decode cX1_init 73 = .ok (.aload_n 0, 1) := by decide +kernel
theorem dX1_init_74 : decode cX1_init 74 = .ok (.iconst 0, 1) := by decide +kernel
theorem dX1_init_75 : decode cX1_init 75 = .ok (.putfield 55, 3) := by decide +kernel
theorem dX1_init_78 : decode cX1_init 78 = .ok (.aload_n 0, 1) := by decide +kernel
theorem dX1_init_79 : decode cX1_init 79 = .ok (.iconst (-1), 1) := by decide +kernel
theorem dX1_init_80 : decode cX1_init 80 = .ok (.putfield 58, 3) := by decide +kernel
theorem dX1_init_83 : decode cX1_init 83 = .ok (.aload_n 0, 1) := by decide +kernel
theorem dX1_init_84 : decode cX1_init 84 = .ok (.iconst 0, 1) := by decide +kernel
theorem dX1_init_85 : decode cX1_init 85 = .ok (.putfield 61, 3) := by decide +kernel
theorem dX1_init_88 : decode cX1_init 88 = .ok (.aload_n 0, 1) := by decide +kernel
theorem dX1_init_89 : decode cX1_init 89 = .ok (.lconst 0, 1) := by decide +kernel
theorem dX1_init_90 : decode cX1_init 90 = .ok (.putfield 65, 3) := by decide +kernel
theorem dX1_init_93 : decode cX1_init 93 = .ok (.aload_n 0, 1) := by decide +kernel
theorem dX1_init_94 : decode cX1_init 94 = .ok (.iconst 0, 1) := by decide +kernel
theorem dX1_init_95 : decode cX1_init 95 = .ok (.putfield 68, 3) := by decide +kernel
theorem dX1_init_98 : decode cX1_init 98 = .ok (.aload_n 0, 1) := by decide +kernel
theorem dX1_init_99 : decode cX1_init 99 = .ok (.iload_n 1, 1) := by decide +kernel
theorem dX1_init_100 : decode cX1_init 100 = .ok (.putfield 71, 3) := by decide +kernel
theorem dX1_init_103 : decode cX1_init 103 = .ok (.aload_n 0, 1) := by decide +kernel
theorem dX1_init_104 : decode cX1_init 104 = .ok (.iload_n 2, 1) := by decide +kernel
theorem dX1_init_105 : decode cX1_init 105 = .ok (.putfield 74, 3) := by decide +kernel
theorem dX1_init_108 : decode cX1_init 108 = .ok (.iconst 0, 1) := by decide +kernel
theorem dX1_init_109 : decode cX1_init 109 = .ok (.istore_n 3, 1) := by decide +kernel
theorem dX1_init_110 : decode cX1_init 110 = .ok (.iload_n 3, 1) := by decide +kernel
theorem dX1_init_111 : decode cX1_init 111 = .ok (.bipush 8, 2) := by decide +kernel
theorem dX1_init_113 : decode cX1_init 113 = .ok (.if_icmp .ge 22, 3) := by decide +kernel
theorem dX1_init_116 : decode cX1_init 116 = .ok (.aload_n 0, 1) := by decide +kernel
theorem dX1_init_117 : decode cX1_init 117 = .ok (.getfield 11, 3) := by decide +kernel
theorem dX1_init_120 : decode cX1_init 120 = .ok (.iload_n 3, 1) := by decide +kernel
theorem dX1_init_121 : decode cX1_init 121 = .ok (.new 9, 3) := by decide +kernel
theorem dX1_init_124 : decode cX1_init 124 = .ok (.dup, 1) := by decide +kernel
theorem dX1_init_125 : decode cX1_init 125 = .ok (.invokespecial 17, 3) := by decide +kernel
theorem dX1_init_128 : decode cX1_init 128 = .ok (.aastore, 1) := by decide +kernel
theorem dX1_init_129 : decode cX1_init 129 = .ok (.iinc 3 1, 3) := by decide +kernel
theorem dX1_init_132 : decode cX1_init 132 = .ok (.goto (-22), 3) := by decide +kernel
theorem dX1_init_135 : decode cX1_init 135 = .ok (.return_, 1) := by decide +kernel
theorem dX1_x_0 : decode cX1_x 0 = .ok (.aload_n 0, 1) := by decide +kernel
theorem dX1_x_1 : decode cX1_x 1 = .ok (.getfield 11, 3) := by decide +kernel
theorem dX1_x_4 : decode cX1_x 4 = .ok (.iload_n 1, 1) := by decide +kernel
theorem dX1_x_5 : decode cX1_x 5 = .ok (.bipush 8, 2) := by decide +kernel
theorem dX1_x_7 : decode cX1_x 7 = .ok (.invokestatic 77, 3) := by decide +kernel
theorem dX1_x_10 : decode cX1_x 10 = .ok (.aaload, 1) := by decide +kernel
theorem dX1_x_11 : decode cX1_x 11 = .ok (.areturn, 1) := by decide +kernel
theorem dX1_beginToWait_0 : decode cX1_beginToWait 0 = .ok (.aload_n 0, 1) := by decide +kernel
theorem dX1_beginToWait_1 : decode cX1_beginToWait 1 = .ok (.iconst 1, 1) := by decide +kernel
theorem dX1_beginToWait_2 : decode cX1_beginToWait 2 = .ok (.putfield 36, 3) := by decide +kernel
theorem dX1_beginToWait_5 : decode cX1_beginToWait 5 = .ok (.aload_n 0, 1) := by decide +kernel
theorem dX1_beginToWait_6 : decode cX1_beginToWait 6 = .ok (.iload_n 1, 1) := by decide +kernel
theorem dX1_beginToWait_7 : decode cX1_beginToWait 7 = .ok (.putfield 43, 3) := by decide +kernel
theorem dX1_beginToWait_10 : decode cX1_beginToWait 10 = .ok (.aload_n 0, 1) := by decide +kernel
theorem dX1_beginToWait_11 : decode cX1_beginToWait 11 = .ok (.iload_n 2, 1) := by decide +kernel
theorem dX1_beginToWait_12 : decode cX1_beginToWait 12 = .ok (.putfield 46, 3) := by decide +kernel
theorem dX1_beginToWait_15 : decode cX1_beginToWait 15 = .ok (.aload_n 0, 1) := by decide +kernel
theorem dX1_beginToWait_16 : decode cX1_beginToWait 16 = .ok (.lload_n 3, 1) := by decide +kernel
theorem dX1_beginToWait_17 : decode cX1_beginToWait 17 = .ok (.putfield 51, 3) := by decide +kernel
theorem dX1_beginToWait_20 : decode cX1_beginToWait 20 = .ok (.return_, 1) := by decide +kernel
theorem dX1_comesBefore_0 : decode cX1_comesBefore 0 = .ok (.aload_n 0, 1) := by decide +kernel
theorem dX1_comesBefore_1 : decode cX1_comesBefore 1 = .ok (.getfield 74, 3) := by decide +kernel
theorem dX1_comesBefore_4 : decode cX1_comesBefore 4 = .ok (.aload_n 1, 1) := by decide +kernel
theorem dX1_comesBefore_5 : decode cX1_comesBefore 5 = .ok (.getfield 74, 3) := by decide +kernel
theorem dX1_comesBefore_8 : decode cX1_comesBefore 8 = .ok (.if_icmp .eq 29, 3) := by decide +kernel
theorem dX1_comesBefore_11 : decode cX1_comesBefore 11 = .ok (.iload_n 2, 1) := by decide +kernel
theorem dX1_comesBefore_12 : decode cX1_comesBefore 12 = .ok (.aload_n 0, 1) := by decide +kernel
theorem dX1_comesBefore_13 : decode cX1_comesBefore 13 = .ok (.getfield 74, 3) := by decide +kernel
theorem dX1_comesBefore_16 : decode cX1_comesBefore 16 = .ok (.aload_n 1, 1) := by decide +kernel
theorem dX1_comesBefore_17 : decode cX1_comesBefore 17 = .ok (.getfield 74, 3) := by decide +kernel
theorem dX1_comesBefore_20 : decode cX1_comesBefore 20 = .ok (.if_icmp .le 7, 3) := by decide +kernel
theorem dX1_comesBefore_23 : decode cX1_comesBefore 23 = .ok (.iconst 1, 1) := by decide +kernel
theorem dX1_comesBefore_24 : decode cX1_comesBefore 24 = .ok (.goto 4, 3) := by decide +kernel
theorem dX1_comesBefore_27 : decode cX1_comesBefore 27 = .ok (.iconst 0, 1) := by decide +kernel
theorem dX1_comesBefore_28 : decode cX1_comesBefore 28 = .ok (.if_icmp .ne 7, 3) := by decide +kernel
theorem dX1_comesBefore_31 : decode cX1_comesBefore 31 = .ok (.iconst 1, 1) := by decide +kernel
theorem dX1_comesBefore_32 : decode cX1_comesBefore 32 = .ok (.goto 4, 3) := by decide +kernel
theorem dX1_comesBefore_35 : decode cX1_comesBefore 35 = .ok (.iconst 0, 1) := by decide +kernel
theorem dX1_comesBefore_36 : decode cX1_comesBefore 36 = .ok (.ireturn, 1) := by decide +kernel
theorem dX1_comesBefore_37 : decode cX1_comesBefore 37 = .ok (.aload_n 0, 1) := by decide +kernel
theorem dX1_comesBefore_38 : decode cX1_comesBefore 38 = .ok (.getfield 55, 3) := by decide +kernel
theorem dX1_comesBefore_41 : decode cX1_comesBefore 41 = .ok (.aload_n 1, 1) := by decide +kernel
theorem dX1_comesBefore_42 : decode cX1_comesBefore 42 = .ok (.getfield 55, 3) := by decide +kernel
theorem dX1_comesBefore_45 : decode cX1_comesBefore 45 = .ok (.if_icmp .ge 7, 3) := by decide +kernel
theorem dX1_comesBefore_48 : decode cX1_comesBefore 48 = .ok (.iconst 1, 1) := by decide +kernel
theorem dX1_comesBefore_49 : decode cX1_comesBefore 49 = .ok (.goto 4, 3) := by decide +kernel
theorem dX1_comesBefore_52 : decode cX1_comesBefore 52 = .ok (.iconst 0, 1) := by decide +kernel
theorem dX1_comesBefore_53 : decode cX1_comesBefore 53 = .ok (.ireturn, 1) := by decide +kernel
theorem dX1_isLinkedWith_0 : decode cX1_isLinkedWith 0 = .ok (.aload_n 0, 1) := by decide +kernel
theorem dX1_isLinkedWith_1 : decode cX1_isLinkedWith 1 = .ok (.getfield 65, 3) := by decide +kernel
theorem dX1_isLinkedWith_4 : decode cX1_isLinkedWith 4 = .ok (.lconst 1, 1) := by decide +kernel
theorem dX1_isLinkedWith_5 : decode cX1_isLinkedWith 5 = .ok (.aload_n 1, 1) := by decide +kernel
theorem dX1_isLinkedWith_6 : decode cX1_isLinkedWith 6 = .ok (.getfield 71, 3) := by decide +kernel
theorem dX1_isLinkedWith_9 : decode cX1_isLinkedWith 9 = .ok (.lshl, 1) := by decide +kernel
theorem dX1_isLinkedWith_10 : decode cX1_isLinkedWith 10 = .ok (.land, 1) := by decide +kernel
theorem dX1_isLinkedWith_11 : decode cX1_isLinkedWith 11 = .ok (.lconst 0, 1) := by decide +kernel
theorem dX1_isLinkedWith_12 : decode cX1_isLinkedWith 12 = .ok (.lcmp, 1) := by decide +kernel
theorem dX1_isLinkedWith_13 : decode cX1_isLinkedWith 13 = .ok (.ifCond .eq 7, 3) := by decide +kernel
theorem dX1_isLinkedWith_16 : decode cX1_isLinkedWith 16 = .ok (.iconst 1, 1) := by decide +kernel
theorem dX1_isLinkedWith_17 : decode cX1_isLinkedWith 17 = .ok (.goto 4, 3) := by decide +kernel
theorem dX1_isLinkedWith_20 : decode cX1_isLinkedWith 20 = .ok (.iconst 0, 1) := by decide +kernel
theorem dX1_isLinkedWith_21 : decode cX1_isLinkedWith 21 = .ok (.ireturn, 1) := by decide +kernel
theorem dX1_linkWith_0 : decode cX1_linkWith 0 = .ok (.aload_n 0, 1) := by decide +kernel
theorem dX1_linkWith_1 : decode cX1_linkWith 1 = .ok (.dup, 1) := by decide +kernel
theorem dX1_linkWith_2 : decode cX1_linkWith 2 = .ok (.getfield 65, 3) := by decide +kernel
theorem dX1_linkWith_5 : decode cX1_linkWith 5 = .ok (.lconst 1, 1) := by decide +kernel
theorem dX1_linkWith_6 : decode cX1_linkWith 6 = .ok (.aload_n 1, 1) := by decide +kernel
theorem dX1_linkWith_7 : decode cX1_linkWith 7 = .ok (.getfield 71, 3) := by decide +kernel
theorem dX1_linkWith_10 : decode cX1_linkWith 10 = .ok (.lshl, 1) := by decide +kernel
theorem dX1_linkWith_11 : decode cX1_linkWith 11 = .ok (.lor, 1) := by decide +kernel
theorem dX1_linkWith_12 : decode cX1_linkWith 12 = .ok (.putfield 65, 3) := by decide +kernel
theorem dX1_linkWith_15 : decode cX1_linkWith 15 = .ok (.aload_n 1, 1) := by decide +kernel
theorem dX1_linkWith_16 : decode cX1_linkWith 16 = .ok (.dup, 1) := by decide +kernel
theorem dX1_linkWith_17 : decode cX1_linkWith 17 = .ok (.getfield 65, 3) := by decide +kernel
theorem dX1_linkWith_20 : decode cX1_linkWith 20 = .ok (.lconst 1, 1) := by decide +kernel
theorem dX1_linkWith_21 : decode cX1_linkWith 21 = .ok (.aload_n 0, 1) := by decide +kernel
theorem dX1_linkWith_22 : decode cX1_linkWith 22 = .ok (.getfield 71, 3) := by decide +kernel
theorem dX1_linkWith_25 : decode cX1_linkWith 25 = .ok (.lshl, 1) := by decide +kernel
theorem dX1_linkWith_26 : decode cX1_linkWith 26 = .ok (.lor, 1) := by decide +kernel
theorem dX1_linkWith_27 : decode cX1_linkWith 27 = .ok (.putfield 65, 3) := by decide +kernel
theorem dX1_linkWith_30 : decode cX1_linkWith 30 = .ok (.return_, 1) := by decide +kernel
theorem dX1_unlinkFrom_0 : decode cX1_unlinkFrom 0 = .ok (.aload_n 0, 1) := by decide +kernel
theorem dX1_unlinkFrom_1 : decode cX1_unlinkFrom 1 = .ok (.dup, 1) := by decide +kernel
theorem dX1_unlinkFrom_2 : decode cX1_unlinkFrom 2 = .ok (.getfield 65, 3) := by decide +kernel
theorem dX1_unlinkFrom_5 : decode cX1_unlinkFrom 5 = .ok (.lconst 1, 1) := by decide +kernel
theorem dX1_unlinkFrom_6 : decode cX1_unlinkFrom 6 = .ok (.aload_n 1, 1) := by decide +kernel
theorem dX1_unlinkFrom_7 : decode cX1_unlinkFrom 7 = .ok (.getfield 71, 3) := by decide +kernel
theorem dX1_unlinkFrom_10 : decode cX1_unlinkFrom 10 = .ok (.lshl, 1) := by decide +kernel
theorem dX1_unlinkFrom_11 : decode cX1_unlinkFrom 11 = .ok (.ldc2_w 83, 3) := by decide +kernel
theorem dX1_unlinkFrom_14 : decode cX1_unlinkFrom 14 = .ok (.lxor, 1) := by decide +kernel
theorem dX1_unlinkFrom_15 : decode cX1_unlinkFrom 15 = .ok (.land, 1) := by decide +kernel
theorem dX1_unlinkFrom_16 : decode cX1_unlinkFrom 16 = .ok (.putfield 65, 3) := by decide +kernel
theorem dX1_unlinkFrom_19 : decode cX1_unlinkFrom 19 = .ok (.aload_n 1, 1) := by decide +kernel
theorem dX1_unlinkFrom_20 : decode cX1_unlinkFrom 20 = .ok (.dup, 1) := by decide +kernel
theorem dX1_unlinkFrom_21 : decode cX1_unlinkFrom 21 = .ok (.getfield 65, 3) := by decide +kernel
theorem dX1_unlinkFrom_24 : decode cX1_unlinkFrom 24 = .ok (.lconst 1, 1) := by decide +kernel
theorem dX1_unlinkFrom_25 : decode cX1_unlinkFrom 25 = .ok (.aload_n 0, 1) := by decide +kernel
theorem dX1_unlinkFrom_26 : decode cX1_unlinkFrom 26 = .ok (.getfield 71, 3) := by decide +kernel
theorem dX1_unlinkFrom_29 : decode cX1_unlinkFrom 29 = .ok (.lshl, 1) := by decide +kernel
theorem dX1_unlinkFrom_30 : decode cX1_unlinkFrom 30 = .ok (.ldc2_w 83, 3) := by decide +kernel
theorem dX1_unlinkFrom_33 : decode cX1_unlinkFrom 33 = .ok (.lxor, 1) := by decide +kernel
theorem dX1_unlinkFrom_34 : decode cX1_unlinkFrom 34 = .ok (.land, 1) := by decide +kernel
theorem dX1_unlinkFrom_35 : decode cX1_unlinkFrom 35 = .ok (.putfield 65, 3) := by decide +kernel
theorem dX1_unlinkFrom_38 : decode cX1_unlinkFrom 38 = .ok (.return_, 1) := by decide +kernel
theorem dX1_fact_0 : decode cX1_fact 0 = .ok (.iload_n 1, 1) := by decide +kernel
theorem dX1_fact_1 : decode cX1_fact 1 = .ok (.tableswitch 128 0 9 #[55, 60, 65, 70, 75, 88, 96, 104, 112, 120], 55) := by decide +kernel
theorem dX1_fact_56 : decode cX1_fact 56 = .ok (.aload_n 0, 1) := by decide +kernel
theorem dX1_fact_57 : decode cX1_fact 57 = .ok (.getfield 36, 3) := by decide +kernel
theorem dX1_fact_60 : decode cX1_fact 60 = .ok (.ireturn, 1) := by decide +kernel
theorem dX1_fact_61 : decode cX1_fact 61 = .ok (.aload_n 0, 1) := by decide +kernel
theorem dX1_fact_62 : decode cX1_fact 62 = .ok (.getfield 40, 3) := by decide +kernel
theorem dX1_fact_65 : decode cX1_fact 65 = .ok (.ireturn, 1) := by decide +kernel
theorem dX1_fact_66 : decode cX1_fact 66 = .ok (.aload_n 0, 1) := by decide +kernel
theorem dX1_fact_67 : decode cX1_fact 67 = .ok (.getfield 74, 3) := by decide +kernel
theorem dX1_fact_70 : decode cX1_fact 70 = .ok (.ireturn, 1) := by decide +kernel
theorem dX1_fact_71 : decode cX1_fact 71 = .ok (.aload_n 0, 1) := by decide +kernel
theorem dX1_fact_72 : decode cX1_fact 72 = .ok (.getfield 58, 3) := by decide +kernel
theorem dX1_fact_75 : decode cX1_fact 75 = .ok (.ireturn, 1) := by decide +kernel
theorem dX1_fact_76 : decode cX1_fact 76 = .ok (.aload_n 0, 1) := by decide +kernel
theorem dX1_fact_77 : decode cX1_fact 77 = .ok (.getfield 61, 3) := by decide +kernel
theorem dX1_fact_80 : decode cX1_fact 80 = .ok (.ifCond .eq 7, 3) := by decide +kernel
theorem dX1_fact_83 : decode cX1_fact 83 = .ok (.iconst 1, 1) := by decide +kernel
theorem dX1_fact_84 : decode cX1_fact 84 = .ok (.goto 4, 3) := by decide +kernel
theorem dX1_fact_87 : decode cX1_fact 87 = .ok (.iconst 0, 1) := by decide +kernel
theorem dX1_fact_88 : decode cX1_fact 88 = .ok (.ireturn, 1) := by decide +kernel
theorem dX1_fact_89 : decode cX1_fact 89 = .ok (.aload_n 0, 1) := by decide +kernel
theorem dX1_fact_90 : decode cX1_fact 90 = .ok (.getfield 25, 3) := by decide +kernel
theorem dX1_fact_93 : decode cX1_fact 93 = .ok (.getfield 85, 3) := by decide +kernel
theorem dX1_fact_96 : decode cX1_fact 96 = .ok (.ireturn, 1) := by decide +kernel
theorem dX1_fact_97 : decode cX1_fact 97 = .ok (.aload_n 0, 1) := by decide +kernel
theorem dX1_fact_98 : decode cX1_fact 98 = .ok (.getfield 25, 3) := by decide +kernel
theorem dX1_fact_101 : decode cX1_fact 101 = .ok (.getfield 88, 3) := by decide +kernel
theorem dX1_fact_104 : decode cX1_fact 104 = .ok (.ireturn, 1) := by decide +kernel
theorem dX1_fact_105 : decode cX1_fact 105 = .ok (.aload_n 0, 1) := by decide +kernel
theorem dX1_fact_106 : decode cX1_fact 106 = .ok (.getfield 65, 3) := by decide +kernel
theorem dX1_fact_109 : decode cX1_fact 109 = .ok (.invokestatic 91, 3) := by decide +kernel
theorem dX1_fact_112 : decode cX1_fact 112 = .ok (.ireturn, 1) := by decide +kernel
theorem dX1_fact_113 : decode cX1_fact 113 = .ok (.aload_n 0, 1) := by decide +kernel
theorem dX1_fact_114 : decode cX1_fact 114 = .ok (.getfield 32, 3) := by decide +kernel
theorem dX1_fact_117 : decode cX1_fact 117 = .ok (.getfield 97, 3) := by decide +kernel
theorem dX1_fact_120 : decode cX1_fact 120 = .ok (.ireturn, 1) := by decide +kernel
theorem dX1_fact_121 : decode cX1_fact 121 = .ok (.aload_n 0, 1) := by decide +kernel
theorem dX1_fact_122 : decode cX1_fact 122 = .ok (.getfield 32, 3) := by decide +kernel
theorem dX1_fact_125 : decode cX1_fact 125 = .ok (.getfield 100, 3) := by decide +kernel
theorem dX1_fact_128 : decode cX1_fact 128 = .ok (.ireturn, 1) := by decide +kernel
theorem dX1_fact_129 : decode cX1_fact 129 = .ok (.aload_n 0, 1) := by decide +kernel
theorem dX1_fact_130 : decode cX1_fact 130 = .ok (.getfield 68, 3) := by decide +kernel
theorem dX1_fact_133 : decode cX1_fact 133 = .ok (.ireturn, 1) := by decide +kernel
theorem dX2_init_0 : decode cX2_init 0 = .ok (.aload_n 0, 1) := by decide +kernel
theorem dX2_init_1 : decode cX2_init 1 = .ok (.invokespecial 3, 3) := by decide +kernel
theorem dX2_init_4 : decode cX2_init 4 = .ok (.aload_n 0, 1) := by decide +kernel
theorem dX2_init_5 : decode cX2_init 5 = .ok (.sipush 600, 3) := by decide +kernel
theorem dX2_init_8 : decode cX2_init 8 = .ok (.newarray .int, 2) := by decide +kernel
theorem dX2_init_10 : decode cX2_init 10 = .ok (.putfield 11, 3) := by decide +kernel
theorem dX2_init_13 : decode cX2_init 13 = .ok (.aload_n 0, 1) := by decide +kernel
theorem dX2_init_14 : decode cX2_init 14 = .ok (.iconst 0, 1) := by decide +kernel
theorem dX2_init_15 : decode cX2_init 15 = .ok (.putfield 15, 3) := by decide +kernel
theorem dX2_init_18 : decode cX2_init 18 = .ok (.return_, 1) := by decide +kernel
theorem dX2_print_0 : decode cX2_print 0 = .ok (.iconst 0, 1) := by decide +kernel
theorem dX2_print_1 : decode cX2_print 1 = .ok (.istore_n 2, 1) := by decide +kernel
theorem dX2_print_2 : decode cX2_print 2 = .ok (.iload_n 2, 1) := by decide +kernel
theorem dX2_print_3 : decode cX2_print 3 = .ok (.aload_n 1, 1) := by decide +kernel
theorem dX2_print_4 : decode cX2_print 4 = .ok (.getfield 19, 3) := by decide +kernel
theorem dX2_print_7 : decode cX2_print 7 = .ok (.if_icmp .ge 44, 3) := by decide +kernel
theorem dX2_print_10 : decode cX2_print 10 = .ok (.aload_n 0, 1) := by decide +kernel
theorem dX2_print_11 : decode cX2_print 11 = .ok (.getfield 15, 3) := by decide +kernel
theorem dX2_print_14 : decode cX2_print 14 = .ok (.sipush 600, 3) := by decide +kernel
theorem dX2_print_17 : decode cX2_print 17 = .ok (.if_icmp .ge 18, 3) := by decide +kernel
theorem dX2_print_20 : decode cX2_print 20 = .ok (.aload_n 0, 1) := by decide +kernel
theorem dX2_print_21 : decode cX2_print 21 = .ok (.getfield 11, 3) := by decide +kernel
theorem dX2_print_24 : decode cX2_print 24 = .ok (.aload_n 0, 1) := by decide +kernel
theorem dX2_print_25 : decode cX2_print 25 = .ok (.getfield 15, 3) := by decide +kernel
theorem dX2_print_28 : decode cX2_print 28 = .ok (.aload_n 1, 1) := by decide +kernel
theorem dX2_print_29 : decode cX2_print 29 = .ok (.getfield 24, 3) := by decide +kernel
theorem dX2_print_32 : decode cX2_print 32 = .ok (.iload_n 2, 1) := by decide +kernel
theorem dX2_print_33 : decode cX2_print 33 = .ok (.iaload, 1) := by decide +kernel
theorem dX2_print_34 : decode cX2_print 34 = .ok (.iastore, 1) := by decide +kernel
theorem dX2_print_35 : decode cX2_print 35 = .ok (.aload_n 0, 1) := by decide +kernel
theorem dX2_print_36 : decode cX2_print 36 = .ok (.dup, 1) := by decide +kernel
theorem dX2_print_37 : decode cX2_print 37 = .ok (.getfield 15, 3) := by decide +kernel
theorem dX2_print_40 : decode cX2_print 40 = .ok (.iconst 1, 1) := by decide +kernel
theorem dX2_print_41 : decode cX2_print 41 = .ok (.iadd, 1) := by decide +kernel
theorem dX2_print_42 : decode cX2_print 42 = .ok (.putfield 15, 3) := by decide +kernel
theorem dX2_print_45 : decode cX2_print 45 = .ok (.iinc 2 1, 3) := by decide +kernel
theorem dX2_print_48 : decode cX2_print 48 = .ok (.goto (-46), 3) := by decide +kernel
theorem dX2_print_51 : decode cX2_print 51 = .ok (.return_, 1) := by decide +kernel
theorem dX2_numberAt_0 : decode cX2_numberAt 0 = .ok (.iload_n 1, 1) := by decide +kernel
theorem dX2_numberAt_1 : decode cX2_numberAt 1 = .ok (.ifCond .lt 26, 3) := by decide +kernel
theorem dX2_numberAt_4 : decode cX2_numberAt 4 = .ok (.iload_n 1, 1) := by decide +kernel
theorem dX2_numberAt_5 : decode cX2_numberAt 5 = .ok (.aload_n 0, 1) := by decide +kernel
theorem dX2_numberAt_6 : decode cX2_numberAt 6 = .ok (.getfield 15, 3) := by decide +kernel
theorem dX2_numberAt_9 : decode cX2_numberAt 9 = .ok (.sipush 600, 3) := by decide +kernel
theorem dX2_numberAt_12 : decode cX2_numberAt 12 = .ok (.invokestatic 27, 3) := by decide +kernel
theorem dX2_numberAt_15 : decode cX2_numberAt 15 = .ok (.if_icmp .ge 12, 3) := by decide +kernel
theorem dX2_numberAt_18 : decode cX2_numberAt 18 = .ok (.aload_n 0, 1) := by decide +kernel
theorem dX2_numberAt_19 : decode cX2_numberAt 19 = .ok (.getfield 11, 3) := by decide +kernel
theorem dX2_numberAt_22 : decode cX2_numberAt 22 = .ok (.iload_n 1, 1) := by decide +kernel
theorem dX2_numberAt_23 : decode cX2_numberAt 23 = .ok (.iaload, 1) := by decide +kernel
theorem dX2_numberAt_24 : decode cX2_numberAt 24 = .ok (.goto 4, 3) := by decide +kernel
theorem dX2_numberAt_27 : decode cX2_numberAt 27 = .ok (.iconst (-1), 1) := by decide +kernel
theorem dX2_numberAt_28 : decode cX2_numberAt 28 = .ok (.ireturn, 1) := by decide +kernel
theorem dX3_init_0 : decode cX3_init 0 = .ok (.aload_n 0, 1) := by decide +kernel
theorem dX3_init_1 : decode cX3_init 1 = .ok (.invokespecial 3, 3) := by decide +kernel
theorem dX3_init_4 : decode cX3_init 4 = .ok (.aload_n 0, 1) := by decide +kernel
theorem dX3_init_5 : decode cX3_init 5 = .ok (.bipush 95, 2) := by decide +kernel
theorem dX3_init_7 : decode cX3_init 7 = .ok (.newarray .int, 2) := by decide +kernel
theorem dX3_init_9 : decode cX3_init 9 = .ok (.putfield 11, 3) := by decide +kernel
theorem dX3_init_12 : decode cX3_init 12 = .ok (.aload_n 0, 1) := by decide +kernel
theorem dX3_init_13 : decode cX3_init 13 = .ok (.iconst 2, 1) := by decide +kernel
theorem dX3_init_14 : decode cX3_init 14 = .ok (.putfield 15, 3) := by decide +kernel
theorem dX3_init_17 : decode cX3_init 17 = .ok (.return_, 1) := by decide +kernel
theorem dX3_kind_0 : decode cX3_kind 0 = .ok (.aload_n 0, 1) := by decide +kernel
theorem dX3_kind_1 : decode cX3_kind 1 = .ok (.getfield 11, 3) := by decide +kernel
theorem dX3_kind_4 : decode cX3_kind 4 = .ok (.iconst 0, 1) := by decide +kernel
theorem dX3_kind_5 : decode cX3_kind 5 = .ok (.iaload, 1) := by decide +kernel
theorem dX3_kind_6 : decode cX3_kind 6 = .ok (.invokestatic 19, 3) := by decide +kernel
theorem dX3_kind_9 : decode cX3_kind 9 = .ok (.ireturn, 1) := by decide +kernel
theorem dX3_kindOf_0 : decode cX3_kindOf 0 = .ok (.iload_n 0, 1) := by decide +kernel
theorem dX3_kindOf_1 : decode cX3_kindOf 1 = .ok (.iconst (-1), 1) := by decide +kernel
theorem dX3_kindOf_2 : decode cX3_kindOf 2 = .ok (.if_icmp .ne 7, 3) := by decide +kernel
theorem dX3_kindOf_5 : decode cX3_kindOf 5 = .ok (.iconst 3, 1) := by decide +kernel
theorem dX3_kindOf_6 : decode cX3_kindOf 6 = .ok (.goto 4, 3) := by decide +kernel
theorem dX3_kindOf_9 : decode cX3_kindOf 9 = .ok (.iload_n 0, 1) := by decide +kernel
theorem dX3_kindOf_10 : decode cX3_kindOf 10 = .ok (.ireturn, 1) := by decide +kernel
theorem dX3_value_0 : decode cX3_value 0 = .ok (.aload_n 0, 1) := by decide +kernel
theorem dX3_value_1 : decode cX3_value 1 = .ok (.getfield 11, 3) := by decide +kernel
theorem dX3_value_4 : decode cX3_value 4 = .ok (.iconst 1, 1) := by decide +kernel
theorem dX3_value_5 : decode cX3_value 5 = .ok (.iaload, 1) := by decide +kernel
theorem dX3_value_6 : decode cX3_value 6 = .ok (.ireturn, 1) := by decide +kernel
theorem dX3_isAtom_0 : decode cX3_isAtom 0 = .ok (.aload_n 0, 1) := by decide +kernel
theorem dX3_isAtom_1 : decode cX3_isAtom 1 = .ok (.getfield 11, 3) := by decide +kernel
theorem dX3_isAtom_4 : decode cX3_isAtom 4 = .ok (.iconst 0, 1) := by decide +kernel
theorem dX3_isAtom_5 : decode cX3_isAtom 5 = .ok (.iaload, 1) := by decide +kernel
theorem dX3_isAtom_6 : decode cX3_isAtom 6 = .ok (.iconst 1, 1) := by decide +kernel
theorem dX3_isAtom_7 : decode cX3_isAtom 7 = .ok (.if_icmp .ne 17, 3) := by decide +kernel
theorem dX3_isAtom_10 : decode cX3_isAtom 10 = .ok (.aload_n 0, 1) := by decide +kernel
theorem dX3_isAtom_11 : decode cX3_isAtom 11 = .ok (.getfield 11, 3) := by decide +kernel
theorem dX3_isAtom_14 : decode cX3_isAtom 14 = .ok (.iconst 1, 1) := by decide +kernel
theorem dX3_isAtom_15 : decode cX3_isAtom 15 = .ok (.iaload, 1) := by decide +kernel
theorem dX3_isAtom_16 : decode cX3_isAtom 16 = .ok (.iload_n 1, 1) := by decide +kernel
theorem dX3_isAtom_17 : decode cX3_isAtom 17 = .ok (.if_icmp .ne 7, 3) := by decide +kernel
theorem dX3_isAtom_20 : decode cX3_isAtom 20 = .ok (.iconst 1, 1) := by decide +kernel
theorem dX3_isAtom_21 : decode cX3_isAtom 21 = .ok (.goto 4, 3) := by decide +kernel
theorem dX3_isAtom_24 : decode cX3_isAtom 24 = .ok (.iconst 0, 1) := by decide +kernel
theorem dX3_isAtom_25 : decode cX3_isAtom 25 = .ok (.ireturn, 1) := by decide +kernel
theorem dX3_numberAt_0 : decode cX3_numberAt 0 = .ok (.iload_n 1, 1) := by decide +kernel
theorem dX3_numberAt_1 : decode cX3_numberAt 1 = .ok (.ifCond .lt 20, 3) := by decide +kernel
theorem dX3_numberAt_4 : decode cX3_numberAt 4 = .ok (.iload_n 1, 1) := by decide +kernel
theorem dX3_numberAt_5 : decode cX3_numberAt 5 = .ok (.aload_n 0, 1) := by decide +kernel
theorem dX3_numberAt_6 : decode cX3_numberAt 6 = .ok (.getfield 15, 3) := by decide +kernel
theorem dX3_numberAt_9 : decode cX3_numberAt 9 = .ok (.if_icmp .ge 12, 3) := by decide +kernel
theorem dX3_numberAt_12 : decode cX3_numberAt 12 = .ok (.aload_n 0, 1) := by decide +kernel
theorem dX3_numberAt_13 : decode cX3_numberAt 13 = .ok (.getfield 11, 3) := by decide +kernel
theorem dX3_numberAt_16 : decode cX3_numberAt 16 = .ok (.iload_n 1, 1) := by decide +kernel
theorem dX3_numberAt_17 : decode cX3_numberAt 17 = .ok (.iaload, 1) := by decide +kernel
theorem dX3_numberAt_18 : decode cX3_numberAt 18 = .ok (.goto 4, 3) := by decide +kernel
theorem dX3_numberAt_21 : decode cX3_numberAt 21 = .ok (.iconst (-1), 1) := by decide +kernel
theorem dX3_numberAt_22 : decode cX3_numberAt 22 = .ok (.ireturn, 1) := by decide +kernel
theorem dX3_setSingle_0 : decode cX3_setSingle 0 = .ok (.aload_n 0, 1) := by decide +kernel
theorem dX3_setSingle_1 : decode cX3_setSingle 1 = .ok (.iconst 0, 1) := by decide +kernel
theorem dX3_setSingle_2 : decode cX3_setSingle 2 = .ok (.putfield 15, 3) := by decide +kernel
theorem dX3_setSingle_5 : decode cX3_setSingle 5 = .ok (.aload_n 0, 1) := by decide +kernel
theorem dX3_setSingle_6 : decode cX3_setSingle 6 = .ok (.iload_n 1, 1) := by decide +kernel
theorem dX3_setSingle_7 : decode cX3_setSingle 7 = .ok (.iload_n 2, 1) := by decide +kernel
theorem dX3_setSingle_8 : decode cX3_setSingle 8 = .ok (.invokevirtual 23, 3) := by decide +kernel
theorem dX3_setSingle_11 : decode cX3_setSingle 11 = .ok (.return_, 1) := by decide +kernel
theorem dX3_copy_0 : decode cX3_copy 0 = .ok (.aload_n 1, 1) := by decide +kernel
theorem dX3_copy_1 : decode cX3_copy 1 = .ok (.getfield 11, 3) := by decide +kernel
theorem dX3_copy_4 : decode cX3_copy 4 = .ok (.iconst 0, 1) := by decide +kernel
theorem dX3_copy_5 : decode cX3_copy 5 = .ok (.aload_n 0, 1) := by decide +kernel
theorem dX3_copy_6 : decode cX3_copy 6 = .ok (.getfield 11, 3) := by decide +kernel
theorem dX3_copy_9 : decode cX3_copy 9 = .ok (.iconst 0, 1) := by decide +kernel
theorem dX3_copy_10 : decode cX3_copy 10 = .ok (.aload_n 1, 1) := by decide +kernel
theorem dX3_copy_11 : decode cX3_copy 11 = .ok (.getfield 15, 3) := by decide +kernel
theorem dX3_copy_14 : decode cX3_copy 14 = .ok (.invokestatic 27, 3) := by decide +kernel
theorem dX3_copy_17 : decode cX3_copy 17 = .ok (.aload_n 0, 1) := by decide +kernel
theorem dX3_copy_18 : decode cX3_copy 18 = .ok (.aload_n 1, 1) := by decide +kernel
theorem dX3_copy_19 : decode cX3_copy 19 = .ok (.getfield 15, 3) := by decide +kernel
theorem dX3_copy_22 : decode cX3_copy 22 = .ok (.putfield 15, 3) := by decide +kernel
theorem dX3_copy_25 : decode cX3_copy 25 = .ok (.return_, 1) := by decide +kernel
theorem dX3_setPair_0 : decode cX3_setPair 0 = .ok (.aload_n 1, 1) := by decide +kernel
theorem dX3_setPair_1 : decode cX3_setPair 1 = .ok (.getfield 15, 3) := by decide +kernel
theorem dX3_setPair_4 : decode cX3_setPair 4 = .ok (.istore_n 3, 1) := by decide +kernel
theorem dX3_setPair_5 : decode cX3_setPair 5 = .ok (.aload_n 2, 1) := by decide +kernel
theorem dX3_setPair_6 : decode cX3_setPair 6 = .ok (.getfield 15, 3) := by decide +kernel
theorem dX3_setPair_9 : decode cX3_setPair 9 = .ok (.istore 4, 2) := by decide +kernel
theorem dX3_setPair_11 : decode cX3_setPair 11 = .ok (.iconst 1, 1) := by decide +kernel
theorem dX3_setPair_12 : decode cX3_setPair 12 = .ok (.iload_n 3, 1) := by decide +kernel
theorem dX3_setPair_13 : decode cX3_setPair 13 = .ok (.iadd, 1) := by decide +kernel
theorem dX3_setPair_14 : decode cX3_setPair 14 = .ok (.iload 4, 2) := by decide +kernel
theorem dX3_setPair_16 : decode cX3_setPair 16 = .ok (.iadd, 1) := by decide +kernel
theorem dX3_setPair_17 : decode cX3_setPair 17 = .ok (.bipush 95, 2) := by decide +kernel
theorem dX3_setPair_19 : decode cX3_setPair 19 = .ok (.if_icmp .le 5, 3) := by decide +kernel
theorem dX3_setPair_22 : decode cX3_setPair 22 = .ok (.iconst 0, 1) := by decide +kernel
theorem dX3_setPair_23 : decode cX3_setPair 23 = .ok (.ireturn, 1) := by decide +kernel
theorem dX3_setPair_24 : decode cX3_setPair 24 = .ok (.aload_n 2, 1) := by decide +kernel
theorem dX3_setPair_25 : decode cX3_setPair 25 = .ok (.getfield 11, 3) := by decide +kernel
theorem dX3_setPair_28 : decode cX3_setPair 28 = .ok (.iconst 0, 1) := by decide +kernel
theorem dX3_setPair_29 : decode cX3_setPair 29 = .ok (.aload_n 0, 1) := by decide +kernel
theorem dX3_setPair_30 : decode cX3_setPair 30 = .ok (.getfield 11, 3) := by decide +kernel
theorem dX3_setPair_33 : decode cX3_setPair 33 = .ok (.iconst 1, 1) := by decide +kernel
theorem dX3_setPair_34 : decode cX3_setPair 34 = .ok (.iload_n 3, 1) := by decide +kernel
theorem dX3_setPair_35 : decode cX3_setPair 35 = .ok (.iadd, 1) := by decide +kernel
theorem dX3_setPair_36 : decode cX3_setPair 36 = .ok (.iload 4, 2) := by decide +kernel
theorem dX3_setPair_38 : decode cX3_setPair 38 = .ok (.invokestatic 27, 3) := by decide +kernel
theorem dX3_setPair_41 : decode cX3_setPair 41 = .ok (.aload_n 1, 1) := by decide +kernel
theorem dX3_setPair_42 : decode cX3_setPair 42 = .ok (.getfield 11, 3) := by decide +kernel
theorem dX3_setPair_45 : decode cX3_setPair 45 = .ok (.iconst 0, 1) := by decide +kernel
theorem dX3_setPair_46 : decode cX3_setPair 46 = .ok (.aload_n 0, 1) := by decide +kernel
theorem dX3_setPair_47 : decode cX3_setPair 47 = .ok (.getfield 11, 3) := by decide +kernel
theorem dX3_setPair_50 : decode cX3_setPair 50 = .ok (.iconst 1, 1) := by decide +kernel
theorem dX3_setPair_51 : decode cX3_setPair 51 = .ok (.iload_n 3, 1) := by decide +kernel
theorem dX3_setPair_52 : decode cX3_setPair 52 = .ok (.invokestatic 27, 3) := by decide +kernel
theorem dX3_setPair_55 : decode cX3_setPair 55 = .ok (.aload_n 0, 1) := by decide +kernel
theorem dX3_setPair_56 : decode cX3_setPair 56 = .ok (.getfield 11, 3) := by decide +kernel
theorem dX3_setPair_59 : decode cX3_setPair 59 = .ok (.iconst 0, 1) := by decide +kernel
theorem dX3_setPair_60 : decode cX3_setPair 60 = .ok (.iconst (-1), 1) := by decide +kernel
theorem dX3_setPair_61 : decode cX3_setPair 61 = .ok (.iastore, 1) := by decide +kernel
theorem dX3_setPair_62 : decode cX3_setPair 62 = .ok (.aload_n 0, 1) := by decide +kernel
theorem dX3_setPair_63 : decode cX3_setPair 63 = .ok (.iconst 1, 1) := by decide +kernel
theorem dX3_setPair_64 : decode cX3_setPair 64 = .ok (.iload_n 3, 1) := by decide +kernel
theorem dX3_setPair_65 : decode cX3_setPair 65 = .ok (.iadd, 1) := by decide +kernel
theorem dX3_setPair_66 : decode cX3_setPair 66 = .ok (.iload 4, 2) := by decide +kernel
theorem dX3_setPair_68 : decode cX3_setPair 68 = .ok (.iadd, 1) := by decide +kernel
theorem dX3_setPair_69 : decode cX3_setPair 69 = .ok (.putfield 15, 3) := by decide +kernel
theorem dX3_setPair_72 : decode cX3_setPair 72 = .ok (.iconst 1, 1) := by decide +kernel
theorem dX3_setPair_73 : decode cX3_setPair 73 = .ok (.ireturn, 1) := by decide +kernel
theorem dX3_setFirst_0 : decode cX3_setFirst 0 = .ok (.aload_n 1, 1) := by decide +kernel
theorem dX3_setFirst_1 : decode cX3_setFirst 1 = .ok (.invokevirtual 33, 3) := by decide +kernel
theorem dX3_setFirst_4 : decode cX3_setFirst 4 = .ok (.iconst 3, 1) := by decide +kernel
theorem dX3_setFirst_5 : decode cX3_setFirst 5 = .ok (.if_icmp .ne 20, 3) := by decide +kernel
theorem dX3_setFirst_8 : decode cX3_setFirst 8 = .ok (.aload_n 0, 1) := by decide +kernel
theorem dX3_setFirst_9 : decode cX3_setFirst 9 = .ok (.aload_n 1, 1) := by decide +kernel
theorem dX3_setFirst_10 : decode cX3_setFirst 10 = .ok (.iconst 1, 1) := by decide +kernel
theorem dX3_setFirst_11 : decode cX3_setFirst 11 = .ok (.aload_n 1, 1) := by decide +kernel
theorem dX3_setFirst_12 : decode cX3_setFirst 12 = .ok (.invokevirtual 37, 3) := by decide +kernel
theorem dX3_setFirst_15 : decode cX3_setFirst 15 = .ok (.invokevirtual 40, 3) := by decide +kernel
theorem dX3_setFirst_18 : decode cX3_setFirst 18 = .ok (.ifCond .eq 7, 3) := by decide +kernel
theorem dX3_setFirst_21 : decode cX3_setFirst 21 = .ok (.iconst 1, 1) := by decide +kernel
theorem dX3_setFirst_22 : decode cX3_setFirst 22 = .ok (.goto 4, 3) := by decide +kernel
theorem dX3_setFirst_25 : decode cX3_setFirst 25 = .ok (.iconst 0, 1) := by decide +kernel
theorem dX3_setFirst_26 : decode cX3_setFirst 26 = .ok (.ireturn, 1) := by decide +kernel
theorem dX3_setSecond_0 : decode cX3_setSecond 0 = .ok (.aload_n 1, 1) := by decide +kernel
theorem dX3_setSecond_1 : decode cX3_setSecond 1 = .ok (.invokevirtual 33, 3) := by decide +kernel
theorem dX3_setSecond_4 : decode cX3_setSecond 4 = .ok (.iconst 3, 1) := by decide +kernel
theorem dX3_setSecond_5 : decode cX3_setSecond 5 = .ok (.if_icmp .ne 23, 3) := by decide +kernel
theorem dX3_setSecond_8 : decode cX3_setSecond 8 = .ok (.aload_n 0, 1) := by decide +kernel
theorem dX3_setSecond_9 : decode cX3_setSecond 9 = .ok (.aload_n 1, 1) := by decide +kernel
theorem dX3_setSecond_10 : decode cX3_setSecond 10 = .ok (.aload_n 1, 1) := by decide +kernel
theorem dX3_setSecond_11 : decode cX3_setSecond 11 = .ok (.invokevirtual 37, 3) := by decide +kernel
theorem dX3_setSecond_14 : decode cX3_setSecond 14 = .ok (.aload_n 1, 1) := by decide +kernel
theorem dX3_setSecond_15 : decode cX3_setSecond 15 = .ok (.getfield 15, 3) := by decide +kernel
theorem dX3_setSecond_18 : decode cX3_setSecond 18 = .ok (.invokevirtual 40, 3) := by decide +kernel
theorem dX3_setSecond_21 : decode cX3_setSecond 21 = .ok (.ifCond .eq 7, 3) := by decide +kernel
theorem dX3_setSecond_24 : decode cX3_setSecond 24 = .ok (.iconst 1, 1) := by decide +kernel
theorem dX3_setSecond_25 : decode cX3_setSecond 25 = .ok (.goto 4, 3) := by decide +kernel
theorem dX3_setSecond_28 : decode cX3_setSecond 28 = .ok (.iconst 0, 1) := by decide +kernel
theorem dX3_setSecond_29 : decode cX3_setSecond 29 = .ok (.ireturn, 1) := by decide +kernel
theorem dX3_setPart_0 : decode cX3_setPart 0 = .ok (.aload_n 1, 1) := by decide +kernel
theorem dX3_setPart_1 : decode cX3_setPart 1 = .ok (.getfield 11, 3) := by decide +kernel
theorem dX3_setPart_4 : decode cX3_setPart 4 = .ok (.iload_n 2, 1) := by decide +kernel
theorem dX3_setPart_5 : decode cX3_setPart 5 = .ok (.aload_n 0, 1) := by decide +kernel
theorem dX3_setPart_6 : decode cX3_setPart 6 = .ok (.getfield 11, 3) := by decide +kernel
theorem dX3_setPart_9 : decode cX3_setPart 9 = .ok (.iconst 0, 1) := by decide +kernel
theorem dX3_setPart_10 : decode cX3_setPart 10 = .ok (.iload_n 3, 1) := by decide +kernel
theorem dX3_setPart_11 : decode cX3_setPart 11 = .ok (.iload_n 2, 1) := by decide +kernel
theorem dX3_setPart_12 : decode cX3_setPart 12 = .ok (.isub, 1) := by decide +kernel
theorem dX3_setPart_13 : decode cX3_setPart 13 = .ok (.invokestatic 27, 3) := by decide +kernel
theorem dX3_setPart_16 : decode cX3_setPart 16 = .ok (.aload_n 0, 1) := by decide +kernel
theorem dX3_setPart_17 : decode cX3_setPart 17 = .ok (.iload_n 3, 1) := by decide +kernel
theorem dX3_setPart_18 : decode cX3_setPart 18 = .ok (.iload_n 2, 1) := by decide +kernel
theorem dX3_setPart_19 : decode cX3_setPart 19 = .ok (.isub, 1) := by decide +kernel
theorem dX3_setPart_20 : decode cX3_setPart 20 = .ok (.putfield 15, 3) := by decide +kernel
theorem dX3_setPart_23 : decode cX3_setPart 23 = .ok (.iconst 1, 1) := by decide +kernel
theorem dX3_setPart_24 : decode cX3_setPart 24 = .ok (.ireturn, 1) := by decide +kernel
theorem dX3_endOfFirst_0 : decode cX3_endOfFirst 0 = .ok (.iconst 1, 1) := by decide +kernel
theorem dX3_endOfFirst_1 : decode cX3_endOfFirst 1 = .ok (.istore_n 1, 1) := by decide +kernel
theorem dX3_endOfFirst_2 : decode cX3_endOfFirst 2 = .ok (.iconst 1, 1) := by decide +kernel
theorem dX3_endOfFirst_3 : decode cX3_endOfFirst 3 = .ok (.istore_n 2, 1) := by decide +kernel
theorem dX3_endOfFirst_4 : decode cX3_endOfFirst 4 = .ok (.iload_n 1, 1) := by decide +kernel
theorem dX3_endOfFirst_5 : decode cX3_endOfFirst 5 = .ok (.aload_n 0, 1) := by decide +kernel
theorem dX3_endOfFirst_6 : decode cX3_endOfFirst 6 = .ok (.getfield 15, 3) := by decide +kernel
theorem dX3_endOfFirst_9 : decode cX3_endOfFirst 9 = .ok (.if_icmp .ge 50, 3) := by decide +kernel
theorem dX3_endOfFirst_12 : decode cX3_endOfFirst 12 = .ok (.iload_n 2, 1) := by decide +kernel
theorem dX3_endOfFirst_13 : decode cX3_endOfFirst 13 = .ok (.ifCond .le 46, 3) := by decide +kernel
theorem dX3_endOfFirst_16 : decode cX3_endOfFirst 16 = .ok (.aload_n 0, 1) := by decide +kernel
theorem dX3_endOfFirst_17 : decode cX3_endOfFirst 17 = .ok (.getfield 11, 3) := by decide +kernel
theorem dX3_endOfFirst_20 : decode cX3_endOfFirst 20 = .ok (.iload_n 1, 1) := by decide +kernel
theorem dX3_endOfFirst_21 : decode cX3_endOfFirst 21 = .ok (.iaload, 1) := by decide +kernel
theorem dX3_endOfFirst_22 : decode cX3_endOfFirst 22 = .ok (.iconst (-1), 1) := by decide +kernel
theorem dX3_endOfFirst_23 : decode cX3_endOfFirst 23 = .ok (.if_icmp .ne 7, 3) := by decide +kernel
theorem dX3_endOfFirst_26 : decode cX3_endOfFirst 26 = .ok (.iconst 1, 1) := by decide +kernel
theorem dX3_endOfFirst_27 : decode cX3_endOfFirst 27 = .ok (.goto 4, 3) := by decide +kernel
theorem dX3_endOfFirst_30 : decode cX3_endOfFirst 30 = .ok (.iconst 0, 1) := by decide +kernel
theorem dX3_endOfFirst_31 : decode cX3_endOfFirst 31 = .ok (.istore_n 3, 1) := by decide +kernel
theorem dX3_endOfFirst_32 : decode cX3_endOfFirst 32 = .ok (.iload_n 2, 1) := by decide +kernel
theorem dX3_endOfFirst_33 : decode cX3_endOfFirst 33 = .ok (.iload_n 3, 1) := by decide +kernel
theorem dX3_endOfFirst_34 : decode cX3_endOfFirst 34 = .ok (.ifCond .eq 7, 3) := by decide +kernel
theorem dX3_endOfFirst_37 : decode cX3_endOfFirst 37 = .ok (.iconst 1, 1) := by decide +kernel
theorem dX3_endOfFirst_38 : decode cX3_endOfFirst 38 = .ok (.goto 4, 3) := by decide +kernel
theorem dX3_endOfFirst_41 : decode cX3_endOfFirst 41 = .ok (.iconst (-1), 1) := by decide +kernel
theorem dX3_endOfFirst_42 : decode cX3_endOfFirst 42 = .ok (.iadd, 1) := by decide +kernel
theorem dX3_endOfFirst_43 : decode cX3_endOfFirst 43 = .ok (.istore_n 2, 1) := by decide +kernel
theorem dX3_endOfFirst_44 : decode cX3_endOfFirst 44 = .ok (.iload_n 1, 1) := by decide +kernel
theorem dX3_endOfFirst_45 : decode cX3_endOfFirst 45 = .ok (.iload_n 3, 1) := by decide +kernel
theorem dX3_endOfFirst_46 : decode cX3_endOfFirst 46 = .ok (.ifCond .eq 7, 3) := by decide +kernel
theorem dX3_endOfFirst_49 : decode cX3_endOfFirst 49 = .ok (.iconst 1, 1) := by decide +kernel
theorem dX3_endOfFirst_50 : decode cX3_endOfFirst 50 = .ok (.goto 4, 3) := by decide +kernel
theorem dX3_endOfFirst_53 : decode cX3_endOfFirst 53 = .ok (.iconst 2, 1) := by decide +kernel
theorem dX3_endOfFirst_54 : decode cX3_endOfFirst 54 = .ok (.iadd, 1) := by decide +kernel
theorem dX3_endOfFirst_55 : decode cX3_endOfFirst 55 = .ok (.istore_n 1, 1) := by decide +kernel
theorem dX3_endOfFirst_56 : decode cX3_endOfFirst 56 = .ok (.goto (-52), 3) := by decide +kernel
theorem dX3_endOfFirst_59 : decode cX3_endOfFirst 59 = .ok (.iload_n 1, 1) := by decide +kernel
theorem dX3_endOfFirst_60 : decode cX3_endOfFirst 60 = .ok (.ireturn, 1) := by decide +kernel
theorem dX3_compareWith_0 : decode cX3_compareWith 0 = .ok (.aload_n 0, 1) := by decide +kernel
theorem dX3_compareWith_1 : decode cX3_compareWith 1 = .ok (.getfield 15, 3) := by decide +kernel
theorem dX3_compareWith_4 : decode cX3_compareWith 4 = .ok (.aload_n 1, 1) := by decide +kernel
theorem dX3_compareWith_5 : decode cX3_compareWith 5 = .ok (.getfield 15, 3) := by decide +kernel
theorem dX3_compareWith_8 : decode cX3_compareWith 8 = .ok (.invokestatic 44, 3) := by decide +kernel
theorem dX3_compareWith_11 : decode cX3_compareWith 11 = .ok (.istore_n 2, 1) := by decide +kernel
theorem dX3_compareWith_12 : decode cX3_compareWith 12 = .ok (.iconst 0, 1) := by decide +kernel
theorem dX3_compareWith_13 : decode cX3_compareWith 13 = .ok (.istore_n 3, 1) := by decide +kernel
theorem dX3_compareWith_14 : decode cX3_compareWith 14 = .ok (.iload_n 3, 1) := by decide +kernel
theorem dX3_compareWith_15 : decode cX3_compareWith 15 = .ok (.iconst 1, 1) := by decide +kernel
theorem dX3_compareWith_16 : decode cX3_compareWith 16 = .ok (.iadd, 1) := by decide +kernel
theorem dX3_compareWith_17 : decode cX3_compareWith 17 = .ok (.iload_n 2, 1) := by decide +kernel
theorem dX3_compareWith_18 : decode cX3_compareWith 18 = .ok (.if_icmp .ge 107, 3) := by decide +kernel
theorem dX3_compareWith_21 : decode cX3_compareWith 21 = .ok (.aload_n 0, 1) := by decide +kernel
theorem dX3_compareWith_22 : decode cX3_compareWith 22 = .ok (.getfield 11, 3) := by decide +kernel
theorem dX3_compareWith_25 : decode cX3_compareWith 25 = .ok (.iload_n 3, 1) := by decide +kernel
theorem dX3_compareWith_26 : decode cX3_compareWith 26 = .ok (.iaload, 1) := by decide +kernel
theorem dX3_compareWith_27 : decode cX3_compareWith 27 = .ok (.invokestatic 19, 3) := by decide +kernel
theorem dX3_compareWith_30 : decode cX3_compareWith 30 = .ok (.istore 4, 2) := by decide +kernel
theorem dX3_compareWith_32 : decode cX3_compareWith 32 = .ok (.aload_n 1, 1) := by decide +kernel
theorem dX3_compareWith_33 : decode cX3_compareWith 33 = .ok (.getfield 11, 3) := by decide +kernel
theorem dX3_compareWith_36 : decode cX3_compareWith 36 = .ok (.iload_n 3, 1) := by decide +kernel
theorem dX3_compareWith_37 : decode cX3_compareWith 37 = .ok (.iaload, 1) := by decide +kernel
theorem dX3_compareWith_38 : decode cX3_compareWith 38 = .ok (.invokestatic 19, 3) := by decide +kernel
theorem dX3_compareWith_41 : decode cX3_compareWith 41 = .ok (.istore 5, 2) := by decide +kernel
theorem dX3_compareWith_43 : decode cX3_compareWith 43 = .ok (.iload 4, 2) := by decide +kernel
theorem dX3_compareWith_45 : decode cX3_compareWith 45 = .ok (.iload 5, 2) := by decide +kernel
theorem dX3_compareWith_47 : decode cX3_compareWith 47 = .ok (.if_icmp .eq 16, 3) := by decide +kernel
theorem dX3_compareWith_50 : decode cX3_compareWith 50 = .ok (.iload 4, 2) := by decide +kernel
theorem dX3_compareWith_52 : decode cX3_compareWith 52 = .ok (.iload 5, 2) := by decide +kernel
theorem dX3_compareWith_54 : decode cX3_compareWith 54 = .ok (.if_icmp .ge 7, 3) := by decide +kernel
theorem dX3_compareWith_57 : decode cX3_compareWith 57 = .ok (.iconst (-1), 1) := by decide +kernel
theorem dX3_compareWith_58 : decode cX3_compareWith 58 = .ok (.goto 4, 3) := by decide +kernel
theorem dX3_compareWith_61 : decode cX3_compareWith 61 = .ok (.iconst 1, 1) := by decide +kernel
theorem dX3_compareWith_62 : decode cX3_compareWith 62 = .ok (.ireturn, 1) := by decide +kernel
theorem dX3_compareWith_63 : decode cX3_compareWith 63 = .ok (.iload 4, 2) := by decide +kernel
theorem dX3_compareWith_65 : decode cX3_compareWith 65 = .ok (.iconst 3, 1) := by decide +kernel
theorem dX3_compareWith_66 : decode cX3_compareWith 66 = .ok (.if_icmp .ne 9, 3) := by decide +kernel
theorem dX3_compareWith_69 : decode cX3_compareWith 69 = .ok (.iinc 3 1, 3) := by decide +kernel
theorem dX3_compareWith_72 : decode cX3_compareWith 72 = .ok (.goto 50, 3) := by decide +kernel
theorem dX3_compareWith_75 : decode cX3_compareWith 75 = .ok (.aload_n 0, 1) := by decide +kernel
theorem dX3_compareWith_76 : decode cX3_compareWith 76 = .ok (.getfield 11, 3) := by decide +kernel
theorem dX3_compareWith_79 : decode cX3_compareWith 79 = .ok (.iload_n 3, 1) := by decide +kernel
theorem dX3_compareWith_80 : decode cX3_compareWith 80 = .ok (.iconst 1, 1) := by decide +kernel
theorem dX3_compareWith_81 : decode cX3_compareWith 81 = .ok (.iadd, 1) := by decide +kernel
theorem dX3_compareWith_82 : decode cX3_compareWith 82 = .ok (.iaload, 1) := by decide +kernel
theorem dX3_compareWith_83 : decode cX3_compareWith 83 = .ok (.aload_n 1, 1) := by decide +kernel
theorem dX3_compareWith_84 : decode cX3_compareWith 84 = .ok (.getfield 11, 3) := by decide +kernel
theorem dX3_compareWith_87 : decode cX3_compareWith 87 = .ok (.iload_n 3, 1) := by decide +kernel
theorem dX3_compareWith_88 : decode cX3_compareWith 88 = .ok (.iconst 1, 1) := by decide +kernel
theorem dX3_compareWith_89 : decode cX3_compareWith 89 = .ok (.iadd, 1) := by decide +kernel
theorem dX3_compareWith_90 : decode cX3_compareWith 90 = .ok (.iaload, 1) := by decide +kernel
theorem dX3_compareWith_91 : decode cX3_compareWith 91 = .ok (.if_icmp .eq 28, 3) := by decide +kernel
theorem dX3_compareWith_94 : decode cX3_compareWith 94 = .ok (.aload_n 0, 1) := by decide +kernel
theorem dX3_compareWith_95 : decode cX3_compareWith 95 = .ok (.getfield 11, 3) := by decide +kernel
theorem dX3_compareWith_98 : decode cX3_compareWith 98 = .ok (.iload_n 3, 1) := by decide +kernel
theorem dX3_compareWith_99 : decode cX3_compareWith 99 = .ok (.iconst 1, 1) := by decide +kernel
theorem dX3_compareWith_100 : decode cX3_compareWith 100 = .ok (.iadd, 1) := by decide +kernel
theorem dX3_compareWith_101 : decode cX3_compareWith 101 = .ok (.iaload, 1) := by decide +kernel
theorem dX3_compareWith_102 : decode cX3_compareWith 102 = .ok (.aload_n 1, 1) := by decide +kernel
theorem dX3_compareWith_103 : decode cX3_compareWith 103 = .ok (.getfield 11, 3) := by decide +kernel
theorem dX3_compareWith_106 : decode cX3_compareWith 106 = .ok (.iload_n 3, 1) := by decide +kernel
theorem dX3_compareWith_107 : decode cX3_compareWith 107 = .ok (.iconst 1, 1) := by decide +kernel
theorem dX3_compareWith_108 : decode cX3_compareWith 108 = .ok (.iadd, 1) := by decide +kernel
theorem dX3_compareWith_109 : decode cX3_compareWith 109 = .ok (.iaload, 1) := by decide +kernel
theorem dX3_compareWith_110 : decode cX3_compareWith 110 = .ok (.if_icmp .ge 7, 3) := by decide +kernel
theorem dX3_compareWith_113 : decode cX3_compareWith 113 = .ok (.iconst (-1), 1) := by decide +kernel
theorem dX3_compareWith_114 : decode cX3_compareWith 114 = .ok (.goto 4, 3) := by decide +kernel
theorem dX3_compareWith_117 : decode cX3_compareWith 117 = .ok (.iconst 1, 1) := by decide +kernel
theorem dX3_compareWith_118 : decode cX3_compareWith 118 = .ok (.ireturn, 1) := by decide +kernel
theorem dX3_compareWith_119 : decode cX3_compareWith 119 = .ok (.iinc 3 2, 3) := by decide +kernel
theorem dX3_compareWith_122 : decode cX3_compareWith 122 = .ok (.goto (-108), 3) := by decide +kernel
theorem dX3_compareWith_125 : decode cX3_compareWith 125 = .ok (.iconst 0, 1) := by decide +kernel
theorem dX3_compareWith_126 : decode cX3_compareWith 126 = .ok (.ireturn, 1) := by decide +kernel
theorem dX3_setExit_0 : decode cX3_setExit 0 = .ok (.aload_n 0, 1) := by decide +kernel
theorem dX3_setExit_1 : decode cX3_setExit 1 = .ok (.iconst 0, 1) := by decide +kernel
theorem dX3_setExit_2 : decode cX3_setExit 2 = .ok (.putfield 15, 3) := by decide +kernel
theorem dX3_setExit_5 : decode cX3_setExit 5 = .ok (.aload_n 0, 1) := by decide +kernel
theorem dX3_setExit_6 : decode cX3_setExit 6 = .ok (.invokevirtual 50, 3) := by decide +kernel
theorem dX3_setExit_9 : decode cX3_setExit 9 = .ok (.aload_n 0, 1) := by decide +kernel
theorem dX3_setExit_10 : decode cX3_setExit 10 = .ok (.iconst 1, 1) := by decide +kernel
theorem dX3_setExit_11 : decode cX3_setExit 11 = .ok (.bipush 6, 2) := by decide +kernel
theorem dX3_setExit_13 : decode cX3_setExit 13 = .ok (.invokevirtual 23, 3) := by decide +kernel
theorem dX3_setExit_16 : decode cX3_setExit 16 = .ok (.aload_n 0, 1) := by decide +kernel
theorem dX3_setExit_17 : decode cX3_setExit 17 = .ok (.invokevirtual 50, 3) := by decide +kernel
theorem dX3_setExit_20 : decode cX3_setExit 20 = .ok (.aload_n 0, 1) := by decide +kernel
theorem dX3_setExit_21 : decode cX3_setExit 21 = .ok (.iconst 2, 1) := by decide +kernel
theorem dX3_setExit_22 : decode cX3_setExit 22 = .ok (.iload_n 1, 1) := by decide +kernel
theorem dX3_setExit_23 : decode cX3_setExit 23 = .ok (.invokevirtual 23, 3) := by decide +kernel
theorem dX3_setExit_26 : decode cX3_setExit 26 = .ok (.aload_n 0, 1) := by decide +kernel
theorem dX3_setExit_27 : decode cX3_setExit 27 = .ok (.aload_n 2, 1) := by decide +kernel
theorem dX3_setExit_28 : decode cX3_setExit 28 = .ok (.invokevirtual 53, 3) := by decide +kernel
theorem dX3_setExit_31 : decode cX3_setExit 31 = .ok (.return_, 1) := by decide +kernel
theorem dX3_setDown_0 : decode cX3_setDown 0 = .ok (.aload_n 0, 1) := by decide +kernel
theorem dX3_setDown_1 : decode cX3_setDown 1 = .ok (.iconst 0, 1) := by decide +kernel
theorem dX3_setDown_2 : decode cX3_setDown 2 = .ok (.putfield 15, 3) := by decide +kernel
theorem dX3_setDown_5 : decode cX3_setDown 5 = .ok (.aload_n 0, 1) := by decide +kernel
theorem dX3_setDown_6 : decode cX3_setDown 6 = .ok (.invokevirtual 50, 3) := by decide +kernel
theorem dX3_setDown_9 : decode cX3_setDown 9 = .ok (.aload_n 0, 1) := by decide +kernel
theorem dX3_setDown_10 : decode cX3_setDown 10 = .ok (.iconst 1, 1) := by decide +kernel
theorem dX3_setDown_11 : decode cX3_setDown 11 = .ok (.bipush 7, 2) := by decide +kernel
theorem dX3_setDown_13 : decode cX3_setDown 13 = .ok (.invokevirtual 23, 3) := by decide +kernel
theorem dX3_setDown_16 : decode cX3_setDown 16 = .ok (.aload_n 0, 1) := by decide +kernel
theorem dX3_setDown_17 : decode cX3_setDown 17 = .ok (.invokevirtual 50, 3) := by decide +kernel
theorem dX3_setDown_20 : decode cX3_setDown 20 = .ok (.aload_n 0, 1) := by decide +kernel
theorem dX3_setDown_21 : decode cX3_setDown 21 = .ok (.iconst 0, 1) := by decide +kernel
theorem dX3_setDown_22 : decode cX3_setDown 22 = .ok (.iload_n 1, 1) := by decide +kernel
theorem dX3_setDown_23 : decode cX3_setDown 23 = .ok (.invokevirtual 23, 3) := by decide +kernel
theorem dX3_setDown_26 : decode cX3_setDown 26 = .ok (.aload_n 0, 1) := by decide +kernel
theorem dX3_setDown_27 : decode cX3_setDown 27 = .ok (.invokevirtual 50, 3) := by decide +kernel
theorem dX3_setDown_30 : decode cX3_setDown 30 = .ok (.aload_n 0, 1) := by decide +kernel
theorem dX3_setDown_31 : decode cX3_setDown 31 = .ok (.iconst 2, 1) := by decide +kernel
theorem dX3_setDown_32 : decode cX3_setDown 32 = .ok (.iload_n 2, 1) := by decide +kernel
theorem dX3_setDown_33 : decode cX3_setDown 33 = .ok (.invokevirtual 23, 3) := by decide +kernel
theorem dX3_setDown_36 : decode cX3_setDown 36 = .ok (.aload_n 0, 1) := by decide +kernel
theorem dX3_setDown_37 : decode cX3_setDown 37 = .ok (.aload_n 3, 1) := by decide +kernel
theorem dX3_setDown_38 : decode cX3_setDown 38 = .ok (.invokevirtual 53, 3) := by decide +kernel
theorem dX3_setDown_41 : decode cX3_setDown 41 = .ok (.return_, 1) := by decide +kernel
theorem dX3_addPairSign_0 : decode cX3_addPairSign 0 = .ok (.aload_n 0, 1) := by decide +kernel
theorem dX3_addPairSign_1 : decode cX3_addPairSign 1 = .ok (.getfield 11, 3) := by decide +kernel
theorem dX3_addPairSign_4 : decode cX3_addPairSign 4 = .ok (.aload_n 0, 1) := by decide +kernel
theorem dX3_addPairSign_5 : decode cX3_addPairSign 5 = .ok (.getfield 15, 3) := by decide +kernel
theorem dX3_addPairSign_8 : decode cX3_addPairSign 8 = .ok (.iconst (-1), 1) := by decide +kernel
theorem dX3_addPairSign_9 : decode cX3_addPairSign 9 = .ok (.iastore, 1) := by decide +kernel
theorem dX3_addPairSign_10 : decode cX3_addPairSign 10 = .ok (.aload_n 0, 1) := by decide +kernel
theorem dX3_addPairSign_11 : decode cX3_addPairSign 11 = .ok (.dup, 1) := by decide +kernel
theorem dX3_addPairSign_12 : decode cX3_addPairSign 12 = .ok (.getfield 15, 3) := by decide +kernel
theorem dX3_addPairSign_15 : decode cX3_addPairSign 15 = .ok (.iconst 1, 1) := by decide +kernel
theorem dX3_addPairSign_16 : decode cX3_addPairSign 16 = .ok (.iadd, 1) := by decide +kernel
theorem dX3_addPairSign_17 : decode cX3_addPairSign 17 = .ok (.putfield 15, 3) := by decide +kernel
theorem dX3_addPairSign_20 : decode cX3_addPairSign 20 = .ok (.return_, 1) := by decide +kernel
theorem dX3_addSingle_0 : decode cX3_addSingle 0 = .ok (.aload_n 0, 1) := by decide +kernel
theorem dX3_addSingle_1 : decode cX3_addSingle 1 = .ok (.getfield 11, 3) := by decide +kernel
theorem dX3_addSingle_4 : decode cX3_addSingle 4 = .ok (.aload_n 0, 1) := by decide +kernel
theorem dX3_addSingle_5 : decode cX3_addSingle 5 = .ok (.getfield 15, 3) := by decide +kernel
theorem dX3_addSingle_8 : decode cX3_addSingle 8 = .ok (.iload_n 1, 1) := by decide +kernel
theorem dX3_addSingle_9 : decode cX3_addSingle 9 = .ok (.iastore, 1) := by decide +kernel
theorem dX3_addSingle_10 : decode cX3_addSingle 10 = .ok (.aload_n 0, 1) := by decide +kernel
theorem dX3_addSingle_11 : decode cX3_addSingle 11 = .ok (.getfield 11, 3) := by decide +kernel
theorem dX3_addSingle_14 : decode cX3_addSingle 14 = .ok (.aload_n 0, 1) := by decide +kernel
theorem dX3_addSingle_15 : decode cX3_addSingle 15 = .ok (.getfield 15, 3) := by decide +kernel
theorem dX3_addSingle_18 : decode cX3_addSingle 18 = .ok (.iconst 1, 1) := by decide +kernel
theorem dX3_addSingle_19 : decode cX3_addSingle 19 = .ok (.iadd, 1) := by decide +kernel
theorem dX3_addSingle_20 : decode cX3_addSingle 20 = .ok (.iload_n 2, 1) := by decide +kernel
theorem dX3_addSingle_21 : decode cX3_addSingle 21 = .ok (.iastore, 1) := by decide +kernel
theorem dX3_addSingle_22 : decode cX3_addSingle 22 = .ok (.aload_n 0, 1) := by decide +kernel
theorem dX3_addSingle_23 : decode cX3_addSingle 23 = .ok (.dup, 1) := by decide +kernel
theorem dX3_addSingle_24 : decode cX3_addSingle 24 = .ok (.getfield 15, 3) := by decide +kernel
theorem dX3_addSingle_27 : decode cX3_addSingle 27 = .ok (.iconst 2, 1) := by decide +kernel
theorem dX3_addSingle_28 : decode cX3_addSingle 28 = .ok (.iadd, 1) := by decide +kernel
theorem dX3_addSingle_29 : decode cX3_addSingle 29 = .ok (.putfield 15, 3) := by decide +kernel
theorem dX3_addSingle_32 : decode cX3_addSingle 32 = .ok (.return_, 1) := by decide +kernel
theorem dX3_addReason_0 : decode cX3_addReason 0 = .ok (.aload_n 0, 1) := by decide +kernel
theorem dX3_addReason_1 : decode cX3_addReason 1 = .ok (.getfield 15, 3) := by decide +kernel
theorem dX3_addReason_4 : decode cX3_addReason 4 = .ok (.aload_n 1, 1) := by decide +kernel
theorem dX3_addReason_5 : decode cX3_addReason 5 = .ok (.getfield 15, 3) := by decide +kernel
theorem dX3_addReason_8 : decode cX3_addReason 8 = .ok (.iadd, 1) := by decide +kernel
theorem dX3_addReason_9 : decode cX3_addReason 9 = .ok (.bipush 95, 2) := by decide +kernel
theorem dX3_addReason_11 : decode cX3_addReason 11 = .ok (.if_icmp .le 10, 3) := by decide +kernel
theorem dX3_addReason_14 : decode cX3_addReason 14 = .ok (.aload_n 0, 1) := by decide +kernel
theorem dX3_addReason_15 : decode cX3_addReason 15 = .ok (.iconst 1, 1) := by decide +kernel
theorem dX3_addReason_16 : decode cX3_addReason 16 = .ok (.iconst 5, 1) := by decide +kernel
theorem dX3_addReason_17 : decode cX3_addReason 17 = .ok (.invokevirtual 23, 3) := by decide +kernel
theorem dX3_addReason_20 : decode cX3_addReason 20 = .ok (.return_, 1) := by decide +kernel
theorem dX3_addReason_21 : decode cX3_addReason 21 = .ok (.aload_n 1, 1) := by decide +kernel
theorem dX3_addReason_22 : decode cX3_addReason 22 = .ok (.getfield 11, 3) := by decide +kernel
theorem dX3_addReason_25 : decode cX3_addReason 25 = .ok (.iconst 0, 1) := by decide +kernel
theorem dX3_addReason_26 : decode cX3_addReason 26 = .ok (.aload_n 0, 1) := by decide +kernel
theorem dX3_addReason_27 : decode cX3_addReason 27 = .ok (.getfield 11, 3) := by decide +kernel
theorem dX3_addReason_30 : decode cX3_addReason 30 = .ok (.aload_n 0, 1) := by decide +kernel
theorem dX3_addReason_31 : decode cX3_addReason 31 = .ok (.getfield 15, 3) := by decide +kernel
theorem dX3_addReason_34 : decode cX3_addReason 34 = .ok (.aload_n 1, 1) := by decide +kernel
theorem dX3_addReason_35 : decode cX3_addReason 35 = .ok (.getfield 15, 3) := by decide +kernel
theorem dX3_addReason_38 : decode cX3_addReason 38 = .ok (.invokestatic 27, 3) := by decide +kernel
theorem dX3_addReason_41 : decode cX3_addReason 41 = .ok (.aload_n 0, 1) := by decide +kernel
theorem dX3_addReason_42 : decode cX3_addReason 42 = .ok (.dup, 1) := by decide +kernel
theorem dX3_addReason_43 : decode cX3_addReason 43 = .ok (.getfield 15, 3) := by decide +kernel
theorem dX3_addReason_46 : decode cX3_addReason 46 = .ok (.aload_n 1, 1) := by decide +kernel
theorem dX3_addReason_47 : decode cX3_addReason 47 = .ok (.getfield 15, 3) := by decide +kernel
theorem dX3_addReason_50 : decode cX3_addReason 50 = .ok (.iadd, 1) := by decide +kernel
theorem dX3_addReason_51 : decode cX3_addReason 51 = .ok (.putfield 15, 3) := by decide +kernel
theorem dX3_addReason_54 : decode cX3_addReason 54 = .ok (.return_, 1) := by decide +kernel
theorem dX4_init_0 : decode cX4_init 0 = .ok (.aload_n 0, 1) := by decide +kernel
theorem dX4_init_1 : decode cX4_init 1 = .ok (.invokespecial 3, 3) := by decide +kernel
theorem dX4_init_4 : decode cX4_init 4 = .ok (.aload_n 0, 1) := by decide +kernel
theorem dX4_init_5 : decode cX4_init 5 = .ok (.bipush 16, 2) := by decide +kernel
theorem dX4_init_7 : decode cX4_init 7 = .ok (.newarray .int, 2) := by decide +kernel
theorem dX4_init_9 : decode cX4_init 9 = .ok (.putfield 11, 3) := by decide +kernel
theorem dX4_init_12 : decode cX4_init 12 = .ok (.aload_n 0, 1) := by decide +kernel
theorem dX4_init_13 : decode cX4_init 13 = .ok (.bipush 8, 2) := by decide +kernel
theorem dX4_init_15 : decode cX4_init 15 = .ok (.newarray .int, 2) := by decide +kernel
theorem dX4_init_17 : decode cX4_init 17 = .ok (.putfield 15, 3) := by decide +kernel
theorem dX4_init_20 : decode cX4_init 20 = .ok (.aload_n 0, 1) := by decide +kernel
theorem dX4_init_21 : decode cX4_init 21 = .ok (.bipush 8, 2) := by decide +kernel
theorem dX4_init_23 : decode cX4_init 23 = .ok (.newarray .int, 2) := by decide +kernel
theorem dX4_init_25 : decode cX4_init 25 = .ok (.putfield 18, 3) := by decide +kernel
theorem dX4_init_28 : decode cX4_init 28 = .ok (.aload_n 0, 1) := by decide +kernel
theorem dX4_init_29 : decode cX4_init 29 = .ok (.iconst 0, 1) := by decide +kernel
theorem dX4_init_30 : decode cX4_init 30 = .ok (.putfield 21, 3) := by decide +kernel
theorem dX4_init_33 : decode cX4_init 33 = .ok (.aload_n 0, 1) := by decide +kernel
theorem dX4_init_34 : decode cX4_init 34 = .ok (.iconst 0, 1) := by decide +kernel
theorem dX4_init_35 : decode cX4_init 35 = .ok (.putfield 25, 3) := by decide +kernel
theorem dX4_init_38 : decode cX4_init 38 = .ok (.return_, 1) := by decide +kernel
theorem dX4_addBack_0 : decode cX4_addBack 0 = .ok (.aload_n 0, 1) := by decide +kernel
theorem dX4_addBack_1 : decode cX4_addBack 1 = .ok (.getfield 21, 3) := by decide +kernel
theorem dX4_addBack_4 : decode cX4_addBack 4 = .ok (.bipush 16, 2) := by decide +kernel
theorem dX4_addBack_6 : decode cX4_addBack 6 = .ok (.if_icmp .lt 5, 3) := by decide +kernel
theorem dX4_addBack_9 : decode cX4_addBack 9 = .ok (.iconst 0, 1) := by decide +kernel
theorem dX4_addBack_10 : decode cX4_addBack 10 = .ok (.ireturn, 1) := by decide +kernel
theorem dX4_addBack_11 : decode cX4_addBack 11 = .ok (.aload_n 0, 1) := by decide +kernel
theorem dX4_addBack_12 : decode cX4_addBack 12 = .ok (.getfield 11, 3) := by decide +kernel
theorem dX4_addBack_15 : decode cX4_addBack 15 = .ok (.aload_n 0, 1) := by decide +kernel
theorem dX4_addBack_16 : decode cX4_addBack 16 = .ok (.getfield 21, 3) := by decide +kernel
theorem dX4_addBack_19 : decode cX4_addBack 19 = .ok (.iload_n 1, 1) := by decide +kernel
theorem dX4_addBack_20 : decode cX4_addBack 20 = .ok (.iastore, 1) := by decide +kernel
theorem dX4_addBack_21 : decode cX4_addBack 21 = .ok (.aload_n 0, 1) := by decide +kernel
theorem dX4_addBack_22 : decode cX4_addBack 22 = .ok (.dup, 1) := by decide +kernel
theorem dX4_addBack_23 : decode cX4_addBack 23 = .ok (.getfield 21, 3) := by decide +kernel
theorem dX4_addBack_26 : decode cX4_addBack 26 = .ok (.iconst 1, 1) := by decide +kernel
theorem dX4_addBack_27 : decode cX4_addBack 27 = .ok (.iadd, 1) := by decide +kernel
theorem dX4_addBack_28 : decode cX4_addBack 28 = .ok (.putfield 21, 3) := by decide +kernel
theorem dX4_addBack_31 : decode cX4_addBack 31 = .ok (.iconst 1, 1) := by decide +kernel
theorem dX4_addBack_32 : decode cX4_addBack 32 = .ok (.ireturn, 1) := by decide +kernel
theorem dX4_takeBack_0 : decode cX4_takeBack 0 = .ok (.aload_n 0, 1) := by decide +kernel
theorem dX4_takeBack_1 : decode cX4_takeBack 1 = .ok (.getfield 21, 3) := by decide +kernel
theorem dX4_takeBack_4 : decode cX4_takeBack 4 = .ok (.ifCond .gt 5, 3) := by decide +kernel
theorem dX4_takeBack_7 : decode cX4_takeBack 7 = .ok (.iconst (-1), 1) := by decide +kernel
theorem dX4_takeBack_8 : decode cX4_takeBack 8 = .ok (.ireturn, 1) := by decide +kernel
theorem dX4_takeBack_9 : decode cX4_takeBack 9 = .ok (.aload_n 0, 1) := by decide +kernel
theorem dX4_takeBack_10 : decode cX4_takeBack 10 = .ok (.dup, 1) := by decide +kernel
theorem dX4_takeBack_11 : decode cX4_takeBack 11 = .ok (.getfield 21, 3) := by decide +kernel
theorem dX4_takeBack_14 : decode cX4_takeBack 14 = .ok (.iconst 1, 1) := by decide +kernel
theorem dX4_takeBack_15 : decode cX4_takeBack 15 = .ok (.isub, 1) := by decide +kernel
theorem dX4_takeBack_16 : decode cX4_takeBack 16 = .ok (.putfield 21, 3) := by decide +kernel
theorem dX4_takeBack_19 : decode cX4_takeBack 19 = .ok (.aload_n 0, 1) := by decide +kernel
theorem dX4_takeBack_20 : decode cX4_takeBack 20 = .ok (.getfield 11, 3) := by decide +kernel
theorem dX4_takeBack_23 : decode cX4_takeBack 23 = .ok (.aload_n 0, 1) := by decide +kernel
theorem dX4_takeBack_24 : decode cX4_takeBack 24 = .ok (.getfield 21, 3) := by decide +kernel
theorem dX4_takeBack_27 : decode cX4_takeBack 27 = .ok (.iaload, 1) := by decide +kernel
theorem dX4_takeBack_28 : decode cX4_takeBack 28 = .ok (.ireturn, 1) := by decide +kernel
theorem dX4_addCatch_0 : decode cX4_addCatch 0 = .ok (.aload_n 0, 1) := by decide +kernel
theorem dX4_addCatch_1 : decode cX4_addCatch 1 = .ok (.getfield 25, 3) := by decide +kernel
theorem dX4_addCatch_4 : decode cX4_addCatch 4 = .ok (.bipush 8, 2) := by decide +kernel
theorem dX4_addCatch_6 : decode cX4_addCatch 6 = .ok (.if_icmp .lt 5, 3) := by decide +kernel
theorem dX4_addCatch_9 : decode cX4_addCatch 9 = .ok (.iconst 0, 1) := by decide +kernel
theorem dX4_addCatch_10 : decode cX4_addCatch 10 = .ok (.ireturn, 1) := by decide +kernel
theorem dX4_addCatch_11 : decode cX4_addCatch 11 = .ok (.aload_n 0, 1) := by decide +kernel
theorem dX4_addCatch_12 : decode cX4_addCatch 12 = .ok (.getfield 15, 3) := by decide +kernel
theorem dX4_addCatch_15 : decode cX4_addCatch 15 = .ok (.aload_n 0, 1) := by decide +kernel
theorem dX4_addCatch_16 : decode cX4_addCatch 16 = .ok (.getfield 25, 3) := by decide +kernel
theorem dX4_addCatch_19 : decode cX4_addCatch 19 = .ok (.iload_n 1, 1) := by decide +kernel
theorem dX4_addCatch_20 : decode cX4_addCatch 20 = .ok (.iastore, 1) := by decide +kernel
theorem dX4_addCatch_21 : decode cX4_addCatch 21 = .ok (.aload_n 0, 1) := by decide +kernel
theorem dX4_addCatch_22 : decode cX4_addCatch 22 = .ok (.getfield 18, 3) := by decide +kernel
theorem dX4_addCatch_25 : decode cX4_addCatch 25 = .ok (.aload_n 0, 1) := by decide +kernel
theorem dX4_addCatch_26 : decode cX4_addCatch 26 = .ok (.getfield 25, 3) := by decide +kernel
theorem dX4_addCatch_29 : decode cX4_addCatch 29 = .ok (.aload_n 0, 1) := by decide +kernel
theorem dX4_addCatch_30 : decode cX4_addCatch 30 = .ok (.getfield 21, 3) := by decide +kernel
theorem dX4_addCatch_33 : decode cX4_addCatch 33 = .ok (.iastore, 1) := by decide +kernel
theorem dX4_addCatch_34 : decode cX4_addCatch 34 = .ok (.aload_n 0, 1) := by decide +kernel
theorem dX4_addCatch_35 : decode cX4_addCatch 35 = .ok (.dup, 1) := by decide +kernel
theorem dX4_addCatch_36 : decode cX4_addCatch 36 = .ok (.getfield 25, 3) := by decide +kernel
theorem dX4_addCatch_39 : decode cX4_addCatch 39 = .ok (.iconst 1, 1) := by decide +kernel
theorem dX4_addCatch_40 : decode cX4_addCatch 40 = .ok (.iadd, 1) := by decide +kernel
theorem dX4_addCatch_41 : decode cX4_addCatch 41 = .ok (.putfield 25, 3) := by decide +kernel
theorem dX4_addCatch_44 : decode cX4_addCatch 44 = .ok (.iconst 1, 1) := by decide +kernel
theorem dX4_addCatch_45 : decode cX4_addCatch 45 = .ok (.ireturn, 1) := by decide +kernel
theorem dX4_dropCatch_0 : decode cX4_dropCatch 0 = .ok (.aload_n 0, 1) := by decide +kernel
theorem dX4_dropCatch_1 : decode cX4_dropCatch 1 = .ok (.getfield 25, 3) := by decide +kernel
theorem dX4_dropCatch_4 : decode cX4_dropCatch 4 = .ok (.ifCond .le 13, 3) := by decide +kernel
theorem dX4_dropCatch_7 : decode cX4_dropCatch 7 = .ok (.aload_n 0, 1) := by decide +kernel
theorem dX4_dropCatch_8 : decode cX4_dropCatch 8 = .ok (.dup, 1) := by decide +kernel
theorem dX4_dropCatch_9 : decode cX4_dropCatch 9 = .ok (.getfield 25, 3) := by decide +kernel
theorem dX4_dropCatch_12 : decode cX4_dropCatch 12 = .ok (.iconst 1, 1) := by decide +kernel
theorem dX4_dropCatch_13 : decode cX4_dropCatch 13 = .ok (.isub, 1) := by decide +kernel
theorem dX4_dropCatch_14 : decode cX4_dropCatch 14 = .ok (.putfield 25, 3) := by decide +kernel
theorem dX4_dropCatch_17 : decode cX4_dropCatch 17 = .ok (.return_, 1) := by decide +kernel
theorem dX4_takeCatch_0 : decode cX4_takeCatch 0 = .ok (.aload_n 0, 1) := by decide +kernel
theorem dX4_takeCatch_1 : decode cX4_takeCatch 1 = .ok (.getfield 25, 3) := by decide +kernel
theorem dX4_takeCatch_4 : decode cX4_takeCatch 4 = .ok (.ifCond .gt 5, 3) := by decide +kernel
theorem dX4_takeCatch_7 : decode cX4_takeCatch 7 = .ok (.iconst (-1), 1) := by decide +kernel
theorem dX4_takeCatch_8 : decode cX4_takeCatch 8 = .ok (.ireturn, 1) := by decide +kernel
theorem dX4_takeCatch_9 : decode cX4_takeCatch 9 = .ok (.aload_n 0, 1) := by decide +kernel
theorem dX4_takeCatch_10 : decode cX4_takeCatch 10 = .ok (.dup, 1) := by decide +kernel
theorem dX4_takeCatch_11 : decode cX4_takeCatch 11 = .ok (.getfield 25, 3) := by decide +kernel
theorem dX4_takeCatch_14 : decode cX4_takeCatch 14 = .ok (.iconst 1, 1) := by decide +kernel
theorem dX4_takeCatch_15 : decode cX4_takeCatch 15 = .ok (.isub, 1) := by decide +kernel
theorem dX4_takeCatch_16 : decode cX4_takeCatch 16 = .ok (.putfield 25, 3) := by decide +kernel
theorem dX4_takeCatch_19 : decode cX4_takeCatch 19 = .ok (.aload_n 0, 1) := by decide +kernel
theorem dX4_takeCatch_20 : decode cX4_takeCatch 20 = .ok (.aload_n 0, 1) := by decide +kernel
theorem dX4_takeCatch_21 : decode cX4_takeCatch 21 = .ok (.getfield 21, 3) := by decide +kernel
theorem dX4_takeCatch_24 : decode cX4_takeCatch 24 = .ok (.aload_n 0, 1) := by decide +kernel
theorem dX4_takeCatch_25 : decode cX4_takeCatch 25 = .ok (.getfield 18, 3) := by decide +kernel
theorem dX4_takeCatch_28 : decode cX4_takeCatch 28 = .ok (.aload_n 0, 1) := by decide +kernel
theorem dX4_takeCatch_29 : decode cX4_takeCatch 29 = .ok (.getfield 25, 3) := by decide +kernel
theorem dX4_takeCatch_32 : decode cX4_takeCatch 32 = .ok (.iaload, 1) := by decide +kernel
theorem dX4_takeCatch_33 : decode cX4_takeCatch 33 = .ok (.invokestatic 28, 3) := by decide +kernel
theorem dX4_takeCatch_36 : decode cX4_takeCatch 36 = .ok (.putfield 21, 3) := by decide +kernel
theorem dX4_takeCatch_39 : decode cX4_takeCatch 39 = .ok (.aload_n 0, 1) := by decide +kernel
theorem dX4_takeCatch_40 : decode cX4_takeCatch 40 = .ok (.getfield 15, 3) := by decide +kernel
theorem dX4_takeCatch_43 : decode cX4_takeCatch 43 = .ok (.aload_n 0, 1) := by decide +kernel
theorem dX4_takeCatch_44 : decode cX4_takeCatch 44 = .ok (.getfield 25, 3) := by decide +kernel
theorem dX4_takeCatch_47 : decode cX4_takeCatch 47 = .ok (.iaload, 1) := by decide +kernel
theorem dX4_takeCatch_48 : decode cX4_takeCatch 48 = .ok (.ireturn, 1) := by decide +kernel
theorem dX4_clear_0 : decode cX4_clear 0 = .ok (.aload_n 0, 1) := by decide +kernel
theorem dX4_clear_1 : decode cX4_clear 1 = .ok (.iconst 0, 1) := by decide +kernel
theorem dX4_clear_2 : decode cX4_clear 2 = .ok (.putfield 21, 3) := by decide +kernel
theorem dX4_clear_5 : decode cX4_clear 5 = .ok (.aload_n 0, 1) := by decide +kernel
theorem dX4_clear_6 : decode cX4_clear 6 = .ok (.iconst 0, 1) := by decide +kernel
theorem dX4_clear_7 : decode cX4_clear 7 = .ok (.putfield 25, 3) := by decide +kernel
theorem dX4_clear_10 : decode cX4_clear 10 = .ok (.return_, 1) := by decide +kernel
theorem dX5_init_0 : decode cX5_init 0 = .ok (.aload_n 0, 1) := by decide +kernel
theorem dX5_init_1 : decode cX5_init 1 = .ok (.invokespecial 1, 3) := by decide +kernel
theorem dX5_init_4 : decode cX5_init 4 = .ok (.aload_n 0, 1) := by decide +kernel
theorem dX5_init_5 : decode cX5_init 5 = .ok (.sipush 200, 3) := by decide +kernel
theorem dX5_init_8 : decode cX5_init 8 = .ok (.newarray .int, 2) := by decide +kernel
theorem dX5_init_10 : decode cX5_init 10 = .ok (.putfield 9, 3) := by decide +kernel
theorem dX5_init_13 : decode cX5_init 13 = .ok (.aload_n 0, 1) := by decide +kernel
theorem dX5_init_14 : decode cX5_init 14 = .ok (.sipush 200, 3) := by decide +kernel
theorem dX5_init_17 : decode cX5_init 17 = .ok (.newarray .int, 2) := by decide +kernel
theorem dX5_init_19 : decode cX5_init 19 = .ok (.putfield 13, 3) := by decide +kernel
theorem dX5_init_22 : decode cX5_init 22 = .ok (.aload_n 0, 1) := by decide +kernel
theorem dX5_init_23 : decode cX5_init 23 = .ok (.sipush 200, 3) := by decide +kernel
theorem dX5_init_26 : decode cX5_init 26 = .ok (.newarray .int, 2) := by decide +kernel
theorem dX5_init_28 : decode cX5_init 28 = .ok (.putfield 16, 3) := by decide +kernel
theorem dX5_init_31 : decode cX5_init 31 = .ok (.aload_n 0, 1) := by decide +kernel
theorem dX5_init_32 : decode cX5_init 32 = .ok (.iconst 0, 1) := by decide +kernel
theorem dX5_init_33 : decode cX5_init 33 = .ok (.putfield 19, 3) := by decide +kernel
theorem dX5_init_36 : decode cX5_init 36 = .ok (.aload_n 0, 1) := by decide +kernel
theorem dX5_init_37 : decode cX5_init 37 = .ok (.iconst 0, 1) := by decide +kernel
theorem dX5_init_38 : decode cX5_init 38 = .ok (.putfield 23, 3) := by decide +kernel
theorem dX5_init_41 : decode cX5_init 41 = .ok (.return_, 1) := by decide +kernel
theorem dX5_isFull_0 : decode cX5_isFull 0 = .ok (.aload_n 0, 1) := by decide +kernel
theorem dX5_isFull_1 : decode cX5_isFull 1 = .ok (.getfield 19, 3) := by decide +kernel
theorem dX5_isFull_4 : decode cX5_isFull 4 = .ok (.sipush 200, 3) := by decide +kernel
theorem dX5_isFull_7 : decode cX5_isFull 7 = .ok (.if_icmp .lt 7, 3) := by decide +kernel
theorem dX5_isFull_10 : decode cX5_isFull 10 = .ok (.iconst 1, 1) := by decide +kernel
theorem dX5_isFull_11 : decode cX5_isFull 11 = .ok (.goto 4, 3) := by decide +kernel
theorem dX5_isFull_14 : decode cX5_isFull 14 = .ok (.iconst 0, 1) := by decide +kernel
theorem dX5_isFull_15 : decode cX5_isFull 15 = .ok (.ireturn, 1) := by decide +kernel
theorem dX5_nextNumber_0 : decode cX5_nextNumber 0 = .ok (.aload_n 0, 1) := by decide +kernel
theorem dX5_nextNumber_1 : decode cX5_nextNumber 1 = .ok (.dup, 1) := by decide +kernel
theorem dX5_nextNumber_2 : decode cX5_nextNumber 2 = .ok (.getfield 23, 3) := by decide +kernel
theorem dX5_nextNumber_5 : decode cX5_nextNumber 5 = .ok (.iconst 1, 1) := by decide +kernel
theorem dX5_nextNumber_6 : decode cX5_nextNumber 6 = .ok (.iadd, 1) := by decide +kernel
theorem dX5_nextNumber_7 : decode cX5_nextNumber 7 = .ok (.putfield 23, 3) := by decide +kernel
theorem dX5_nextNumber_10 : decode cX5_nextNumber 10 = .ok (.aload_n 0, 1) := by decide +kernel
theorem dX5_nextNumber_11 : decode cX5_nextNumber 11 = .ok (.getfield 23, 3) := by decide +kernel
theorem dX5_nextNumber_14 : decode cX5_nextNumber 14 = .ok (.ireturn, 1) := by decide +kernel
theorem dX5_add_0 : decode cX5_add 0 = .ok (.aload_n 0, 1) := by decide +kernel
theorem dX5_add_1 : decode cX5_add 1 = .ok (.invokevirtual 26, 3) := by decide +kernel
theorem dX5_add_4 : decode cX5_add 4 = .ok (.ifCond .eq 4, 3) := by decide +kernel
theorem dX5_add_7 : decode cX5_add 7 = .ok (.return_, 1) := by decide +kernel
theorem dX5_add_8 : decode cX5_add 8 = .ok (.aload_n 0, 1) := by decide +kernel
theorem dX5_add_9 : decode cX5_add 9 = .ok (.getfield 9, 3) := by decide +kernel
theorem dX5_add_12 : decode cX5_add 12 = .ok (.aload_n 0, 1) := by decide +kernel
theorem dX5_add_13 : decode cX5_add 13 = .ok (.getfield 19, 3) := by decide +kernel
theorem dX5_add_16 : decode cX5_add 16 = .ok (.iload_n 1, 1) := by decide +kernel
theorem dX5_add_17 : decode cX5_add 17 = .ok (.iastore, 1) := by decide +kernel
theorem dX5_add_18 : decode cX5_add 18 = .ok (.aload_n 0, 1) := by decide +kernel
theorem dX5_add_19 : decode cX5_add 19 = .ok (.getfield 13, 3) := by decide +kernel
theorem dX5_add_22 : decode cX5_add 22 = .ok (.aload_n 0, 1) := by decide +kernel
theorem dX5_add_23 : decode cX5_add 23 = .ok (.getfield 19, 3) := by decide +kernel
theorem dX5_add_26 : decode cX5_add 26 = .ok (.iload_n 2, 1) := by decide +kernel
theorem dX5_add_27 : decode cX5_add 27 = .ok (.iastore, 1) := by decide +kernel
theorem dX5_add_28 : decode cX5_add 28 = .ok (.aload_n 0, 1) := by decide +kernel
theorem dX5_add_29 : decode cX5_add 29 = .ok (.getfield 16, 3) := by decide +kernel
theorem dX5_add_32 : decode cX5_add 32 = .ok (.aload_n 0, 1) := by decide +kernel
theorem dX5_add_33 : decode cX5_add 33 = .ok (.getfield 19, 3) := by decide +kernel
theorem dX5_add_36 : decode cX5_add 36 = .ok (.iload_n 3, 1) := by decide +kernel
theorem dX5_add_37 : decode cX5_add 37 = .ok (.iastore, 1) := by decide +kernel
theorem dX5_add_38 : decode cX5_add 38 = .ok (.aload_n 0, 1) := by decide +kernel
theorem dX5_add_39 : decode cX5_add 39 = .ok (.dup, 1) := by decide +kernel
theorem dX5_add_40 : decode cX5_add 40 = .ok (.getfield 19, 3) := by decide +kernel
theorem dX5_add_43 : decode cX5_add 43 = .ok (.iconst 1, 1) := by decide +kernel
theorem dX5_add_44 : decode cX5_add 44 = .ok (.iadd, 1) := by decide +kernel
theorem dX5_add_45 : decode cX5_add 45 = .ok (.putfield 19, 3) := by decide +kernel
theorem dX5_add_48 : decode cX5_add 48 = .ok (.return_, 1) := by decide +kernel
theorem dX5_dropMadeBy_0 : decode cX5_dropMadeBy 0 = .ok (.aload_n 0, 1) := by decide +kernel
theorem dX5_dropMadeBy_1 : decode cX5_dropMadeBy 1 = .ok (.aload_n 0, 1) := by decide +kernel
theorem dX5_dropMadeBy_2 : decode cX5_dropMadeBy 2 = .ok (.getfield 13, 3) := by decide +kernel
theorem dX5_dropMadeBy_5 : decode cX5_dropMadeBy 5 = .ok (.iload_n 1, 1) := by decide +kernel
theorem dX5_dropMadeBy_6 : decode cX5_dropMadeBy 6 = .ok (.invokevirtual 30, 3) := by decide +kernel
theorem dX5_dropMadeBy_9 : decode cX5_dropMadeBy 9 = .ok (.return_, 1) := by decide +kernel
theorem dX5_dropThoseOf_0 : decode cX5_dropThoseOf 0 = .ok (.aload_n 0, 1) := by decide +kernel
theorem dX5_dropThoseOf_1 : decode cX5_dropThoseOf 1 = .ok (.aload_n 0, 1) := by decide +kernel
theorem dX5_dropThoseOf_2 : decode cX5_dropThoseOf 2 = .ok (.getfield 16, 3) := by decide +kernel
theorem dX5_dropThoseOf_5 : decode cX5_dropThoseOf 5 = .ok (.iload_n 1, 1) := by decide +kernel
theorem dX5_dropThoseOf_6 : decode cX5_dropThoseOf 6 = .ok (.invokevirtual 30, 3) := by decide +kernel
theorem dX5_dropThoseOf_9 : decode cX5_dropThoseOf 9 = .ok (.return_, 1) := by decide +kernel
theorem dX5_dropWhere_0 : decode cX5_dropWhere 0 = .ok (.iconst 0, 1) := by decide +kernel
theorem dX5_dropWhere_1 : decode cX5_dropWhere 1 = .ok (.istore_n 3, 1) := by decide +kernel
theorem dX5_dropWhere_2 : decode cX5_dropWhere 2 = .ok (.iconst 0, 1) := by decide +kernel
theorem dX5_dropWhere_3 : decode cX5_dropWhere 3 = .ok (.istore 4, 2) := by decide +kernel
theorem dX5_dropWhere_5 : decode cX5_dropWhere 5 = .ok (.iload 4, 2) := by decide +kernel
theorem dX5_dropWhere_7 : decode cX5_dropWhere 7 = .ok (.aload_n 0, 1) := by decide +kernel
theorem dX5_dropWhere_8 : decode cX5_dropWhere 8 = .ok (.getfield 19, 3) := by decide +kernel
theorem dX5_dropWhere_11 : decode cX5_dropWhere 11 = .ok (.if_icmp .ge 59, 3) := by decide +kernel
theorem dX5_dropWhere_14 : decode cX5_dropWhere 14 = .ok (.aload_n 1, 1) := by decide +kernel
theorem dX5_dropWhere_15 : decode cX5_dropWhere 15 = .ok (.iload 4, 2) := by decide +kernel
theorem dX5_dropWhere_17 : decode cX5_dropWhere 17 = .ok (.iaload, 1) := by decide +kernel
theorem dX5_dropWhere_18 : decode cX5_dropWhere 18 = .ok (.iload_n 2, 1) := by decide +kernel
theorem dX5_dropWhere_19 : decode cX5_dropWhere 19 = .ok (.if_icmp .eq 45, 3) := by decide +kernel
theorem dX5_dropWhere_22 : decode cX5_dropWhere 22 = .ok (.aload_n 0, 1) := by decide +kernel
theorem dX5_dropWhere_23 : decode cX5_dropWhere 23 = .ok (.getfield 9, 3) := by decide +kernel
theorem dX5_dropWhere_26 : decode cX5_dropWhere 26 = .ok (.iload_n 3, 1) := by decide +kernel
theorem dX5_dropWhere_27 : decode cX5_dropWhere 27 = .ok (.aload_n 0, 1) := by decide +kernel
theorem dX5_dropWhere_28 : decode cX5_dropWhere 28 = .ok (.getfield 9, 3) := by decide +kernel
theorem dX5_dropWhere_31 : decode cX5_dropWhere 31 = .ok (.iload 4, 2) := by decide +kernel
theorem dX5_dropWhere_33 : decode cX5_dropWhere 33 = .ok (.iaload, 1) := by decide +kernel
theorem dX5_dropWhere_34 : decode cX5_dropWhere 34 = .ok (.iastore, 1) := by decide +kernel
theorem dX5_dropWhere_35 : decode cX5_dropWhere 35 = .ok (.aload_n 0, 1) := by decide +kernel
theorem dX5_dropWhere_36 : decode cX5_dropWhere 36 = .ok (.getfield 13, 3) := by decide +kernel
theorem dX5_dropWhere_39 : decode cX5_dropWhere 39 = .ok (.iload_n 3, 1) := by decide +kernel
theorem dX5_dropWhere_40 : decode cX5_dropWhere 40 = .ok (.aload_n 0, 1) := by decide +kernel
theorem dX5_dropWhere_41 : decode cX5_dropWhere 41 = .ok (.getfield 13, 3) := by decide +kernel
theorem dX5_dropWhere_44 : decode cX5_dropWhere 44 = .ok (.iload 4, 2) := by decide +kernel
theorem dX5_dropWhere_46 : decode cX5_dropWhere 46 = .ok (.iaload, 1) := by decide +kernel
theorem dX5_dropWhere_47 : decode cX5_dropWhere 47 = .ok (.iastore, 1) := by decide +kernel
theorem dX5_dropWhere_48 : decode cX5_dropWhere 48 = .ok (.aload_n 0, 1) := by decide +kernel
theorem dX5_dropWhere_49 : decode cX5_dropWhere 49 = .ok (.getfield 16, 3) := by decide +kernel
theorem dX5_dropWhere_52 : decode cX5_dropWhere 52 = .ok (.iload_n 3, 1) := by decide +kernel
theorem dX5_dropWhere_53 : decode cX5_dropWhere 53 = .ok (.aload_n 0, 1) := by decide +kernel
theorem dX5_dropWhere_54 : decode cX5_dropWhere 54 = .ok (.getfield 16, 3) := by decide +kernel
theorem dX5_dropWhere_57 : decode cX5_dropWhere 57 = .ok (.iload 4, 2) := by decide +kernel
theorem dX5_dropWhere_59 : decode cX5_dropWhere 59 = .ok (.iaload, 1) := by decide +kernel
theorem dX5_dropWhere_60 : decode cX5_dropWhere 60 = .ok (.iastore, 1) := by decide +kernel
theorem dX5_dropWhere_61 : decode cX5_dropWhere 61 = .ok (.iinc 3 1, 3) := by decide +kernel
theorem dX5_dropWhere_64 : decode cX5_dropWhere 64 = .ok (.iinc 4 1, 3) := by decide +kernel
theorem dX5_dropWhere_67 : decode cX5_dropWhere 67 = .ok (.goto (-62), 3) := by decide +kernel
theorem dX5_dropWhere_70 : decode cX5_dropWhere 70 = .ok (.aload_n 0, 1) := by decide +kernel
theorem dX5_dropWhere_71 : decode cX5_dropWhere 71 = .ok (.iload_n 3, 1) := by decide +kernel
theorem dX5_dropWhere_72 : decode cX5_dropWhere 72 = .ok (.putfield 19, 3) := by decide +kernel
theorem dX5_dropWhere_75 : decode cX5_dropWhere 75 = .ok (.return_, 1) := by decide +kernel
theorem dX6_init_0 : decode cX6_init 0 = .ok (.aload_n 0, 1) := by decide +kernel
theorem dX6_init_1 : decode cX6_init 1 = .ok (.invokespecial 1, 3) := by decide +kernel
theorem dX6_init_4 : decode cX6_init 4 = .ok (.aload_n 0, 1) := by decide +kernel
theorem dX6_init_5 : decode cX6_init 5 = .ok (.sipush 1200, 3) := by decide +kernel
theorem dX6_init_8 : decode cX6_init 8 = .ok (.newarray .int, 2) := by decide +kernel
theorem dX6_init_10 : decode cX6_init 10 = .ok (.putfield 9, 3) := by decide +kernel
theorem dX6_init_13 : decode cX6_init 13 = .ok (.aload_n 0, 1) := by decide +kernel
theorem dX6_init_14 : decode cX6_init 14 = .ok (.bipush 60, 2) := by decide +kernel
theorem dX6_init_16 : decode cX6_init 16 = .ok (.anewarray 13, 3) := by decide +kernel
theorem dX6_init_19 : decode cX6_init 19 = .ok (.putfield 15, 3) := by decide +kernel
theorem dX6_init_22 : decode cX6_init 22 = .ok (.aload_n 0, 1) := by decide +kernel
theorem dX6_init_23 : decode cX6_init 23 = .ok (.bipush 100, 2) := by decide +kernel
theorem dX6_init_25 : decode cX6_init 25 = .ok (.anewarray 13, 3) := by decide +kernel
theorem dX6_init_28 : decode cX6_init 28 = .ok (.putfield 19, 3) := by decide +kernel
theorem dX6_init_31 : decode cX6_init 31 = .ok (.aload_n 0, 1) := by decide +kernel
theorem dX6_init_32 : decode cX6_init 32 = .ok (.bipush 60, 2) := by decide +kernel
theorem dX6_init_34 : decode cX6_init 34 = .ok (.anewarray 13, 3) := by decide +kernel
theorem dX6_init_37 : decode cX6_init 37 = .ok (.putfield 22, 3) := by decide +kernel
theorem dX6_init_40 : decode cX6_init 40 = .ok (.aload_n 0, 1) := by decide +kernel
theorem dX6_init_41 : decode cX6_init 41 = .ok (.new 25, 3) := by decide +kernel
theorem dX6_init_44 : decode cX6_init 44 = .ok (.dup, 1) := by decide +kernel
theorem dX6_init_45 : decode cX6_init 45 = .ok (.invokespecial 27, 3) := by decide +kernel
theorem dX6_init_48 : decode cX6_init 48 = .ok (.putfield 28, 3) := by decide +kernel
theorem dX6_init_51 : decode cX6_init 51 = .ok (.aload_n 0, 1) := by decide +kernel
theorem dX6_init_52 : decode cX6_init 52 = .ok (.new 32, 3) := by decide +kernel
theorem dX6_init_55 : decode cX6_init 55 = .ok (.dup, 1) := by decide +kernel
theorem dX6_init_56 : decode cX6_init 56 = .ok (.invokespecial 34, 3) := by decide +kernel
theorem dX6_init_59 : decode cX6_init 59 = .ok (.putfield 35, 3) := by decide +kernel
theorem dX6_init_62 : decode cX6_init 62 = .ok (.aload_n 0, 1) := by decide +kernel
theorem dX6_init_63 : decode cX6_init 63 = .ok (.new 39, 3) := by decide +kernel
theorem dX6_init_66 : decode cX6_init 66 = .ok (.dup, 1) := by decide +kernel
theorem dX6_init_67 : decode cX6_init 67 = .ok (.invokespecial 41, 3) := by decide +kernel
theorem dX6_init_70 : decode cX6_init 70 = .ok (.putfield 42, 3) := by decide +kernel
theorem dX6_init_73 : decode cX6_init 73 = .ok (.aload_n 0, 1) := by decide +kernel
theorem dX6_init_74 : decode cX6_init 74 = .ok (.new 39, 3) := by decide +kernel
theorem dX6_init_77 : decode cX6_init 77 = .ok (.dup, 1) := by decide +kernel
theorem dX6_init_78 : decode cX6_init 78 = .ok (.invokespecial 41, 3) := by decide +kernel
theorem dX6_init_81 : decode cX6_init 81 = .ok (.putfield 46, 3) := by decide +kernel
theorem dX6_init_84 : decode cX6_init 84 = .ok (.aload_n 0, 1) := by decide +kernel
theorem dX6_init_85 : decode cX6_init 85 = .ok (.iconst 0, 1) := by decide +kernel
theorem dX6_init_86 : decode cX6_init 86 = .ok (.putfield 49, 3) := by decide +kernel
theorem dX6_init_89 : decode cX6_init 89 = .ok (.aload_n 0, 1) := by decide +kernel
theorem dX6_init_90 : decode cX6_init 90 = .ok (.iconst 0, 1) := by decide +kernel
theorem dX6_init_91 : decode cX6_init 91 = .ok (.putfield 53, 3) := by decide +kernel
theorem dX6_init_94 : decode cX6_init 94 = .ok (.aload_n 0, 1) := by decide +kernel
theorem dX6_init_95 : decode cX6_init 95 = .ok (.iconst 0, 1) := by decide +kernel
theorem dX6_init_96 : decode cX6_init 96 = .ok (.putfield 56, 3) := by decide +kernel
theorem dX6_init_99 : decode cX6_init 99 = .ok (.aload_n 0, 1) := by decide +kernel
theorem dX6_init_100 : decode cX6_init 100 = .ok (.iconst 0, 1) := by decide +kernel
theorem dX6_init_101 : decode cX6_init 101 = .ok (.putfield 59, 3) := by decide +kernel
theorem dX6_init_104 : decode cX6_init 104 = .ok (.aload_n 0, 1) := by decide +kernel
theorem dX6_init_105 : decode cX6_init 105 = .ok (.iconst 0, 1) := by decide +kernel
theorem dX6_init_106 : decode cX6_init 106 = .ok (.putfield 62, 3) := by decide +kernel
theorem dX6_init_109 : decode cX6_init 109 = .ok (.aload_n 0, 1) := by decide +kernel
theorem dX6_init_110 : decode cX6_init 110 = .ok (.iconst 0, 1) := by decide +kernel
theorem dX6_init_111 : decode cX6_init 111 = .ok (.putfield 65, 3) := by decide +kernel
theorem dX6_init_114 : decode cX6_init 114 = .ok (.aload_n 0, 1) := by decide +kernel
theorem dX6_init_115 : decode cX6_init 115 = .ok (.iconst 0, 1) := by decide +kernel
theorem dX6_init_116 : decode cX6_init 116 = .ok (.putfield 68, 3) := by decide +kernel
theorem dX6_init_119 : decode cX6_init 119 = .ok (.aload_n 0, 1) := by decide +kernel
theorem dX6_init_120 : decode cX6_init 120 = .ok (.iconst 0, 1) := by decide +kernel
theorem dX6_init_121 : decode cX6_init 121 = .ok (.putfield 71, 3) := by decide +kernel
theorem dX6_init_124 : decode cX6_init 124 = .ok (.return_, 1) := by decide +kernel
theorem dX6_word_0 : decode cX6_word 0 = .ok (.iload_n 1, 1) := by decide +kernel
theorem dX6_word_1 : decode cX6_word 1 = .ok (.sipush 300, 3) := by decide +kernel
theorem dX6_word_4 : decode cX6_word 4 = .ok (.invokestatic 74, 3) := by decide +kernel
theorem dX6_word_7 : decode cX6_word 7 = .ok (.ifCond .eq 12, 3) := by decide +kernel
theorem dX6_word_10 : decode cX6_word 10 = .ok (.iload_n 2, 1) := by decide +kernel
theorem dX6_word_11 : decode cX6_word 11 = .ok (.bipush 37, 2) := by decide +kernel
theorem dX6_word_13 : decode cX6_word 13 = .ok (.invokestatic 74, 3) := by decide +kernel
theorem dX6_word_16 : decode cX6_word 16 = .ok (.ifCond .ne 11, 3) := by decide +kernel
theorem dX6_word_19 : decode cX6_word 19 = .ok (.new 78, 3) := by decide +kernel
theorem dX6_word_22 : decode cX6_word 22 = .ok (.dup, 1) := by decide +kernel
theorem dX6_word_23 : decode cX6_word 23 = .ok (.invokespecial 80, 3) := by decide +kernel
theorem dX6_word_26 : decode cX6_word 26 = .ok (.athrow, 1) := by decide +kernel
theorem dX6_word_27 : decode cX6_word 27 = .ok (.iload_n 1, 1) := by decide +kernel
theorem dX6_word_28 : decode cX6_word 28 = .ok (.iconst 4, 1) := by decide +kernel
theorem dX6_word_29 : decode cX6_word 29 = .ok (.imul, 1) := by decide +kernel
theorem dX6_word_30 : decode cX6_word 30 = .ok (.istore 6, 2) := by decide +kernel
theorem dX6_word_32 : decode cX6_word 32 = .ok (.aload_n 0, 1) := by decide +kernel
theorem dX6_word_33 : decode cX6_word 33 = .ok (.getfield 9, 3) := by decide +kernel
theorem dX6_word_36 : decode cX6_word 36 = .ok (.iload 6, 2) := by decide +kernel
theorem dX6_word_38 : decode cX6_word 38 = .ok (.iload_n 2, 1) := by decide +kernel
theorem dX6_word_39 : decode cX6_word 39 = .ok (.iastore, 1) := by decide +kernel
theorem dX6_word_40 : decode cX6_word 40 = .ok (.aload_n 0, 1) := by decide +kernel
theorem dX6_word_41 : decode cX6_word 41 = .ok (.getfield 9, 3) := by decide +kernel
theorem dX6_word_44 : decode cX6_word 44 = .ok (.iload 6, 2) := by decide +kernel
theorem dX6_word_46 : decode cX6_word 46 = .ok (.iconst 1, 1) := by decide +kernel
theorem dX6_word_47 : decode cX6_word 47 = .ok (.iadd, 1) := by decide +kernel
theorem dX6_word_48 : decode cX6_word 48 = .ok (.iload_n 3, 1) := by decide +kernel
theorem dX6_word_49 : decode cX6_word 49 = .ok (.iastore, 1) := by decide +kernel
theorem dX6_word_50 : decode cX6_word 50 = .ok (.aload_n 0, 1) := by decide +kernel
theorem dX6_word_51 : decode cX6_word 51 = .ok (.getfield 9, 3) := by decide +kernel
theorem dX6_word_54 : decode cX6_word 54 = .ok (.iload 6, 2) := by decide +kernel
theorem dX6_word_56 : decode cX6_word 56 = .ok (.iconst 2, 1) := by decide +kernel
theorem dX6_word_57 : decode cX6_word 57 = .ok (.iadd, 1) := by decide +kernel
theorem dX6_word_58 : decode cX6_word 58 = .ok (.iload 4, 2) := by decide +kernel
theorem dX6_word_60 : decode cX6_word 60 = .ok (.iastore, 1) := by decide +kernel
theorem dX6_word_61 : decode cX6_word 61 = .ok (.aload_n 0, 1) := by decide +kernel
theorem dX6_word_62 : decode cX6_word 62 = .ok (.getfield 9, 3) := by decide +kernel
theorem dX6_word_65 : decode cX6_word 65 = .ok (.iload 6, 2) := by decide +kernel
theorem dX6_word_67 : decode cX6_word 67 = .ok (.iconst 3, 1) := by decide +kernel
theorem dX6_word_68 : decode cX6_word 68 = .ok (.iadd, 1) := by decide +kernel
theorem dX6_word_69 : decode cX6_word 69 = .ok (.iload 5, 2) := by decide +kernel
theorem dX6_word_71 : decode cX6_word 71 = .ok (.iastore, 1) := by decide +kernel
theorem dX6_word_72 : decode cX6_word 72 = .ok (.return_, 1) := by decide +kernel
theorem dX6_start_0 : decode cX6_start 0 = .ok (.iload_n 1, 1) := by decide +kernel
theorem dX6_start_1 : decode cX6_start 1 = .ok (.sipush 300, 3) := by decide +kernel
theorem dX6_start_4 : decode cX6_start 4 = .ok (.invokestatic 74, 3) := by decide +kernel
theorem dX6_start_7 : decode cX6_start 7 = .ok (.ifCond .eq 11, 3) := by decide +kernel
theorem dX6_start_10 : decode cX6_start 10 = .ok (.iload_n 2, 1) := by decide +kernel
theorem dX6_start_11 : decode cX6_start 11 = .ok (.iconst 3, 1) := by decide +kernel
theorem dX6_start_12 : decode cX6_start 12 = .ok (.invokestatic 74, 3) := by decide +kernel
theorem dX6_start_15 : decode cX6_start 15 = .ok (.ifCond .ne 11, 3) := by decide +kernel
theorem dX6_start_18 : decode cX6_start 18 = .ok (.new 78, 3) := by decide +kernel
theorem dX6_start_21 : decode cX6_start 21 = .ok (.dup, 1) := by decide +kernel
theorem dX6_start_22 : decode cX6_start 22 = .ok (.invokespecial 80, 3) := by decide +kernel
theorem dX6_start_25 : decode cX6_start 25 = .ok (.athrow, 1) := by decide +kernel
theorem dX6_start_26 : decode cX6_start 26 = .ok (.aload_n 0, 1) := by decide +kernel
theorem dX6_start_27 : decode cX6_start 27 = .ok (.getfield 49, 3) := by decide +kernel
theorem dX6_start_30 : decode cX6_start 30 = .ok (.bipush 60, 2) := by decide +kernel
theorem dX6_start_32 : decode cX6_start 32 = .ok (.if_icmp .lt 11, 3) := by decide +kernel
theorem dX6_start_35 : decode cX6_start 35 = .ok (.new 81, 3) := by decide +kernel
theorem dX6_start_38 : decode cX6_start 38 = .ok (.dup, 1) := by decide +kernel
theorem dX6_start_39 : decode cX6_start 39 = .ok (.invokespecial 83, 3) := by decide +kernel
theorem dX6_start_42 : decode cX6_start 42 = .ok (.athrow, 1) := by decide +kernel
theorem dX6_start_43 : decode cX6_start 43 = .ok (.aload_n 0, 1) := by decide +kernel
theorem dX6_start_44 : decode cX6_start 44 = .ok (.iload_n 1, 1) := by decide +kernel
theorem dX6_start_45 : decode cX6_start 45 = .ok (.iload_n 2, 1) := by decide +kernel
theorem dX6_start_46 : decode cX6_start 46 = .ok (.invokevirtual 84, 3) := by decide +kernel
theorem dX6_start_49 : decode cX6_start 49 = .ok (.getfield 88, 3) := by decide +kernel
theorem dX6_start_52 : decode cX6_start 52 = .ok (.ireturn, 1) := by decide +kernel
theorem dX6_send_0 : decode cX6_send 0 = .ok (.aload_n 0, 1) := by decide +kernel
theorem dX6_send_1 : decode cX6_send 1 = .ok (.iload_n 1, 1) := by decide +kernel
theorem dX6_send_2 : decode cX6_send 2 = .ok (.invokevirtual 91, 3) := by decide +kernel
theorem dX6_send_5 : decode cX6_send 5 = .ok (.astore_n 3, 1) := by decide +kernel
theorem dX6_send_6 : decode cX6_send 6 = .ok (.aload_n 3, 1) := by decide +kernel
theorem dX6_send_7 : decode cX6_send 7 = .ok (.ifnonnull 11, 3) := by decide +kernel
theorem dX6_send_10 : decode cX6_send 10 = .ok (.new 78, 3) := by decide +kernel
theorem dX6_send_13 : decode cX6_send 13 = .ok (.dup, 1) := by decide +kernel
theorem dX6_send_14 : decode cX6_send 14 = .ok (.invokespecial 80, 3) := by decide +kernel
theorem dX6_send_17 : decode cX6_send 17 = .ok (.athrow, 1) := by decide +kernel
theorem dX6_send_18 : decode cX6_send 18 = .ok (.aload_n 0, 1) := by decide +kernel
theorem dX6_send_19 : decode cX6_send 19 = .ok (.getfield 42, 3) := by decide +kernel
theorem dX6_send_22 : decode cX6_send 22 = .ok (.iconst 0, 1) := by decide +kernel
theorem dX6_send_23 : decode cX6_send 23 = .ok (.iload_n 2, 1) := by decide +kernel
theorem dX6_send_24 : decode cX6_send 24 = .ok (.invokevirtual 95, 3) := by decide +kernel
theorem dX6_send_27 : decode cX6_send 27 = .ok (.aload_n 0, 1) := by decide +kernel
theorem dX6_send_28 : decode cX6_send 28 = .ok (.aload_n 3, 1) := by decide +kernel
theorem dX6_send_29 : decode cX6_send 29 = .ok (.aload_n 0, 1) := by decide +kernel
theorem dX6_send_30 : decode cX6_send 30 = .ok (.getfield 42, 3) := by decide +kernel
theorem dX6_send_33 : decode cX6_send 33 = .ok (.invokevirtual 99, 3) := by decide +kernel
theorem dX6_send_36 : decode cX6_send 36 = .ok (.ireturn, 1) := by decide +kernel
theorem dX6_run_0 : decode cX6_run 0 = .ok (.iload_n 1, 1) := by decide +kernel
theorem dX6_run_1 : decode cX6_run 1 = .ok (.bipush 61, 2) := by decide +kernel
theorem dX6_run_3 : decode cX6_run 3 = .ok (.invokestatic 74, 3) := by decide +kernel
theorem dX6_run_6 : decode cX6_run 6 = .ok (.ifCond .ne 11, 3) := by decide +kernel
theorem dX6_run_9 : decode cX6_run 9 = .ok (.new 78, 3) := by decide +kernel
theorem dX6_run_12 : decode cX6_run 12 = .ok (.dup, 1) := by decide +kernel
theorem dX6_run_13 : decode cX6_run 13 = .ok (.invokespecial 80, 3) := by decide +kernel
theorem dX6_run_16 : decode cX6_run 16 = .ok (.athrow, 1) := by decide +kernel
theorem dX6_run_17 : decode cX6_run 17 = .ok (.iconst 0, 1) := by decide +kernel
theorem dX6_run_18 : decode cX6_run 18 = .ok (.istore_n 2, 1) := by decide +kernel
theorem dX6_run_19 : decode cX6_run 19 = .ok (.iload_n 2, 1) := by decide +kernel
theorem dX6_run_20 : decode cX6_run 20 = .ok (.iload_n 1, 1) := by decide +kernel
theorem dX6_run_21 : decode cX6_run 21 = .ok (.if_icmp .ge 25, 3) := by decide +kernel
theorem dX6_run_24 : decode cX6_run 24 = .ok (.aload_n 0, 1) := by decide +kernel
theorem dX6_run_25 : decode cX6_run 25 = .ok (.invokevirtual 103, 3) := by decide +kernel
theorem dX6_run_28 : decode cX6_run 28 = .ok (.astore_n 3, 1) := by decide +kernel
theorem dX6_run_29 : decode cX6_run 29 = .ok (.aload_n 3, 1) := by decide +kernel
theorem dX6_run_30 : decode cX6_run 30 = .ok (.ifnonnull 5, 3) := by decide +kernel
theorem dX6_run_33 : decode cX6_run 33 = .ok (.iload_n 2, 1) := by decide +kernel
theorem dX6_run_34 : decode cX6_run 34 = .ok (.ireturn, 1) := by decide +kernel
theorem dX6_run_35 : decode cX6_run 35 = .ok (.aload_n 0, 1) := by decide +kernel
theorem dX6_run_36 : decode cX6_run 36 = .ok (.aload_n 3, 1) := by decide +kernel
theorem dX6_run_37 : decode cX6_run 37 = .ok (.invokevirtual 107, 3) := by decide +kernel
theorem dX6_run_40 : decode cX6_run 40 = .ok (.iinc 2 1, 3) := by decide +kernel
theorem dX6_run_43 : decode cX6_run 43 = .ok (.goto (-24), 3) := by decide +kernel
theorem dX6_run_46 : decode cX6_run 46 = .ok (.iload_n 1, 1) := by decide +kernel
theorem dX6_run_47 : decode cX6_run 47 = .ok (.ireturn, 1) := by decide +kernel
theorem dX6_pass_0 : decode cX6_pass 0 = .ok (.iload_n 1, 1) := by decide +kernel
theorem dX6_pass_1 : decode cX6_pass 1 = .ok (.sipush 10001, 3) := by decide +kernel
theorem dX6_pass_4 : decode cX6_pass 4 = .ok (.invokestatic 74, 3) := by decide +kernel
theorem dX6_pass_7 : decode cX6_pass 7 = .ok (.ifCond .ne 11, 3) := by decide +kernel
theorem dX6_pass_10 : decode cX6_pass 10 = .ok (.new 78, 3) := by decide +kernel
theorem dX6_pass_13 : decode cX6_pass 13 = .ok (.dup, 1) := by decide +kernel
theorem dX6_pass_14 : decode cX6_pass 14 = .ok (.invokespecial 80, 3) := by decide +kernel
theorem dX6_pass_17 : decode cX6_pass 17 = .ok (.athrow, 1) := by decide +kernel
theorem dX6_pass_18 : decode cX6_pass 18 = .ok (.aload_n 0, 1) := by decide +kernel
theorem dX6_pass_19 : decode cX6_pass 19 = .ok (.dup, 1) := by decide +kernel
theorem dX6_pass_20 : decode cX6_pass 20 = .ok (.getfield 68, 3) := by decide +kernel
theorem dX6_pass_23 : decode cX6_pass 23 = .ok (.iload_n 1, 1) := by decide +kernel
theorem dX6_pass_24 : decode cX6_pass 24 = .ok (.iadd, 1) := by decide +kernel
theorem dX6_pass_25 : decode cX6_pass 25 = .ok (.putfield 68, 3) := by decide +kernel
theorem dX6_pass_28 : decode cX6_pass 28 = .ok (.iconst 0, 1) := by decide +kernel
theorem dX6_pass_29 : decode cX6_pass 29 = .ok (.istore_n 2, 1) := by decide +kernel
theorem dX6_pass_30 : decode cX6_pass 30 = .ok (.iload_n 2, 1) := by decide +kernel
theorem dX6_pass_31 : decode cX6_pass 31 = .ok (.aload_n 0, 1) := by decide +kernel
theorem dX6_pass_32 : decode cX6_pass 32 = .ok (.getfield 49, 3) := by decide +kernel
theorem dX6_pass_35 : decode cX6_pass 35 = .ok (.if_icmp .ge 36, 3) := by decide +kernel
theorem dX6_pass_38 : decode cX6_pass 38 = .ok (.aload_n 0, 1) := by decide +kernel
theorem dX6_pass_39 : decode cX6_pass 39 = .ok (.invokevirtual 111, 3) := by decide +kernel
theorem dX6_pass_42 : decode cX6_pass 42 = .ok (.astore_n 3, 1) := by decide +kernel
theorem dX6_pass_43 : decode cX6_pass 43 = .ok (.aload_n 3, 1) := by decide +kernel
theorem dX6_pass_44 : decode cX6_pass 44 = .ok (.ifnonnull 5, 3) := by decide +kernel
theorem dX6_pass_47 : decode cX6_pass 47 = .ok (.iload_n 2, 1) := by decide +kernel
theorem dX6_pass_48 : decode cX6_pass 48 = .ok (.ireturn, 1) := by decide +kernel
theorem dX6_pass_49 : decode cX6_pass 49 = .ok (.aload_n 3, 1) := by decide +kernel
theorem dX6_pass_50 : decode cX6_pass 50 = .ok (.getfield 114, 3) := by decide +kernel
theorem dX6_pass_53 : decode cX6_pass 53 = .ok (.invokevirtual 118, 3) := by decide +kernel
theorem dX6_pass_56 : decode cX6_pass 56 = .ok (.aload_n 0, 1) := by decide +kernel
theorem dX6_pass_57 : decode cX6_pass 57 = .ok (.aload_n 3, 1) := by decide +kernel
theorem dX6_pass_58 : decode cX6_pass 58 = .ok (.aload_n 3, 1) := by decide +kernel
theorem dX6_pass_59 : decode cX6_pass 59 = .ok (.getfield 123, 3) := by decide +kernel
theorem dX6_pass_62 : decode cX6_pass 62 = .ok (.invokevirtual 126, 3) := by decide +kernel
theorem dX6_pass_65 : decode cX6_pass 65 = .ok (.iinc 2 1, 3) := by decide +kernel
theorem dX6_pass_68 : decode cX6_pass 68 = .ok (.goto (-38), 3) := by decide +kernel
theorem dX6_pass_71 : decode cX6_pass 71 = .ok (.aload_n 0, 1) := by decide +kernel
theorem dX6_pass_72 : decode cX6_pass 72 = .ok (.getfield 49, 3) := by decide +kernel
theorem dX6_pass_75 : decode cX6_pass 75 = .ok (.ireturn, 1) := by decide +kernel
theorem dX6_out_0 : decode cX6_out 0 = .ok (.aload_n 0, 1) := by decide +kernel
theorem dX6_out_1 : decode cX6_out 1 = .ok (.getfield 35, 3) := by decide +kernel
theorem dX6_out_4 : decode cX6_out 4 = .ok (.iload_n 1, 1) := by decide +kernel
theorem dX6_out_5 : decode cX6_out 5 = .ok (.invokevirtual 130, 3) := by decide +kernel
theorem dX6_out_8 : decode cX6_out 8 = .ok (.ireturn, 1) := by decide +kernel
theorem dX6_process_0 : decode cX6_process 0 = .ok (.aload_n 0, 1) := by decide +kernel
theorem dX6_process_1 : decode cX6_process 1 = .ok (.iload_n 1, 1) := by decide +kernel
theorem dX6_process_2 : decode cX6_process 2 = .ok (.invokevirtual 91, 3) := by decide +kernel
theorem dX6_process_5 : decode cX6_process 5 = .ok (.astore_n 3, 1) := by decide +kernel
theorem dX6_process_6 : decode cX6_process 6 = .ok (.aload_n 3, 1) := by decide +kernel
theorem dX6_process_7 : decode cX6_process 7 = .ok (.ifnull 12, 3) := by decide +kernel
theorem dX6_process_10 : decode cX6_process 10 = .ok (.iload_n 2, 1) := by decide +kernel
theorem dX6_process_11 : decode cX6_process 11 = .ok (.bipush 11, 2) := by decide +kernel
theorem dX6_process_13 : decode cX6_process 13 = .ok (.invokestatic 74, 3) := by decide +kernel
theorem dX6_process_16 : decode cX6_process 16 = .ok (.ifCond .ne 11, 3) := by decide +kernel
theorem dX6_process_19 : decode cX6_process 19 = .ok (.new 78, 3) := by decide +kernel
theorem dX6_process_22 : decode cX6_process 22 = .ok (.dup, 1) := by decide +kernel
theorem dX6_process_23 : decode cX6_process 23 = .ok (.invokespecial 80, 3) := by decide +kernel
theorem dX6_process_26 : decode cX6_process 26 = .ok (.athrow, 1) := by decide +kernel
theorem dX6_process_27 : decode cX6_process 27 = .ok (.aload_n 3, 1) := by decide +kernel
theorem dX6_process_28 : decode cX6_process 28 = .ok (.iload_n 2, 1) := by decide +kernel
theorem dX6_process_29 : decode cX6_process 29 = .ok (.invokevirtual 134, 3) := by decide +kernel
theorem dX6_process_32 : decode cX6_process 32 = .ok (.ireturn, 1) := by decide +kernel
theorem dX6_register_0 : decode cX6_register 0 = .ok (.aload_n 0, 1) := by decide +kernel
theorem dX6_register_1 : decode cX6_register 1 = .ok (.iload_n 1, 1) := by decide +kernel
theorem dX6_register_2 : decode cX6_register 2 = .ok (.invokevirtual 91, 3) := by decide +kernel
theorem dX6_register_5 : decode cX6_register 5 = .ok (.astore 4, 2) := by decide +kernel
theorem dX6_register_7 : decode cX6_register 7 = .ok (.aload 4, 2) := by decide +kernel
theorem dX6_register_9 : decode cX6_register 9 = .ok (.ifnull 12, 3) := by decide +kernel
theorem dX6_register_12 : decode cX6_register 12 = .ok (.iload_n 2, 1) := by decide +kernel
theorem dX6_register_13 : decode cX6_register 13 = .ok (.bipush 9, 2) := by decide +kernel
theorem dX6_register_15 : decode cX6_register 15 = .ok (.invokestatic 74, 3) := by decide +kernel
theorem dX6_register_18 : decode cX6_register 18 = .ok (.ifCond .ne 11, 3) := by decide +kernel
theorem dX6_register_21 : decode cX6_register 21 = .ok (.new 78, 3) := by decide +kernel
theorem dX6_register_24 : decode cX6_register 24 = .ok (.dup, 1) := by decide +kernel
theorem dX6_register_25 : decode cX6_register 25 = .ok (.invokespecial 80, 3) := by decide +kernel
theorem dX6_register_28 : decode cX6_register 28 = .ok (.athrow, 1) := by decide +kernel
theorem dX6_register_29 : decode cX6_register 29 = .ok (.iload_n 2, 1) := by decide +kernel
theorem dX6_register_30 : decode cX6_register 30 = .ok (.bipush 8, 2) := by decide +kernel
theorem dX6_register_32 : decode cX6_register 32 = .ok (.if_icmp .ge 14, 3) := by decide +kernel
theorem dX6_register_35 : decode cX6_register 35 = .ok (.aload 4, 2) := by decide +kernel
theorem dX6_register_37 : decode cX6_register 37 = .ok (.iload_n 2, 1) := by decide +kernel
theorem dX6_register_38 : decode cX6_register 38 = .ok (.invokevirtual 137, 3) := by decide +kernel
theorem dX6_register_41 : decode cX6_register 41 = .ok (.iload_n 3, 1) := by decide +kernel
theorem dX6_register_42 : decode cX6_register 42 = .ok (.invokevirtual 141, 3) := by decide +kernel
theorem dX6_register_45 : decode cX6_register 45 = .ok (.ireturn, 1) := by decide +kernel
theorem dX6_register_46 : decode cX6_register 46 = .ok (.aload 4, 2) := by decide +kernel
theorem dX6_register_48 : decode cX6_register 48 = .ok (.getfield 142, 3) := by decide +kernel
theorem dX6_register_51 : decode cX6_register 51 = .ok (.iconst 2, 1) := by decide +kernel
theorem dX6_register_52 : decode cX6_register 52 = .ok (.if_icmp .ne 15, 3) := by decide +kernel
theorem dX6_register_55 : decode cX6_register 55 = .ok (.aload 4, 2) := by decide +kernel
theorem dX6_register_57 : decode cX6_register 57 = .ok (.getfield 145, 3) := by decide +kernel
theorem dX6_register_60 : decode cX6_register 60 = .ok (.iload_n 3, 1) := by decide +kernel
theorem dX6_register_61 : decode cX6_register 61 = .ok (.invokevirtual 141, 3) := by decide +kernel
theorem dX6_register_64 : decode cX6_register 64 = .ok (.goto 4, 3) := by decide +kernel
theorem dX6_register_67 : decode cX6_register 67 = .ok (.iconst (-1), 1) := by decide +kernel
theorem dX6_register_68 : decode cX6_register 68 = .ok (.ireturn, 1) := by decide +kernel
theorem dX6_message_0 : decode cX6_message 0 = .ok (.aload_n 0, 1) := by decide +kernel
theorem dX6_message_1 : decode cX6_message 1 = .ok (.iload_n 1, 1) := by decide +kernel
theorem dX6_message_2 : decode cX6_message 2 = .ok (.invokevirtual 91, 3) := by decide +kernel
theorem dX6_message_5 : decode cX6_message 5 = .ok (.astore 4, 2) := by decide +kernel
theorem dX6_message_7 : decode cX6_message 7 = .ok (.aload 4, 2) := by decide +kernel
theorem dX6_message_9 : decode cX6_message 9 = .ok (.ifnonnull 11, 3) := by decide +kernel
theorem dX6_message_12 : decode cX6_message 12 = .ok (.new 78, 3) := by decide +kernel
theorem dX6_message_15 : decode cX6_message 15 = .ok (.dup, 1) := by decide +kernel
theorem dX6_message_16 : decode cX6_message 16 = .ok (.invokespecial 80, 3) := by decide +kernel
theorem dX6_message_19 : decode cX6_message 19 = .ok (.athrow, 1) := by decide +kernel
theorem dX6_message_20 : decode cX6_message 20 = .ok (.aload 4, 2) := by decide +kernel
theorem dX6_message_22 : decode cX6_message 22 = .ok (.getfield 114, 3) := by decide +kernel
theorem dX6_message_25 : decode cX6_message 25 = .ok (.iload_n 2, 1) := by decide +kernel
theorem dX6_message_26 : decode cX6_message 26 = .ok (.invokevirtual 148, 3) := by decide +kernel
theorem dX6_message_29 : decode cX6_message 29 = .ok (.astore 5, 2) := by decide +kernel
theorem dX6_message_31 : decode cX6_message 31 = .ok (.aload 5, 2) := by decide +kernel
theorem dX6_message_33 : decode cX6_message 33 = .ok (.ifnonnull 7, 3) := by decide +kernel
theorem dX6_message_36 : decode cX6_message 36 = .ok (.iconst (-1), 1) := by decide +kernel
theorem dX6_message_37 : decode cX6_message 37 = .ok (.goto 9, 3) := by decide +kernel
theorem dX6_message_40 : decode cX6_message 40 = .ok (.aload 5, 2) := by decide +kernel
theorem dX6_message_42 : decode cX6_message 42 = .ok (.iload_n 3, 1) := by decide +kernel
theorem dX6_message_43 : decode cX6_message 43 = .ok (.invokevirtual 141, 3) := by decide +kernel
theorem dX6_message_46 : decode cX6_message 46 = .ok (.ireturn, 1) := by decide +kernel
theorem dX6_total_0 : decode cX6_total 0 = .ok (.iload_n 1, 1) := by decide +kernel
theorem dX6_total_1 : decode cX6_total 1 = .ok (.tableswitch 107 0 8 #[51, 56, 66, 71, 76, 81, 86, 94, 102], 51) := by decide +kernel
theorem dX6_total_52 : decode cX6_total 52 = .ok (.aload_n 0, 1) := by decide +kernel
theorem dX6_total_53 : decode cX6_total 53 = .ok (.getfield 49, 3) := by decide +kernel
theorem dX6_total_56 : decode cX6_total 56 = .ok (.ireturn, 1) := by decide +kernel
theorem dX6_total_57 : decode cX6_total 57 = .ok (.aload_n 0, 1) := by decide +kernel
theorem dX6_total_58 : decode cX6_total 58 = .ok (.getfield 49, 3) := by decide +kernel
theorem dX6_total_61 : decode cX6_total 61 = .ok (.aload_n 0, 1) := by decide +kernel
theorem dX6_total_62 : decode cX6_total 62 = .ok (.getfield 53, 3) := by decide +kernel
theorem dX6_total_65 : decode cX6_total 65 = .ok (.isub, 1) := by decide +kernel
theorem dX6_total_66 : decode cX6_total 66 = .ok (.ireturn, 1) := by decide +kernel
theorem dX6_total_67 : decode cX6_total 67 = .ok (.aload_n 0, 1) := by decide +kernel
theorem dX6_total_68 : decode cX6_total 68 = .ok (.invokevirtual 151, 3) := by decide +kernel
theorem dX6_total_71 : decode cX6_total 71 = .ok (.ireturn, 1) := by decide +kernel
theorem dX6_total_72 : decode cX6_total 72 = .ok (.aload_n 0, 1) := by decide +kernel
theorem dX6_total_73 : decode cX6_total 73 = .ok (.getfield 62, 3) := by decide +kernel
theorem dX6_total_76 : decode cX6_total 76 = .ok (.ireturn, 1) := by decide +kernel
theorem dX6_total_77 : decode cX6_total 77 = .ok (.aload_n 0, 1) := by decide +kernel
theorem dX6_total_78 : decode cX6_total 78 = .ok (.getfield 65, 3) := by decide +kernel
theorem dX6_total_81 : decode cX6_total 81 = .ok (.ireturn, 1) := by decide +kernel
theorem dX6_total_82 : decode cX6_total 82 = .ok (.aload_n 0, 1) := by decide +kernel
theorem dX6_total_83 : decode cX6_total 83 = .ok (.getfield 68, 3) := by decide +kernel
theorem dX6_total_86 : decode cX6_total 86 = .ok (.ireturn, 1) := by decide +kernel
theorem dX6_total_87 : decode cX6_total 87 = .ok (.aload_n 0, 1) := by decide +kernel
theorem dX6_total_88 : decode cX6_total 88 = .ok (.getfield 35, 3) := by decide +kernel
theorem dX6_total_91 : decode cX6_total 91 = .ok (.getfield 155, 3) := by decide +kernel
theorem dX6_total_94 : decode cX6_total 94 = .ok (.ireturn, 1) := by decide +kernel
theorem dX6_total_95 : decode cX6_total 95 = .ok (.aload_n 0, 1) := by decide +kernel
theorem dX6_total_96 : decode cX6_total 96 = .ok (.getfield 28, 3) := by decide +kernel
theorem dX6_total_99 : decode cX6_total 99 = .ok (.getfield 158, 3) := by decide +kernel
theorem dX6_total_102 : decode cX6_total 102 = .ok (.ireturn, 1) := by decide +kernel
theorem dX6_total_103 : decode cX6_total 103 = .ok (.aload_n 0, 1) := by decide +kernel
theorem dX6_total_104 : decode cX6_total 104 = .ok (.getfield 71, 3) := by decide +kernel
theorem dX6_total_107 : decode cX6_total 107 = .ok (.ireturn, 1) := by decide +kernel
theorem dX6_total_108 : decode cX6_total 108 = .ok (.new 78, 3) := by decide +kernel
theorem dX6_total_111 : decode cX6_total 111 = .ok (.dup, 1) := by decide +kernel
theorem dX6_total_112 : decode cX6_total 112 = .ok (.invokespecial 80, 3) := by decide +kernel
theorem dX6_total_115 : decode cX6_total 115 = .ok (.athrow, 1) := by decide +kernel
theorem dX6_isBelow_0 : decode cX6_isBelow 0 = .ok (.iload_n 0, 1) := by decide +kernel
theorem dX6_isBelow_1 : decode cX6_isBelow 1 = .ok (.ifCond .lt 12, 3) := by decide +kernel
theorem dX6_isBelow_4 : decode cX6_isBelow 4 = .ok (.iload_n 0, 1) := by decide +kernel
theorem dX6_isBelow_5 : decode cX6_isBelow 5 = .ok (.iload_n 1, 1) := by decide +kernel
theorem dX6_isBelow_6 : decode cX6_isBelow 6 = .ok (.if_icmp .ge 7, 3) := by decide +kernel
theorem dX6_isBelow_9 : decode cX6_isBelow 9 = .ok (.iconst 1, 1) := by decide +kernel
theorem dX6_isBelow_10 : decode cX6_isBelow 10 = .ok (.goto 4, 3) := by decide +kernel
theorem dX6_isBelow_13 : decode cX6_isBelow 13 = .ok (.iconst 0, 1) := by decide +kernel
theorem dX6_isBelow_14 : decode cX6_isBelow 14 = .ok (.ireturn, 1) := by decide +kernel
theorem dX6_place_0 : decode cX6_place 0 = .ok (.iload_n 0, 1) := by decide +kernel
theorem dX6_place_1 : decode cX6_place 1 = .ok (.sipush 300, 3) := by decide +kernel
theorem dX6_place_4 : decode cX6_place 4 = .ok (.invokestatic 161, 3) := by decide +kernel
theorem dX6_place_7 : decode cX6_place 7 = .ok (.ireturn, 1) := by decide +kernel
theorem dX6_find_0 : decode cX6_find 0 = .ok (.iload_n 1, 1) := by decide +kernel
theorem dX6_find_1 : decode cX6_find 1 = .ok (.iconst 1, 1) := by decide +kernel
theorem dX6_find_2 : decode cX6_find 2 = .ok (.if_icmp .lt 22, 3) := by decide +kernel
theorem dX6_find_5 : decode cX6_find 5 = .ok (.iload_n 1, 1) := by decide +kernel
theorem dX6_find_6 : decode cX6_find 6 = .ok (.aload_n 0, 1) := by decide +kernel
theorem dX6_find_7 : decode cX6_find 7 = .ok (.getfield 49, 3) := by decide +kernel
theorem dX6_find_10 : decode cX6_find 10 = .ok (.if_icmp .gt 14, 3) := by decide +kernel
theorem dX6_find_13 : decode cX6_find 13 = .ok (.aload_n 0, 1) := by decide +kernel
theorem dX6_find_14 : decode cX6_find 14 = .ok (.getfield 15, 3) := by decide +kernel
theorem dX6_find_17 : decode cX6_find 17 = .ok (.iload_n 1, 1) := by decide +kernel
theorem dX6_find_18 : decode cX6_find 18 = .ok (.iconst 1, 1) := by decide +kernel
theorem dX6_find_19 : decode cX6_find 19 = .ok (.isub, 1) := by decide +kernel
theorem dX6_find_20 : decode cX6_find 20 = .ok (.aaload, 1) := by decide +kernel
theorem dX6_find_21 : decode cX6_find 21 = .ok (.goto 4, 3) := by decide +kernel
theorem dX6_find_24 : decode cX6_find 24 = .ok (.aconst_null, 1) := by decide +kernel
theorem dX6_find_25 : decode cX6_find 25 = .ok (.areturn, 1) := by decide +kernel
theorem dX6_findByTerm_0 : decode cX6_findByTerm 0 = .ok (.aload_n 1, 1) := by decide +kernel
theorem dX6_findByTerm_1 : decode cX6_findByTerm 1 = .ok (.invokevirtual 167, 3) := by decide +kernel
theorem dX6_findByTerm_4 : decode cX6_findByTerm 4 = .ok (.iconst 2, 1) := by decide +kernel
theorem dX6_findByTerm_5 : decode cX6_findByTerm 5 = .ok (.if_icmp .ne 14, 3) := by decide +kernel
theorem dX6_findByTerm_8 : decode cX6_findByTerm 8 = .ok (.aload_n 0, 1) := by decide +kernel
theorem dX6_findByTerm_9 : decode cX6_findByTerm 9 = .ok (.aload_n 1, 1) := by decide +kernel
theorem dX6_findByTerm_10 : decode cX6_findByTerm 10 = .ok (.invokevirtual 170, 3) := by decide +kernel
theorem dX6_findByTerm_13 : decode cX6_findByTerm 13 = .ok (.invokevirtual 91, 3) := by decide +kernel
theorem dX6_findByTerm_16 : decode cX6_findByTerm 16 = .ok (.goto 4, 3) := by decide +kernel
theorem dX6_findByTerm_19 : decode cX6_findByTerm 19 = .ok (.aconst_null, 1) := by decide +kernel
theorem dX6_findByTerm_20 : decode cX6_findByTerm 20 = .ok (.areturn, 1) := by decide +kernel
theorem dX6_readyOnes_0 : decode cX6_readyOnes 0 = .ok (.iconst 0, 1) := by decide +kernel
theorem dX6_readyOnes_1 : decode cX6_readyOnes 1 = .ok (.istore_n 1, 1) := by decide +kernel
theorem dX6_readyOnes_2 : decode cX6_readyOnes 2 = .ok (.iconst 0, 1) := by decide +kernel
theorem dX6_readyOnes_3 : decode cX6_readyOnes 3 = .ok (.istore_n 2, 1) := by decide +kernel
theorem dX6_readyOnes_4 : decode cX6_readyOnes 4 = .ok (.iload_n 2, 1) := by decide +kernel
theorem dX6_readyOnes_5 : decode cX6_readyOnes 5 = .ok (.aload_n 0, 1) := by decide +kernel
theorem dX6_readyOnes_6 : decode cX6_readyOnes 6 = .ok (.getfield 49, 3) := by decide +kernel
theorem dX6_readyOnes_9 : decode cX6_readyOnes 9 = .ok (.if_icmp .ge 24, 3) := by decide +kernel
theorem dX6_readyOnes_12 : decode cX6_readyOnes 12 = .ok (.aload_n 0, 1) := by decide +kernel
theorem dX6_readyOnes_13 : decode cX6_readyOnes 13 = .ok (.getfield 15, 3) := by decide +kernel
theorem dX6_readyOnes_16 : decode cX6_readyOnes 16 = .ok (.iload_n 2, 1) := by decide +kernel
theorem dX6_readyOnes_17 : decode cX6_readyOnes 17 = .ok (.aaload, 1) := by decide +kernel
theorem dX6_readyOnes_18 : decode cX6_readyOnes 18 = .ok (.getfield 142, 3) := by decide +kernel
theorem dX6_readyOnes_21 : decode cX6_readyOnes 21 = .ok (.ifCond .ne 6, 3) := by decide +kernel
theorem dX6_readyOnes_24 : decode cX6_readyOnes 24 = .ok (.iinc 1 1, 3) := by decide +kernel
theorem dX6_readyOnes_27 : decode cX6_readyOnes 27 = .ok (.iinc 2 1, 3) := by decide +kernel
theorem dX6_readyOnes_30 : decode cX6_readyOnes 30 = .ok (.goto (-26), 3) := by decide +kernel
theorem dX6_readyOnes_33 : decode cX6_readyOnes 33 = .ok (.iload_n 1, 1) := by decide +kernel
theorem dX6_readyOnes_34 : decode cX6_readyOnes 34 = .ok (.ireturn, 1) := by decide +kernel
theorem dX6_beginProcess_0 : decode cX6_beginProcess 0 = .ok (.new 13, 3) := by decide +kernel
theorem dX6_beginProcess_3 : decode cX6_beginProcess 3 = .ok (.dup, 1) := by decide +kernel
theorem dX6_beginProcess_4 : decode cX6_beginProcess 4 = .ok (.aload_n 0, 1) := by decide +kernel
theorem dX6_beginProcess_5 : decode cX6_beginProcess 5 = .ok (.getfield 49, 3) := by decide +kernel
theorem dX6_beginProcess_8 : decode cX6_beginProcess 8 = .ok (.iconst 1, 1) := by decide +kernel
theorem dX6_beginProcess_9 : decode cX6_beginProcess 9 = .ok (.iadd, 1) := by decide +kernel
theorem dX6_beginProcess_10 : decode cX6_beginProcess 10 = .ok (.iload_n 2, 1) := by decide +kernel
theorem dX6_beginProcess_11 : decode cX6_beginProcess 11 = .ok (.invokespecial 173, 3) := by decide +kernel
theorem dX6_beginProcess_14 : decode cX6_beginProcess 14 = .ok (.astore_n 3, 1) := by decide +kernel
theorem dX6_beginProcess_15 : decode cX6_beginProcess 15 = .ok (.aload_n 0, 1) := by decide +kernel
theorem dX6_beginProcess_16 : decode cX6_beginProcess 16 = .ok (.getfield 15, 3) := by decide +kernel
theorem dX6_beginProcess_19 : decode cX6_beginProcess 19 = .ok (.aload_n 0, 1) := by decide +kernel
theorem dX6_beginProcess_20 : decode cX6_beginProcess 20 = .ok (.getfield 49, 3) := by decide +kernel
theorem dX6_beginProcess_23 : decode cX6_beginProcess 23 = .ok (.aload_n 3, 1) := by decide +kernel
theorem dX6_beginProcess_24 : decode cX6_beginProcess 24 = .ok (.aastore, 1) := by decide +kernel
theorem dX6_beginProcess_25 : decode cX6_beginProcess 25 = .ok (.aload_n 0, 1) := by decide +kernel
theorem dX6_beginProcess_26 : decode cX6_beginProcess 26 = .ok (.dup, 1) := by decide +kernel
theorem dX6_beginProcess_27 : decode cX6_beginProcess 27 = .ok (.getfield 49, 3) := by decide +kernel
theorem dX6_beginProcess_30 : decode cX6_beginProcess 30 = .ok (.iconst 1, 1) := by decide +kernel
theorem dX6_beginProcess_31 : decode cX6_beginProcess 31 = .ok (.iadd, 1) := by decide +kernel
theorem dX6_beginProcess_32 : decode cX6_beginProcess 32 = .ok (.putfield 49, 3) := by decide +kernel
theorem dX6_beginProcess_35 : decode cX6_beginProcess 35 = .ok (.aload_n 0, 1) := by decide +kernel
theorem dX6_beginProcess_36 : decode cX6_beginProcess 36 = .ok (.aload_n 3, 1) := by decide +kernel
theorem dX6_beginProcess_37 : decode cX6_beginProcess 37 = .ok (.iload_n 1, 1) := by decide +kernel
theorem dX6_beginProcess_38 : decode cX6_beginProcess 38 = .ok (.invokevirtual 126, 3) := by decide +kernel
theorem dX6_beginProcess_41 : decode cX6_beginProcess 41 = .ok (.aload_n 3, 1) := by decide +kernel
theorem dX6_beginProcess_42 : decode cX6_beginProcess 42 = .ok (.areturn, 1) := by decide +kernel
theorem dX6_makeReady_0 : decode cX6_makeReady 0 = .ok (.aload_n 1, 1) := by decide +kernel
theorem dX6_makeReady_1 : decode cX6_makeReady 1 = .ok (.iconst 0, 1) := by decide +kernel
theorem dX6_makeReady_2 : decode cX6_makeReady 2 = .ok (.putfield 142, 3) := by decide +kernel
theorem dX6_makeReady_5 : decode cX6_makeReady 5 = .ok (.aload_n 1, 1) := by decide +kernel
theorem dX6_makeReady_6 : decode cX6_makeReady 6 = .ok (.iload_n 2, 1) := by decide +kernel
theorem dX6_makeReady_7 : decode cX6_makeReady 7 = .ok (.putfield 175, 3) := by decide +kernel
theorem dX6_makeReady_10 : decode cX6_makeReady 10 = .ok (.aload_n 1, 1) := by decide +kernel
theorem dX6_makeReady_11 : decode cX6_makeReady 11 = .ok (.ldc2_w 178, 3) := by decide +kernel
theorem dX6_makeReady_14 : decode cX6_makeReady 14 = .ok (.putfield 180, 3) := by decide +kernel
theorem dX6_makeReady_17 : decode cX6_makeReady 17 = .ok (.aload_n 0, 1) := by decide +kernel
theorem dX6_makeReady_18 : decode cX6_makeReady 18 = .ok (.aload_n 1, 1) := by decide +kernel
theorem dX6_makeReady_19 : decode cX6_makeReady 19 = .ok (.invokevirtual 184, 3) := by decide +kernel
theorem dX6_makeReady_22 : decode cX6_makeReady 22 = .ok (.return_, 1) := by decide +kernel
theorem dX6_takeLastTurn_0 : decode cX6_takeLastTurn 0 = .ok (.aload_n 1, 1) := by decide +kernel
theorem dX6_takeLastTurn_1 : decode cX6_takeLastTurn 1 = .ok (.aload_n 0, 1) := by decide +kernel
theorem dX6_takeLastTurn_2 : decode cX6_takeLastTurn 2 = .ok (.getfield 59, 3) := by decide +kernel
theorem dX6_takeLastTurn_5 : decode cX6_takeLastTurn 5 = .ok (.putfield 187, 3) := by decide +kernel
theorem dX6_takeLastTurn_8 : decode cX6_takeLastTurn 8 = .ok (.aload_n 0, 1) := by decide +kernel
theorem dX6_takeLastTurn_9 : decode cX6_takeLastTurn 9 = .ok (.dup, 1) := by decide +kernel
theorem dX6_takeLastTurn_10 : decode cX6_takeLastTurn 10 = .ok (.getfield 59, 3) := by decide +kernel
theorem dX6_takeLastTurn_13 : decode cX6_takeLastTurn 13 = .ok (.iconst 1, 1) := by decide +kernel
theorem dX6_takeLastTurn_14 : decode cX6_takeLastTurn 14 = .ok (.iadd, 1) := by decide +kernel
theorem dX6_takeLastTurn_15 : decode cX6_takeLastTurn 15 = .ok (.putfield 59, 3) := by decide +kernel
theorem dX6_takeLastTurn_18 : decode cX6_takeLastTurn 18 = .ok (.return_, 1) := by decide +kernel
theorem dX6_nextInTurn_0 : decode cX6_nextInTurn 0 = .ok (.aload_n 0, 1) := by decide +kernel
theorem dX6_nextInTurn_1 : decode cX6_nextInTurn 1 = .ok (.getfield 62, 3) := by decide +kernel
theorem dX6_nextInTurn_4 : decode cX6_nextInTurn 4 = .ok (.iconst 1, 1) := by decide +kernel
theorem dX6_nextInTurn_5 : decode cX6_nextInTurn 5 = .ok (.iadd, 1) := by decide +kernel
theorem dX6_nextInTurn_6 : decode cX6_nextInTurn 6 = .ok (.bipush 8, 2) := by decide +kernel
theorem dX6_nextInTurn_8 : decode cX6_nextInTurn 8 = .ok (.irem, 1) := by decide +kernel
theorem dX6_nextInTurn_9 : decode cX6_nextInTurn 9 = .ok (.ifCond .ne 7, 3) := by decide +kernel
theorem dX6_nextInTurn_12 : decode cX6_nextInTurn 12 = .ok (.iconst 1, 1) := by decide +kernel
theorem dX6_nextInTurn_13 : decode cX6_nextInTurn 13 = .ok (.goto 4, 3) := by decide +kernel
theorem dX6_nextInTurn_16 : decode cX6_nextInTurn 16 = .ok (.iconst 0, 1) := by decide +kernel
theorem dX6_nextInTurn_17 : decode cX6_nextInTurn 17 = .ok (.istore_n 1, 1) := by decide +kernel
theorem dX6_nextInTurn_18 : decode cX6_nextInTurn 18 = .ok (.aconst_null, 1) := by decide +kernel
theorem dX6_nextInTurn_19 : decode cX6_nextInTurn 19 = .ok (.astore_n 2, 1) := by decide +kernel
theorem dX6_nextInTurn_20 : decode cX6_nextInTurn 20 = .ok (.iconst 0, 1) := by decide +kernel
theorem dX6_nextInTurn_21 : decode cX6_nextInTurn 21 = .ok (.istore_n 3, 1) := by decide +kernel
theorem dX6_nextInTurn_22 : decode cX6_nextInTurn 22 = .ok (.iload_n 3, 1) := by decide +kernel
theorem dX6_nextInTurn_23 : decode cX6_nextInTurn 23 = .ok (.aload_n 0, 1) := by decide +kernel
theorem dX6_nextInTurn_24 : decode cX6_nextInTurn 24 = .ok (.getfield 49, 3) := by decide +kernel
theorem dX6_nextInTurn_27 : decode cX6_nextInTurn 27 = .ok (.if_icmp .ge 42, 3) := by decide +kernel
theorem dX6_nextInTurn_30 : decode cX6_nextInTurn 30 = .ok (.aload_n 0, 1) := by decide +kernel
theorem dX6_nextInTurn_31 : decode cX6_nextInTurn 31 = .ok (.getfield 15, 3) := by decide +kernel
theorem dX6_nextInTurn_34 : decode cX6_nextInTurn 34 = .ok (.iload_n 3, 1) := by decide +kernel
theorem dX6_nextInTurn_35 : decode cX6_nextInTurn 35 = .ok (.aaload, 1) := by decide +kernel
theorem dX6_nextInTurn_36 : decode cX6_nextInTurn 36 = .ok (.astore 4, 2) := by decide +kernel
theorem dX6_nextInTurn_38 : decode cX6_nextInTurn 38 = .ok (.aload 4, 2) := by decide +kernel
theorem dX6_nextInTurn_40 : decode cX6_nextInTurn 40 = .ok (.getfield 142, 3) := by decide +kernel
theorem dX6_nextInTurn_43 : decode cX6_nextInTurn 43 = .ok (.ifCond .ne 20, 3) := by decide +kernel
theorem dX6_nextInTurn_46 : decode cX6_nextInTurn 46 = .ok (.aload_n 2, 1) := by decide +kernel
theorem dX6_nextInTurn_47 : decode cX6_nextInTurn 47 = .ok (.ifnull 13, 3) := by decide +kernel
theorem dX6_nextInTurn_50 : decode cX6_nextInTurn 50 = .ok (.aload 4, 2) := by decide +kernel
theorem dX6_nextInTurn_52 : decode cX6_nextInTurn 52 = .ok (.aload_n 2, 1) := by decide +kernel
theorem dX6_nextInTurn_53 : decode cX6_nextInTurn 53 = .ok (.iload_n 1, 1) := by decide +kernel
theorem dX6_nextInTurn_54 : decode cX6_nextInTurn 54 = .ok (.invokevirtual 190, 3) := by decide +kernel
theorem dX6_nextInTurn_57 : decode cX6_nextInTurn 57 = .ok (.ifCond .eq 6, 3) := by decide +kernel
theorem dX6_nextInTurn_60 : decode cX6_nextInTurn 60 = .ok (.aload 4, 2) := by decide +kernel
theorem dX6_nextInTurn_62 : decode cX6_nextInTurn 62 = .ok (.astore_n 2, 1) := by decide +kernel
theorem dX6_nextInTurn_63 : decode cX6_nextInTurn 63 = .ok (.iinc 3 1, 3) := by decide +kernel
theorem dX6_nextInTurn_66 : decode cX6_nextInTurn 66 = .ok (.goto (-44), 3) := by decide +kernel
theorem dX6_nextInTurn_69 : decode cX6_nextInTurn 69 = .ok (.aload_n 2, 1) := by decide +kernel
theorem dX6_nextInTurn_70 : decode cX6_nextInTurn 70 = .ok (.areturn, 1) := by decide +kernel
theorem dX6_firstDue_0 : decode cX6_firstDue 0 = .ok (.aconst_null, 1) := by decide +kernel
theorem dX6_firstDue_1 : decode cX6_firstDue 1 = .ok (.astore_n 1, 1) := by decide +kernel
theorem dX6_firstDue_2 : decode cX6_firstDue 2 = .ok (.iconst 0, 1) := by decide +kernel
theorem dX6_firstDue_3 : decode cX6_firstDue 3 = .ok (.istore_n 2, 1) := by decide +kernel
theorem dX6_firstDue_4 : decode cX6_firstDue 4 = .ok (.iload_n 2, 1) := by decide +kernel
theorem dX6_firstDue_5 : decode cX6_firstDue 5 = .ok (.aload_n 0, 1) := by decide +kernel
theorem dX6_firstDue_6 : decode cX6_firstDue 6 = .ok (.getfield 49, 3) := by decide +kernel
theorem dX6_firstDue_9 : decode cX6_firstDue 9 = .ok (.if_icmp .ge 67, 3) := by decide +kernel
theorem dX6_firstDue_12 : decode cX6_firstDue 12 = .ok (.aload_n 0, 1) := by decide +kernel
theorem dX6_firstDue_13 : decode cX6_firstDue 13 = .ok (.getfield 15, 3) := by decide +kernel
theorem dX6_firstDue_16 : decode cX6_firstDue 16 = .ok (.iload_n 2, 1) := by decide +kernel
theorem dX6_firstDue_17 : decode cX6_firstDue 17 = .ok (.aaload, 1) := by decide +kernel
theorem dX6_firstDue_18 : decode cX6_firstDue 18 = .ok (.astore_n 3, 1) := by decide +kernel
theorem dX6_firstDue_19 : decode cX6_firstDue 19 = .ok (.aload_n 3, 1) := by decide +kernel
theorem dX6_firstDue_20 : decode cX6_firstDue 20 = .ok (.getfield 142, 3) := by decide +kernel
theorem dX6_firstDue_23 : decode cX6_firstDue 23 = .ok (.iconst 1, 1) := by decide +kernel
theorem dX6_firstDue_24 : decode cX6_firstDue 24 = .ok (.if_icmp .ne 20, 3) := by decide +kernel
theorem dX6_firstDue_27 : decode cX6_firstDue 27 = .ok (.aload_n 3, 1) := by decide +kernel
theorem dX6_firstDue_28 : decode cX6_firstDue 28 = .ok (.getfield 180, 3) := by decide +kernel
theorem dX6_firstDue_31 : decode cX6_firstDue 31 = .ok (.aload_n 0, 1) := by decide +kernel
theorem dX6_firstDue_32 : decode cX6_firstDue 32 = .ok (.getfield 68, 3) := by decide +kernel
theorem dX6_firstDue_35 : decode cX6_firstDue 35 = .ok (.i2l, 1) := by decide +kernel
theorem dX6_firstDue_36 : decode cX6_firstDue 36 = .ok (.lcmp, 1) := by decide +kernel
theorem dX6_firstDue_37 : decode cX6_firstDue 37 = .ok (.ifCond .gt 7, 3) := by decide +kernel
theorem dX6_firstDue_40 : decode cX6_firstDue 40 = .ok (.iconst 1, 1) := by decide +kernel
theorem dX6_firstDue_41 : decode cX6_firstDue 41 = .ok (.goto 4, 3) := by decide +kernel
theorem dX6_firstDue_44 : decode cX6_firstDue 44 = .ok (.iconst 0, 1) := by decide +kernel
theorem dX6_firstDue_45 : decode cX6_firstDue 45 = .ok (.istore 4, 2) := by decide +kernel
theorem dX6_firstDue_47 : decode cX6_firstDue 47 = .ok (.iload 4, 2) := by decide +kernel
theorem dX6_firstDue_49 : decode cX6_firstDue 49 = .ok (.ifCond .eq 21, 3) := by decide +kernel
theorem dX6_firstDue_52 : decode cX6_firstDue 52 = .ok (.aload_n 1, 1) := by decide +kernel
theorem dX6_firstDue_53 : decode cX6_firstDue 53 = .ok (.ifnull 15, 3) := by decide +kernel
theorem dX6_firstDue_56 : decode cX6_firstDue 56 = .ok (.aload_n 3, 1) := by decide +kernel
theorem dX6_firstDue_57 : decode cX6_firstDue 57 = .ok (.getfield 180, 3) := by decide +kernel
theorem dX6_firstDue_60 : decode cX6_firstDue 60 = .ok (.aload_n 1, 1) := by decide +kernel
theorem dX6_firstDue_61 : decode cX6_firstDue 61 = .ok (.getfield 180, 3) := by decide +kernel
theorem dX6_firstDue_64 : decode cX6_firstDue 64 = .ok (.lcmp, 1) := by decide +kernel
theorem dX6_firstDue_65 : decode cX6_firstDue 65 = .ok (.ifCond .ge 5, 3) := by decide +kernel
theorem dX6_firstDue_68 : decode cX6_firstDue 68 = .ok (.aload_n 3, 1) := by decide +kernel
theorem dX6_firstDue_69 : decode cX6_firstDue 69 = .ok (.astore_n 1, 1) := by decide +kernel
theorem dX6_firstDue_70 : decode cX6_firstDue 70 = .ok (.iinc 2 1, 3) := by decide +kernel
theorem dX6_firstDue_73 : decode cX6_firstDue 73 = .ok (.goto (-69), 3) := by decide +kernel
theorem dX6_firstDue_76 : decode cX6_firstDue 76 = .ok (.aload_n 1, 1) := by decide +kernel
theorem dX6_firstDue_77 : decode cX6_firstDue 77 = .ok (.areturn, 1) := by decide +kernel
theorem dX6_doSlice_0 : decode cX6_doSlice 0 = .ok (.aload_n 0, 1) := by decide +kernel
theorem dX6_doSlice_1 : decode cX6_doSlice 1 = .ok (.dup, 1) := by decide +kernel
theorem dX6_doSlice_2 : decode cX6_doSlice 2 = .ok (.getfield 62, 3) := by decide +kernel
theorem dX6_doSlice_5 : decode cX6_doSlice 5 = .ok (.iconst 1, 1) := by decide +kernel
theorem dX6_doSlice_6 : decode cX6_doSlice 6 = .ok (.iadd, 1) := by decide +kernel
theorem dX6_doSlice_7 : decode cX6_doSlice 7 = .ok (.putfield 62, 3) := by decide +kernel
theorem dX6_doSlice_10 : decode cX6_doSlice 10 = .ok (.iconst 0, 1) := by decide +kernel
theorem dX6_doSlice_11 : decode cX6_doSlice 11 = .ok (.istore_n 2, 1) := by decide +kernel
theorem dX6_doSlice_12 : decode cX6_doSlice 12 = .ok (.iload_n 2, 1) := by decide +kernel
theorem dX6_doSlice_13 : decode cX6_doSlice 13 = .ok (.bipush 12, 2) := by decide +kernel
theorem dX6_doSlice_15 : decode cX6_doSlice 15 = .ok (.if_icmp .ge 123, 3) := by decide +kernel
theorem dX6_doSlice_18 : decode cX6_doSlice 18 = .ok (.aload_n 1, 1) := by decide +kernel
end
section
theorem dX6_doSlice_19 : decode cX6_doSlice 19 = .ok (.getfield 142, 3) := by decide +kernel
theorem dX6_doSlice_22 : decode cX6_doSlice 22 = .ok (.ifCond .ne 116, 3) := by decide +kernel
theorem dX6_doSlice_25 : decode cX6_doSlice 25 = .ok (.aload_n 1, 1) := by decide +kernel
theorem dX6_doSlice_26 : decode cX6_doSlice 26 = .ok (.getfield 175, 3) := by decide +kernel
theorem dX6_doSlice_29 : decode cX6_doSlice 29 = .ok (.iconst 4, 1) := by decide +kernel
theorem dX6_doSlice_30 : decode cX6_doSlice 30 = .ok (.imul, 1) := by decide +kernel
theorem dX6_doSlice_31 : decode cX6_doSlice 31 = .ok (.istore_n 3, 1) := by decide +kernel
theorem dX6_doSlice_32 : decode cX6_doSlice 32 = .ok (.aload_n 1, 1) := by decide +kernel
theorem dX6_doSlice_33 : decode cX6_doSlice 33 = .ok (.aload_n 1, 1) := by decide +kernel
theorem dX6_doSlice_34 : decode cX6_doSlice 34 = .ok (.getfield 175, 3) := by decide +kernel
theorem dX6_doSlice_37 : decode cX6_doSlice 37 = .ok (.iconst 1, 1) := by decide +kernel
theorem dX6_doSlice_38 : decode cX6_doSlice 38 = .ok (.iadd, 1) := by decide +kernel
theorem dX6_doSlice_39 : decode cX6_doSlice 39 = .ok (.invokestatic 194, 3) := by decide +kernel
theorem dX6_doSlice_42 : decode cX6_doSlice 42 = .ok (.putfield 175, 3) := by decide +kernel
theorem dX6_doSlice_45 : decode cX6_doSlice 45 = .ok (.aload_n 1, 1) := by decide +kernel
theorem dX6_doSlice_46 : decode cX6_doSlice 46 = .ok (.dup, 1) := by decide +kernel
theorem dX6_doSlice_47 : decode cX6_doSlice 47 = .ok (.getfield 197, 3) := by decide +kernel
theorem dX6_doSlice_50 : decode cX6_doSlice 50 = .ok (.iconst 1, 1) := by decide +kernel
theorem dX6_doSlice_51 : decode cX6_doSlice 51 = .ok (.iadd, 1) := by decide +kernel
theorem dX6_doSlice_52 : decode cX6_doSlice 52 = .ok (.putfield 197, 3) := by decide +kernel
theorem dX6_doSlice_55 : decode cX6_doSlice 55 = .ok (.aload_n 0, 1) := by decide +kernel
theorem dX6_doSlice_56 : decode cX6_doSlice 56 = .ok (.dup, 1) := by decide +kernel
theorem dX6_doSlice_57 : decode cX6_doSlice 57 = .ok (.getfield 65, 3) := by decide +kernel
theorem dX6_doSlice_60 : decode cX6_doSlice 60 = .ok (.iconst 1, 1) := by decide +kernel
theorem dX6_doSlice_61 : decode cX6_doSlice 61 = .ok (.iadd, 1) := by decide +kernel
theorem dX6_doSlice_62 : decode cX6_doSlice 62 = .ok (.putfield 65, 3) := by decide +kernel
theorem dX6_doSlice_65 : decode cX6_doSlice 65 = .ok (.aload_n 0, 1) := by decide +kernel
theorem dX6_doSlice_66 : decode cX6_doSlice 66 = .ok (.aload_n 1, 1) := by decide +kernel
theorem dX6_doSlice_67 : decode cX6_doSlice 67 = .ok (.aload_n 0, 1) := by decide +kernel
theorem dX6_doSlice_68 : decode cX6_doSlice 68 = .ok (.getfield 9, 3) := by decide +kernel
theorem dX6_doSlice_71 : decode cX6_doSlice 71 = .ok (.iload_n 3, 1) := by decide +kernel
theorem dX6_doSlice_72 : decode cX6_doSlice 72 = .ok (.iaload, 1) := by decide +kernel
theorem dX6_doSlice_73 : decode cX6_doSlice 73 = .ok (.aload_n 0, 1) := by decide +kernel
theorem dX6_doSlice_74 : decode cX6_doSlice 74 = .ok (.getfield 9, 3) := by decide +kernel
theorem dX6_doSlice_77 : decode cX6_doSlice 77 = .ok (.iload_n 3, 1) := by decide +kernel
theorem dX6_doSlice_78 : decode cX6_doSlice 78 = .ok (.iconst 1, 1) := by decide +kernel
theorem dX6_doSlice_79 : decode cX6_doSlice 79 = .ok (.iadd, 1) := by decide +kernel
theorem dX6_doSlice_80 : decode cX6_doSlice 80 = .ok (.iaload, 1) := by decide +kernel
theorem dX6_doSlice_81 : decode cX6_doSlice 81 = .ok (.aload_n 0, 1) := by decide +kernel
theorem dX6_doSlice_82 : decode cX6_doSlice 82 = .ok (.getfield 9, 3) := by decide +kernel
theorem dX6_doSlice_85 : decode cX6_doSlice 85 = .ok (.iload_n 3, 1) := by decide +kernel
theorem dX6_doSlice_86 : decode cX6_doSlice 86 = .ok (.iconst 2, 1) := by decide +kernel
theorem dX6_doSlice_87 : decode cX6_doSlice 87 = .ok (.iadd, 1) := by decide +kernel
theorem dX6_doSlice_88 : decode cX6_doSlice 88 = .ok (.iaload, 1) := by decide +kernel
theorem dX6_doSlice_89 : decode cX6_doSlice 89 = .ok (.aload_n 0, 1) := by decide +kernel
theorem dX6_doSlice_90 : decode cX6_doSlice 90 = .ok (.getfield 9, 3) := by decide +kernel
theorem dX6_doSlice_93 : decode cX6_doSlice 93 = .ok (.iload_n 3, 1) := by decide +kernel
theorem dX6_doSlice_94 : decode cX6_doSlice 94 = .ok (.iconst 3, 1) := by decide +kernel
theorem dX6_doSlice_95 : decode cX6_doSlice 95 = .ok (.iadd, 1) := by decide +kernel
theorem dX6_doSlice_96 : decode cX6_doSlice 96 = .ok (.iaload, 1) := by decide +kernel
theorem dX6_doSlice_97 : decode cX6_doSlice 97 = .ok (.invokevirtual 198, 3) := by decide +kernel
theorem dX6_doSlice_100 : decode cX6_doSlice 100 = .ok (.istore 4, 2) := by decide +kernel
theorem dX6_doSlice_102 : decode cX6_doSlice 102 = .ok (.iload 4, 2) := by decide +kernel
theorem dX6_doSlice_104 : decode cX6_doSlice 104 = .ok (.iconst (-1), 1) := by decide +kernel
theorem dX6_doSlice_105 : decode cX6_doSlice 105 = .ok (.if_icmp .eq 23, 3) := by decide +kernel
theorem dX6_doSlice_108 : decode cX6_doSlice 108 = .ok (.aload_n 0, 1) := by decide +kernel
theorem dX6_doSlice_109 : decode cX6_doSlice 109 = .ok (.getfield 46, 3) := by decide +kernel
theorem dX6_doSlice_112 : decode cX6_doSlice 112 = .ok (.iconst 1, 1) := by decide +kernel
theorem dX6_doSlice_113 : decode cX6_doSlice 113 = .ok (.iload 4, 2) := by decide +kernel
theorem dX6_doSlice_115 : decode cX6_doSlice 115 = .ok (.invokevirtual 95, 3) := by decide +kernel
theorem dX6_doSlice_118 : decode cX6_doSlice 118 = .ok (.aload_n 0, 1) := by decide +kernel
theorem dX6_doSlice_119 : decode cX6_doSlice 119 = .ok (.aload_n 1, 1) := by decide +kernel
theorem dX6_doSlice_120 : decode cX6_doSlice 120 = .ok (.aload_n 0, 1) := by decide +kernel
theorem dX6_doSlice_121 : decode cX6_doSlice 121 = .ok (.getfield 46, 3) := by decide +kernel
theorem dX6_doSlice_124 : decode cX6_doSlice 124 = .ok (.invokevirtual 202, 3) := by decide +kernel
theorem dX6_doSlice_127 : decode cX6_doSlice 127 = .ok (.pop, 1) := by decide +kernel
theorem dX6_doSlice_128 : decode cX6_doSlice 128 = .ok (.aload_n 0, 1) := by decide +kernel
theorem dX6_doSlice_129 : decode cX6_doSlice 129 = .ok (.invokevirtual 206, 3) := by decide +kernel
theorem dX6_doSlice_132 : decode cX6_doSlice 132 = .ok (.iinc 2 1, 3) := by decide +kernel
theorem dX6_doSlice_135 : decode cX6_doSlice 135 = .ok (.goto (-123), 3) := by decide +kernel
theorem dX6_doSlice_138 : decode cX6_doSlice 138 = .ok (.aload_n 1, 1) := by decide +kernel
theorem dX6_doSlice_139 : decode cX6_doSlice 139 = .ok (.getfield 142, 3) := by decide +kernel
theorem dX6_doSlice_142 : decode cX6_doSlice 142 = .ok (.ifCond .ne 8, 3) := by decide +kernel
theorem dX6_doSlice_145 : decode cX6_doSlice 145 = .ok (.aload_n 0, 1) := by decide +kernel
theorem dX6_doSlice_146 : decode cX6_doSlice 146 = .ok (.aload_n 1, 1) := by decide +kernel
theorem dX6_doSlice_147 : decode cX6_doSlice 147 = .ok (.invokevirtual 184, 3) := by decide +kernel
theorem dX6_doSlice_150 : decode cX6_doSlice 150 = .ok (.return_, 1) := by decide +kernel
theorem dX6_doWord_0 : decode cX6_doWord 0 = .ok (.aload_n 1, 1) := by decide +kernel
theorem dX6_doWord_1 : decode cX6_doWord 1 = .ok (.iload_n 3, 1) := by decide +kernel
theorem dX6_doWord_2 : decode cX6_doWord 2 = .ok (.invokevirtual 137, 3) := by decide +kernel
theorem dX6_doWord_5 : decode cX6_doWord 5 = .ok (.astore 6, 2) := by decide +kernel
theorem dX6_doWord_7 : decode cX6_doWord 7 = .ok (.aload_n 1, 1) := by decide +kernel
theorem dX6_doWord_8 : decode cX6_doWord 8 = .ok (.iload 4, 2) := by decide +kernel
theorem dX6_doWord_10 : decode cX6_doWord 10 = .ok (.invokevirtual 137, 3) := by decide +kernel
theorem dX6_doWord_13 : decode cX6_doWord 13 = .ok (.astore 7, 2) := by decide +kernel
theorem dX6_doWord_15 : decode cX6_doWord 15 = .ok (.aload_n 1, 1) := by decide +kernel
theorem dX6_doWord_16 : decode cX6_doWord 16 = .ok (.iload 5, 2) := by decide +kernel
theorem dX6_doWord_18 : decode cX6_doWord 18 = .ok (.invokevirtual 137, 3) := by decide +kernel
theorem dX6_doWord_21 : decode cX6_doWord 21 = .ok (.astore 8, 2) := by decide +kernel
theorem dX6_doWord_23 : decode cX6_doWord 23 = .ok (.iload_n 2, 1) := by decide +kernel
theorem dX6_doWord_24 : decode cX6_doWord 24 = .ok (.tableswitch 663 0 35 #[160, 166, 175, 189, 197, 229, 261, 293, 311, 327, 343, 355, 362, 383, 404, 425, 434, 440, 460, 465, 473, 484, 500, 516, 525, 533, 538, 543, 552, 569, 581, 592, 606, 620, 634, 646], 160) := by decide +kernel
theorem dX6_doWord_184 : decode cX6_doWord 184 = .ok (.aload_n 0, 1) := by decide +kernel
theorem dX6_doWord_185 : decode cX6_doWord 185 = .ok (.aload_n 1, 1) := by decide +kernel
theorem dX6_doWord_186 : decode cX6_doWord 186 = .ok (.invokevirtual 209, 3) := by decide +kernel
theorem dX6_doWord_189 : decode cX6_doWord 189 = .ok (.ireturn, 1) := by decide +kernel
theorem dX6_doWord_190 : decode cX6_doWord 190 = .ok (.aload 6, 2) := by decide +kernel
theorem dX6_doWord_192 : decode cX6_doWord 192 = .ok (.iconst 0, 1) := by decide +kernel
theorem dX6_doWord_193 : decode cX6_doWord 193 = .ok (.iload 4, 2) := by decide +kernel
theorem dX6_doWord_195 : decode cX6_doWord 195 = .ok (.invokestatic 213, 3) := by decide +kernel
theorem dX6_doWord_198 : decode cX6_doWord 198 = .ok (.ireturn, 1) := by decide +kernel
theorem dX6_doWord_199 : decode cX6_doWord 199 = .ok (.aload 6, 2) := by decide +kernel
theorem dX6_doWord_201 : decode cX6_doWord 201 = .ok (.iconst 1, 1) := by decide +kernel
theorem dX6_doWord_202 : decode cX6_doWord 202 = .ok (.iload 4, 2) := by decide +kernel
theorem dX6_doWord_204 : decode cX6_doWord 204 = .ok (.bipush 100, 2) := by decide +kernel
theorem dX6_doWord_206 : decode cX6_doWord 206 = .ok (.invokestatic 161, 3) := by decide +kernel
theorem dX6_doWord_209 : decode cX6_doWord 209 = .ok (.invokestatic 213, 3) := by decide +kernel
theorem dX6_doWord_212 : decode cX6_doWord 212 = .ok (.ireturn, 1) := by decide +kernel
theorem dX6_doWord_213 : decode cX6_doWord 213 = .ok (.aload 6, 2) := by decide +kernel
theorem dX6_doWord_215 : decode cX6_doWord 215 = .ok (.aload 7, 2) := by decide +kernel
theorem dX6_doWord_217 : decode cX6_doWord 217 = .ok (.invokestatic 217, 3) := by decide +kernel
theorem dX6_doWord_220 : decode cX6_doWord 220 = .ok (.ireturn, 1) := by decide +kernel
theorem dX6_doWord_221 : decode cX6_doWord 221 = .ok (.aload 7, 2) := by decide +kernel
theorem dX6_doWord_223 : decode cX6_doWord 223 = .ok (.aload 8, 2) := by decide +kernel
theorem dX6_doWord_225 : decode cX6_doWord 225 = .ok (.invokestatic 221, 3) := by decide +kernel
theorem dX6_doWord_228 : decode cX6_doWord 228 = .ok (.ifCond .eq 23, 3) := by decide +kernel
theorem dX6_doWord_231 : decode cX6_doWord 231 = .ok (.aload 6, 2) := by decide +kernel
theorem dX6_doWord_233 : decode cX6_doWord 233 = .ok (.iconst 0, 1) := by decide +kernel
theorem dX6_doWord_234 : decode cX6_doWord 234 = .ok (.aload 7, 2) := by decide +kernel
theorem dX6_doWord_236 : decode cX6_doWord 236 = .ok (.invokevirtual 170, 3) := by decide +kernel
theorem dX6_doWord_239 : decode cX6_doWord 239 = .ok (.aload 8, 2) := by decide +kernel
theorem dX6_doWord_241 : decode cX6_doWord 241 = .ok (.invokevirtual 170, 3) := by decide +kernel
theorem dX6_doWord_244 : decode cX6_doWord 244 = .ok (.iadd, 1) := by decide +kernel
theorem dX6_doWord_245 : decode cX6_doWord 245 = .ok (.invokestatic 213, 3) := by decide +kernel
theorem dX6_doWord_248 : decode cX6_doWord 248 = .ok (.goto 4, 3) := by decide +kernel
theorem dX6_doWord_251 : decode cX6_doWord 251 = .ok (.iconst 4, 1) := by decide +kernel
theorem dX6_doWord_252 : decode cX6_doWord 252 = .ok (.ireturn, 1) := by decide +kernel
theorem dX6_doWord_253 : decode cX6_doWord 253 = .ok (.aload 7, 2) := by decide +kernel
theorem dX6_doWord_255 : decode cX6_doWord 255 = .ok (.aload 8, 2) := by decide +kernel
theorem dX6_doWord_257 : decode cX6_doWord 257 = .ok (.invokestatic 221, 3) := by decide +kernel
theorem dX6_doWord_260 : decode cX6_doWord 260 = .ok (.ifCond .eq 23, 3) := by decide +kernel
theorem dX6_doWord_263 : decode cX6_doWord 263 = .ok (.aload 6, 2) := by decide +kernel
theorem dX6_doWord_265 : decode cX6_doWord 265 = .ok (.iconst 0, 1) := by decide +kernel
theorem dX6_doWord_266 : decode cX6_doWord 266 = .ok (.aload 7, 2) := by decide +kernel
theorem dX6_doWord_268 : decode cX6_doWord 268 = .ok (.invokevirtual 170, 3) := by decide +kernel
theorem dX6_doWord_271 : decode cX6_doWord 271 = .ok (.aload 8, 2) := by decide +kernel
theorem dX6_doWord_273 : decode cX6_doWord 273 = .ok (.invokevirtual 170, 3) := by decide +kernel
theorem dX6_doWord_276 : decode cX6_doWord 276 = .ok (.isub, 1) := by decide +kernel
theorem dX6_doWord_277 : decode cX6_doWord 277 = .ok (.invokestatic 213, 3) := by decide +kernel
theorem dX6_doWord_280 : decode cX6_doWord 280 = .ok (.goto 4, 3) := by decide +kernel
theorem dX6_doWord_283 : decode cX6_doWord 283 = .ok (.iconst 4, 1) := by decide +kernel
theorem dX6_doWord_284 : decode cX6_doWord 284 = .ok (.ireturn, 1) := by decide +kernel
theorem dX6_doWord_285 : decode cX6_doWord 285 = .ok (.aload 7, 2) := by decide +kernel
theorem dX6_doWord_287 : decode cX6_doWord 287 = .ok (.aload 8, 2) := by decide +kernel
theorem dX6_doWord_289 : decode cX6_doWord 289 = .ok (.invokestatic 221, 3) := by decide +kernel
theorem dX6_doWord_292 : decode cX6_doWord 292 = .ok (.ifCond .eq 23, 3) := by decide +kernel
theorem dX6_doWord_295 : decode cX6_doWord 295 = .ok (.aload 6, 2) := by decide +kernel
theorem dX6_doWord_297 : decode cX6_doWord 297 = .ok (.iconst 0, 1) := by decide +kernel
theorem dX6_doWord_298 : decode cX6_doWord 298 = .ok (.aload 7, 2) := by decide +kernel
theorem dX6_doWord_300 : decode cX6_doWord 300 = .ok (.invokevirtual 170, 3) := by decide +kernel
theorem dX6_doWord_303 : decode cX6_doWord 303 = .ok (.aload 8, 2) := by decide +kernel
theorem dX6_doWord_305 : decode cX6_doWord 305 = .ok (.invokevirtual 170, 3) := by decide +kernel
theorem dX6_doWord_308 : decode cX6_doWord 308 = .ok (.imul, 1) := by decide +kernel
theorem dX6_doWord_309 : decode cX6_doWord 309 = .ok (.invokestatic 213, 3) := by decide +kernel
theorem dX6_doWord_312 : decode cX6_doWord 312 = .ok (.goto 4, 3) := by decide +kernel
theorem dX6_doWord_315 : decode cX6_doWord 315 = .ok (.iconst 4, 1) := by decide +kernel
theorem dX6_doWord_316 : decode cX6_doWord 316 = .ok (.ireturn, 1) := by decide +kernel
theorem dX6_doWord_317 : decode cX6_doWord 317 = .ok (.aload 6, 2) := by decide +kernel
theorem dX6_doWord_319 : decode cX6_doWord 319 = .ok (.aload 7, 2) := by decide +kernel
theorem dX6_doWord_321 : decode cX6_doWord 321 = .ok (.aload 8, 2) := by decide +kernel
theorem dX6_doWord_323 : decode cX6_doWord 323 = .ok (.invokevirtual 225, 3) := by decide +kernel
theorem dX6_doWord_326 : decode cX6_doWord 326 = .ok (.ifCond .eq 7, 3) := by decide +kernel
theorem dX6_doWord_329 : decode cX6_doWord 329 = .ok (.iconst (-1), 1) := by decide +kernel
theorem dX6_doWord_330 : decode cX6_doWord 330 = .ok (.goto 4, 3) := by decide +kernel
theorem dX6_doWord_333 : decode cX6_doWord 333 = .ok (.iconst 5, 1) := by decide +kernel
theorem dX6_doWord_334 : decode cX6_doWord 334 = .ok (.ireturn, 1) := by decide +kernel
theorem dX6_doWord_335 : decode cX6_doWord 335 = .ok (.aload 6, 2) := by decide +kernel
theorem dX6_doWord_337 : decode cX6_doWord 337 = .ok (.aload 7, 2) := by decide +kernel
theorem dX6_doWord_339 : decode cX6_doWord 339 = .ok (.invokevirtual 228, 3) := by decide +kernel
theorem dX6_doWord_342 : decode cX6_doWord 342 = .ok (.ifCond .eq 7, 3) := by decide +kernel
theorem dX6_doWord_345 : decode cX6_doWord 345 = .ok (.iconst (-1), 1) := by decide +kernel
theorem dX6_doWord_346 : decode cX6_doWord 346 = .ok (.goto 4, 3) := by decide +kernel
theorem dX6_doWord_349 : decode cX6_doWord 349 = .ok (.iconst 4, 1) := by decide +kernel
theorem dX6_doWord_350 : decode cX6_doWord 350 = .ok (.ireturn, 1) := by decide +kernel
theorem dX6_doWord_351 : decode cX6_doWord 351 = .ok (.aload 6, 2) := by decide +kernel
theorem dX6_doWord_353 : decode cX6_doWord 353 = .ok (.aload 7, 2) := by decide +kernel
theorem dX6_doWord_355 : decode cX6_doWord 355 = .ok (.invokevirtual 232, 3) := by decide +kernel
theorem dX6_doWord_358 : decode cX6_doWord 358 = .ok (.ifCond .eq 7, 3) := by decide +kernel
theorem dX6_doWord_361 : decode cX6_doWord 361 = .ok (.iconst (-1), 1) := by decide +kernel
theorem dX6_doWord_362 : decode cX6_doWord 362 = .ok (.goto 4, 3) := by decide +kernel
theorem dX6_doWord_365 : decode cX6_doWord 365 = .ok (.iconst 4, 1) := by decide +kernel
theorem dX6_doWord_366 : decode cX6_doWord 366 = .ok (.ireturn, 1) := by decide +kernel
theorem dX6_doWord_367 : decode cX6_doWord 367 = .ok (.aload 6, 2) := by decide +kernel
theorem dX6_doWord_369 : decode cX6_doWord 369 = .ok (.iconst 0, 1) := by decide +kernel
theorem dX6_doWord_370 : decode cX6_doWord 370 = .ok (.aload 7, 2) := by decide +kernel
theorem dX6_doWord_372 : decode cX6_doWord 372 = .ok (.invokevirtual 167, 3) := by decide +kernel
theorem dX6_doWord_375 : decode cX6_doWord 375 = .ok (.invokestatic 213, 3) := by decide +kernel
theorem dX6_doWord_378 : decode cX6_doWord 378 = .ok (.ireturn, 1) := by decide +kernel
theorem dX6_doWord_379 : decode cX6_doWord 379 = .ok (.aload_n 1, 1) := by decide +kernel
theorem dX6_doWord_380 : decode cX6_doWord 380 = .ok (.iload_n 3, 1) := by decide +kernel
theorem dX6_doWord_381 : decode cX6_doWord 381 = .ok (.iconst 1, 1) := by decide +kernel
theorem dX6_doWord_382 : decode cX6_doWord 382 = .ok (.invokestatic 235, 3) := by decide +kernel
theorem dX6_doWord_385 : decode cX6_doWord 385 = .ok (.ireturn, 1) := by decide +kernel
theorem dX6_doWord_386 : decode cX6_doWord 386 = .ok (.aload_n 1, 1) := by decide +kernel
theorem dX6_doWord_387 : decode cX6_doWord 387 = .ok (.iload_n 3, 1) := by decide +kernel
theorem dX6_doWord_388 : decode cX6_doWord 388 = .ok (.aload 7, 2) := by decide +kernel
theorem dX6_doWord_390 : decode cX6_doWord 390 = .ok (.aload 8, 2) := by decide +kernel
theorem dX6_doWord_392 : decode cX6_doWord 392 = .ok (.invokevirtual 239, 3) := by decide +kernel
theorem dX6_doWord_395 : decode cX6_doWord 395 = .ok (.ifCond .ne 7, 3) := by decide +kernel
theorem dX6_doWord_398 : decode cX6_doWord 398 = .ok (.iconst 1, 1) := by decide +kernel
theorem dX6_doWord_399 : decode cX6_doWord 399 = .ok (.goto 4, 3) := by decide +kernel
theorem dX6_doWord_402 : decode cX6_doWord 402 = .ok (.iconst 0, 1) := by decide +kernel
theorem dX6_doWord_403 : decode cX6_doWord 403 = .ok (.invokestatic 235, 3) := by decide +kernel
theorem dX6_doWord_406 : decode cX6_doWord 406 = .ok (.ireturn, 1) := by decide +kernel
theorem dX6_doWord_407 : decode cX6_doWord 407 = .ok (.aload_n 1, 1) := by decide +kernel
theorem dX6_doWord_408 : decode cX6_doWord 408 = .ok (.iload_n 3, 1) := by decide +kernel
theorem dX6_doWord_409 : decode cX6_doWord 409 = .ok (.aload 7, 2) := by decide +kernel
theorem dX6_doWord_411 : decode cX6_doWord 411 = .ok (.aload 8, 2) := by decide +kernel
theorem dX6_doWord_413 : decode cX6_doWord 413 = .ok (.invokevirtual 239, 3) := by decide +kernel
theorem dX6_doWord_416 : decode cX6_doWord 416 = .ok (.ifCond .ge 7, 3) := by decide +kernel
theorem dX6_doWord_419 : decode cX6_doWord 419 = .ok (.iconst 1, 1) := by decide +kernel
theorem dX6_doWord_420 : decode cX6_doWord 420 = .ok (.goto 4, 3) := by decide +kernel
theorem dX6_doWord_423 : decode cX6_doWord 423 = .ok (.iconst 0, 1) := by decide +kernel
theorem dX6_doWord_424 : decode cX6_doWord 424 = .ok (.invokestatic 235, 3) := by decide +kernel
theorem dX6_doWord_427 : decode cX6_doWord 427 = .ok (.ireturn, 1) := by decide +kernel
theorem dX6_doWord_428 : decode cX6_doWord 428 = .ok (.aload_n 1, 1) := by decide +kernel
theorem dX6_doWord_429 : decode cX6_doWord 429 = .ok (.iload_n 3, 1) := by decide +kernel
theorem dX6_doWord_430 : decode cX6_doWord 430 = .ok (.aload 7, 2) := by decide +kernel
theorem dX6_doWord_432 : decode cX6_doWord 432 = .ok (.aload 8, 2) := by decide +kernel
theorem dX6_doWord_434 : decode cX6_doWord 434 = .ok (.invokevirtual 239, 3) := by decide +kernel
theorem dX6_doWord_437 : decode cX6_doWord 437 = .ok (.ifCond .gt 7, 3) := by decide +kernel
theorem dX6_doWord_440 : decode cX6_doWord 440 = .ok (.iconst 1, 1) := by decide +kernel
theorem dX6_doWord_441 : decode cX6_doWord 441 = .ok (.goto 4, 3) := by decide +kernel
theorem dX6_doWord_444 : decode cX6_doWord 444 = .ok (.iconst 0, 1) := by decide +kernel
theorem dX6_doWord_445 : decode cX6_doWord 445 = .ok (.invokestatic 235, 3) := by decide +kernel
theorem dX6_doWord_448 : decode cX6_doWord 448 = .ok (.ireturn, 1) := by decide +kernel
theorem dX6_doWord_449 : decode cX6_doWord 449 = .ok (.aload_n 1, 1) := by decide +kernel
theorem dX6_doWord_450 : decode cX6_doWord 450 = .ok (.iload_n 3, 1) := by decide +kernel
theorem dX6_doWord_451 : decode cX6_doWord 451 = .ok (.invokestatic 194, 3) := by decide +kernel
theorem dX6_doWord_454 : decode cX6_doWord 454 = .ok (.invokestatic 243, 3) := by decide +kernel
theorem dX6_doWord_457 : decode cX6_doWord 457 = .ok (.ireturn, 1) := by decide +kernel
theorem dX6_doWord_458 : decode cX6_doWord 458 = .ok (.aload_n 0, 1) := by decide +kernel
theorem dX6_doWord_459 : decode cX6_doWord 459 = .ok (.aload_n 1, 1) := by decide +kernel
theorem dX6_doWord_460 : decode cX6_doWord 460 = .ok (.invokevirtual 247, 3) := by decide +kernel
theorem dX6_doWord_463 : decode cX6_doWord 463 = .ok (.ireturn, 1) := by decide +kernel
theorem dX6_doWord_464 : decode cX6_doWord 464 = .ok (.aload_n 1, 1) := by decide +kernel
theorem dX6_doWord_465 : decode cX6_doWord 465 = .ok (.getfield 250, 3) := by decide +kernel
theorem dX6_doWord_468 : decode cX6_doWord 468 = .ok (.iload_n 3, 1) := by decide +kernel
theorem dX6_doWord_469 : decode cX6_doWord 469 = .ok (.invokestatic 194, 3) := by decide +kernel
theorem dX6_doWord_472 : decode cX6_doWord 472 = .ok (.invokevirtual 254, 3) := by decide +kernel
theorem dX6_doWord_475 : decode cX6_doWord 475 = .ok (.ifCond .eq 7, 3) := by decide +kernel
theorem dX6_doWord_478 : decode cX6_doWord 478 = .ok (.iconst (-1), 1) := by decide +kernel
theorem dX6_doWord_479 : decode cX6_doWord 479 = .ok (.goto 4, 3) := by decide +kernel
theorem dX6_doWord_482 : decode cX6_doWord 482 = .ok (.iconst 5, 1) := by decide +kernel
theorem dX6_doWord_483 : decode cX6_doWord 483 = .ok (.ireturn, 1) := by decide +kernel
theorem dX6_doWord_484 : decode cX6_doWord 484 = .ok (.aload_n 1, 1) := by decide +kernel
theorem dX6_doWord_485 : decode cX6_doWord 485 = .ok (.invokestatic 260, 3) := by decide +kernel
theorem dX6_doWord_488 : decode cX6_doWord 488 = .ok (.ireturn, 1) := by decide +kernel
theorem dX6_doWord_489 : decode cX6_doWord 489 = .ok (.aload_n 0, 1) := by decide +kernel
theorem dX6_doWord_490 : decode cX6_doWord 490 = .ok (.aload_n 1, 1) := by decide +kernel
theorem dX6_doWord_491 : decode cX6_doWord 491 = .ok (.aload 6, 2) := by decide +kernel
theorem dX6_doWord_493 : decode cX6_doWord 493 = .ok (.invokevirtual 202, 3) := by decide +kernel
theorem dX6_doWord_496 : decode cX6_doWord 496 = .ok (.ireturn, 1) := by decide +kernel
theorem dX6_doWord_497 : decode cX6_doWord 497 = .ok (.aload 6, 2) := by decide +kernel
theorem dX6_doWord_499 : decode cX6_doWord 499 = .ok (.iconst 2, 1) := by decide +kernel
theorem dX6_doWord_500 : decode cX6_doWord 500 = .ok (.aload_n 1, 1) := by decide +kernel
theorem dX6_doWord_501 : decode cX6_doWord 501 = .ok (.getfield 88, 3) := by decide +kernel
theorem dX6_doWord_504 : decode cX6_doWord 504 = .ok (.invokestatic 213, 3) := by decide +kernel
theorem dX6_doWord_507 : decode cX6_doWord 507 = .ok (.ireturn, 1) := by decide +kernel
theorem dX6_doWord_508 : decode cX6_doWord 508 = .ok (.aload_n 0, 1) := by decide +kernel
theorem dX6_doWord_509 : decode cX6_doWord 509 = .ok (.aload_n 1, 1) := by decide +kernel
theorem dX6_doWord_510 : decode cX6_doWord 510 = .ok (.iconst 0, 1) := by decide +kernel
theorem dX6_doWord_511 : decode cX6_doWord 511 = .ok (.aload 6, 2) := by decide +kernel
theorem dX6_doWord_513 : decode cX6_doWord 513 = .ok (.iload 4, 2) := by decide +kernel
theorem dX6_doWord_515 : decode cX6_doWord 515 = .ok (.invokestatic 194, 3) := by decide +kernel
theorem dX6_doWord_518 : decode cX6_doWord 518 = .ok (.aload 8, 2) := by decide +kernel
theorem dX6_doWord_520 : decode cX6_doWord 520 = .ok (.invokevirtual 263, 3) := by decide +kernel
theorem dX6_doWord_523 : decode cX6_doWord 523 = .ok (.ireturn, 1) := by decide +kernel
theorem dX6_doWord_524 : decode cX6_doWord 524 = .ok (.aload_n 0, 1) := by decide +kernel
theorem dX6_doWord_525 : decode cX6_doWord 525 = .ok (.aload_n 1, 1) := by decide +kernel
theorem dX6_doWord_526 : decode cX6_doWord 526 = .ok (.iconst 1, 1) := by decide +kernel
theorem dX6_doWord_527 : decode cX6_doWord 527 = .ok (.aload 6, 2) := by decide +kernel
theorem dX6_doWord_529 : decode cX6_doWord 529 = .ok (.iload 4, 2) := by decide +kernel
theorem dX6_doWord_531 : decode cX6_doWord 531 = .ok (.invokestatic 194, 3) := by decide +kernel
theorem dX6_doWord_534 : decode cX6_doWord 534 = .ok (.aload 8, 2) := by decide +kernel
theorem dX6_doWord_536 : decode cX6_doWord 536 = .ok (.invokevirtual 263, 3) := by decide +kernel
theorem dX6_doWord_539 : decode cX6_doWord 539 = .ok (.ireturn, 1) := by decide +kernel
theorem dX6_doWord_540 : decode cX6_doWord 540 = .ok (.aload_n 0, 1) := by decide +kernel
theorem dX6_doWord_541 : decode cX6_doWord 541 = .ok (.aload 6, 2) := by decide +kernel
theorem dX6_doWord_543 : decode cX6_doWord 543 = .ok (.aload 7, 2) := by decide +kernel
theorem dX6_doWord_545 : decode cX6_doWord 545 = .ok (.invokevirtual 267, 3) := by decide +kernel
theorem dX6_doWord_548 : decode cX6_doWord 548 = .ok (.ireturn, 1) := by decide +kernel
theorem dX6_doWord_549 : decode cX6_doWord 549 = .ok (.aload_n 1, 1) := by decide +kernel
theorem dX6_doWord_550 : decode cX6_doWord 550 = .ok (.aload 7, 2) := by decide +kernel
theorem dX6_doWord_552 : decode cX6_doWord 552 = .ok (.iload_n 3, 1) := by decide +kernel
theorem dX6_doWord_553 : decode cX6_doWord 553 = .ok (.invokestatic 270, 3) := by decide +kernel
theorem dX6_doWord_556 : decode cX6_doWord 556 = .ok (.ireturn, 1) := by decide +kernel
theorem dX6_doWord_557 : decode cX6_doWord 557 = .ok (.aload_n 1, 1) := by decide +kernel
theorem dX6_doWord_558 : decode cX6_doWord 558 = .ok (.invokestatic 274, 3) := by decide +kernel
theorem dX6_doWord_561 : decode cX6_doWord 561 = .ok (.ireturn, 1) := by decide +kernel
theorem dX6_doWord_562 : decode cX6_doWord 562 = .ok (.aload_n 1, 1) := by decide +kernel
theorem dX6_doWord_563 : decode cX6_doWord 563 = .ok (.invokestatic 277, 3) := by decide +kernel
theorem dX6_doWord_566 : decode cX6_doWord 566 = .ok (.ireturn, 1) := by decide +kernel
theorem dX6_doWord_567 : decode cX6_doWord 567 = .ok (.aload_n 1, 1) := by decide +kernel
theorem dX6_doWord_568 : decode cX6_doWord 568 = .ok (.iload_n 3, 1) := by decide +kernel
theorem dX6_doWord_569 : decode cX6_doWord 569 = .ok (.invokestatic 194, 3) := by decide +kernel
theorem dX6_doWord_572 : decode cX6_doWord 572 = .ok (.invokestatic 280, 3) := by decide +kernel
theorem dX6_doWord_575 : decode cX6_doWord 575 = .ok (.ireturn, 1) := by decide +kernel
theorem dX6_doWord_576 : decode cX6_doWord 576 = .ok (.aload_n 0, 1) := by decide +kernel
theorem dX6_doWord_577 : decode cX6_doWord 577 = .ok (.aload_n 1, 1) := by decide +kernel
theorem dX6_doWord_578 : decode cX6_doWord 578 = .ok (.iload_n 3, 1) := by decide +kernel
theorem dX6_doWord_579 : decode cX6_doWord 579 = .ok (.invokestatic 194, 3) := by decide +kernel
theorem dX6_doWord_582 : decode cX6_doWord 582 = .ok (.aload 7, 2) := by decide +kernel
theorem dX6_doWord_584 : decode cX6_doWord 584 = .ok (.iload 5, 2) := by decide +kernel
theorem dX6_doWord_586 : decode cX6_doWord 586 = .ok (.invokestatic 194, 3) := by decide +kernel
theorem dX6_doWord_589 : decode cX6_doWord 589 = .ok (.invokevirtual 283, 3) := by decide +kernel
theorem dX6_doWord_592 : decode cX6_doWord 592 = .ok (.ireturn, 1) := by decide +kernel
theorem dX6_doWord_593 : decode cX6_doWord 593 = .ok (.aload_n 0, 1) := by decide +kernel
theorem dX6_doWord_594 : decode cX6_doWord 594 = .ok (.aload_n 1, 1) := by decide +kernel
theorem dX6_doWord_595 : decode cX6_doWord 595 = .ok (.aload_n 0, 1) := by decide +kernel
theorem dX6_doWord_596 : decode cX6_doWord 596 = .ok (.aload 6, 2) := by decide +kernel
theorem dX6_doWord_598 : decode cX6_doWord 598 = .ok (.invokevirtual 287, 3) := by decide +kernel
theorem dX6_doWord_601 : decode cX6_doWord 601 = .ok (.invokevirtual 291, 3) := by decide +kernel
theorem dX6_doWord_604 : decode cX6_doWord 604 = .ok (.ireturn, 1) := by decide +kernel
theorem dX6_doWord_605 : decode cX6_doWord 605 = .ok (.aload_n 1, 1) := by decide +kernel
theorem dX6_doWord_606 : decode cX6_doWord 606 = .ok (.aload_n 0, 1) := by decide +kernel
theorem dX6_doWord_607 : decode cX6_doWord 607 = .ok (.aload 6, 2) := by decide +kernel
theorem dX6_doWord_609 : decode cX6_doWord 609 = .ok (.invokevirtual 287, 3) := by decide +kernel
theorem dX6_doWord_612 : decode cX6_doWord 612 = .ok (.invokestatic 295, 3) := by decide +kernel
theorem dX6_doWord_615 : decode cX6_doWord 615 = .ok (.ireturn, 1) := by decide +kernel
theorem dX6_doWord_616 : decode cX6_doWord 616 = .ok (.aload_n 0, 1) := by decide +kernel
theorem dX6_doWord_617 : decode cX6_doWord 617 = .ok (.aload_n 1, 1) := by decide +kernel
theorem dX6_doWord_618 : decode cX6_doWord 618 = .ok (.aload 6, 2) := by decide +kernel
theorem dX6_doWord_620 : decode cX6_doWord 620 = .ok (.aload_n 0, 1) := by decide +kernel
theorem dX6_doWord_621 : decode cX6_doWord 621 = .ok (.aload 7, 2) := by decide +kernel
theorem dX6_doWord_623 : decode cX6_doWord 623 = .ok (.invokevirtual 287, 3) := by decide +kernel
theorem dX6_doWord_626 : decode cX6_doWord 626 = .ok (.invokevirtual 298, 3) := by decide +kernel
theorem dX6_doWord_629 : decode cX6_doWord 629 = .ok (.ireturn, 1) := by decide +kernel
theorem dX6_doWord_630 : decode cX6_doWord 630 = .ok (.aload_n 0, 1) := by decide +kernel
theorem dX6_doWord_631 : decode cX6_doWord 631 = .ok (.aload_n 1, 1) := by decide +kernel
theorem dX6_doWord_632 : decode cX6_doWord 632 = .ok (.aload_n 0, 1) := by decide +kernel
theorem dX6_doWord_633 : decode cX6_doWord 633 = .ok (.aload 6, 2) := by decide +kernel
theorem dX6_doWord_635 : decode cX6_doWord 635 = .ok (.invokevirtual 287, 3) := by decide +kernel
theorem dX6_doWord_638 : decode cX6_doWord 638 = .ok (.aload 7, 2) := by decide +kernel
theorem dX6_doWord_640 : decode cX6_doWord 640 = .ok (.invokevirtual 302, 3) := by decide +kernel
theorem dX6_doWord_643 : decode cX6_doWord 643 = .ok (.ireturn, 1) := by decide +kernel
theorem dX6_doWord_644 : decode cX6_doWord 644 = .ok (.aload_n 1, 1) := by decide +kernel
theorem dX6_doWord_645 : decode cX6_doWord 645 = .ok (.iload_n 3, 1) := by decide +kernel
theorem dX6_doWord_646 : decode cX6_doWord 646 = .ok (.ifCond .eq 7, 3) := by decide +kernel
theorem dX6_doWord_649 : decode cX6_doWord 649 = .ok (.iconst 1, 1) := by decide +kernel
theorem dX6_doWord_650 : decode cX6_doWord 650 = .ok (.goto 4, 3) := by decide +kernel
theorem dX6_doWord_653 : decode cX6_doWord 653 = .ok (.iconst 0, 1) := by decide +kernel
theorem dX6_doWord_654 : decode cX6_doWord 654 = .ok (.invokestatic 306, 3) := by decide +kernel
theorem dX6_doWord_657 : decode cX6_doWord 657 = .ok (.ireturn, 1) := by decide +kernel
theorem dX6_doWord_658 : decode cX6_doWord 658 = .ok (.aload_n 0, 1) := by decide +kernel
theorem dX6_doWord_659 : decode cX6_doWord 659 = .ok (.aload_n 1, 1) := by decide +kernel
theorem dX6_doWord_660 : decode cX6_doWord 660 = .ok (.iload_n 3, 1) := by decide +kernel
theorem dX6_doWord_661 : decode cX6_doWord 661 = .ok (.bipush 100, 2) := by decide +kernel
theorem dX6_doWord_663 : decode cX6_doWord 663 = .ok (.invokestatic 161, 3) := by decide +kernel
theorem dX6_doWord_666 : decode cX6_doWord 666 = .ok (.invokevirtual 310, 3) := by decide +kernel
theorem dX6_doWord_669 : decode cX6_doWord 669 = .ok (.ireturn, 1) := by decide +kernel
theorem dX6_doWord_670 : decode cX6_doWord 670 = .ok (.aload 6, 2) := by decide +kernel
theorem dX6_doWord_672 : decode cX6_doWord 672 = .ok (.aload_n 0, 1) := by decide +kernel
theorem dX6_doWord_673 : decode cX6_doWord 673 = .ok (.iload 4, 2) := by decide +kernel
theorem dX6_doWord_675 : decode cX6_doWord 675 = .ok (.bipush 100, 2) := by decide +kernel
theorem dX6_doWord_677 : decode cX6_doWord 677 = .ok (.invokestatic 161, 3) := by decide +kernel
theorem dX6_doWord_680 : decode cX6_doWord 680 = .ok (.invokevirtual 313, 3) := by decide +kernel
theorem dX6_doWord_683 : decode cX6_doWord 683 = .ok (.invokestatic 316, 3) := by decide +kernel
theorem dX6_doWord_686 : decode cX6_doWord 686 = .ok (.ireturn, 1) := by decide +kernel
theorem dX6_doWord_687 : decode cX6_doWord 687 = .ok (.aload_n 0, 1) := by decide +kernel
theorem dX6_doWord_688 : decode cX6_doWord 688 = .ok (.aload 6, 2) := by decide +kernel
theorem dX6_doWord_690 : decode cX6_doWord 690 = .ok (.invokevirtual 320, 3) := by decide +kernel
theorem dX6_doWord_693 : decode cX6_doWord 693 = .ok (.ireturn, 1) := by decide +kernel
theorem dX6_give_0 : decode cX6_give 0 = .ok (.aload_n 0, 1) := by decide +kernel
theorem dX6_give_1 : decode cX6_give 1 = .ok (.iload_n 1, 1) := by decide +kernel
theorem dX6_give_2 : decode cX6_give 2 = .ok (.iload_n 2, 1) := by decide +kernel
theorem dX6_give_3 : decode cX6_give 3 = .ok (.invokevirtual 95, 3) := by decide +kernel
theorem dX6_give_6 : decode cX6_give 6 = .ok (.iconst (-1), 1) := by decide +kernel
theorem dX6_give_7 : decode cX6_give 7 = .ok (.ireturn, 1) := by decide +kernel
theorem dX6_giveCopy_0 : decode cX6_giveCopy 0 = .ok (.aload_n 0, 1) := by decide +kernel
theorem dX6_giveCopy_1 : decode cX6_giveCopy 1 = .ok (.aload_n 1, 1) := by decide +kernel
theorem dX6_giveCopy_2 : decode cX6_giveCopy 2 = .ok (.invokevirtual 323, 3) := by decide +kernel
theorem dX6_giveCopy_5 : decode cX6_giveCopy 5 = .ok (.iconst (-1), 1) := by decide +kernel
theorem dX6_giveCopy_6 : decode cX6_giveCopy 6 = .ok (.ireturn, 1) := by decide +kernel
theorem dX6_areNumbers_0 : decode cX6_areNumbers 0 = .ok (.aload_n 0, 1) := by decide +kernel
theorem dX6_areNumbers_1 : decode cX6_areNumbers 1 = .ok (.invokevirtual 167, 3) := by decide +kernel
theorem dX6_areNumbers_4 : decode cX6_areNumbers 4 = .ok (.ifCond .ne 14, 3) := by decide +kernel
theorem dX6_areNumbers_7 : decode cX6_areNumbers 7 = .ok (.aload_n 1, 1) := by decide +kernel
theorem dX6_areNumbers_8 : decode cX6_areNumbers 8 = .ok (.invokevirtual 167, 3) := by decide +kernel
theorem dX6_areNumbers_11 : decode cX6_areNumbers 11 = .ok (.ifCond .ne 7, 3) := by decide +kernel
theorem dX6_areNumbers_14 : decode cX6_areNumbers 14 = .ok (.iconst 1, 1) := by decide +kernel
theorem dX6_areNumbers_15 : decode cX6_areNumbers 15 = .ok (.goto 4, 3) := by decide +kernel
theorem dX6_areNumbers_18 : decode cX6_areNumbers 18 = .ok (.iconst 0, 1) := by decide +kernel
theorem dX6_areNumbers_19 : decode cX6_areNumbers 19 = .ok (.ireturn, 1) := by decide +kernel
theorem dX6_goOn_0 : decode cX6_goOn 0 = .ok (.iload_n 2, 1) := by decide +kernel
theorem dX6_goOn_1 : decode cX6_goOn 1 = .ok (.ifCond .eq 11, 3) := by decide +kernel
theorem dX6_goOn_4 : decode cX6_goOn 4 = .ok (.aload_n 0, 1) := by decide +kernel
theorem dX6_goOn_5 : decode cX6_goOn 5 = .ok (.iload_n 1, 1) := by decide +kernel
theorem dX6_goOn_6 : decode cX6_goOn 6 = .ok (.invokestatic 194, 3) := by decide +kernel
theorem dX6_goOn_9 : decode cX6_goOn 9 = .ok (.putfield 175, 3) := by decide +kernel
theorem dX6_goOn_12 : decode cX6_goOn 12 = .ok (.iconst (-1), 1) := by decide +kernel
theorem dX6_goOn_13 : decode cX6_goOn 13 = .ok (.ireturn, 1) := by decide +kernel
theorem dX6_callWord_0 : decode cX6_callWord 0 = .ok (.aload_n 0, 1) := by decide +kernel
theorem dX6_callWord_1 : decode cX6_callWord 1 = .ok (.getfield 250, 3) := by decide +kernel
theorem dX6_callWord_4 : decode cX6_callWord 4 = .ok (.aload_n 0, 1) := by decide +kernel
theorem dX6_callWord_5 : decode cX6_callWord 5 = .ok (.getfield 175, 3) := by decide +kernel
theorem dX6_callWord_8 : decode cX6_callWord 8 = .ok (.invokevirtual 327, 3) := by decide +kernel
theorem dX6_callWord_11 : decode cX6_callWord 11 = .ok (.ifCond .ne 5, 3) := by decide +kernel
theorem dX6_callWord_14 : decode cX6_callWord 14 = .ok (.iconst 5, 1) := by decide +kernel
theorem dX6_callWord_15 : decode cX6_callWord 15 = .ok (.ireturn, 1) := by decide +kernel
theorem dX6_callWord_16 : decode cX6_callWord 16 = .ok (.aload_n 0, 1) := by decide +kernel
theorem dX6_callWord_17 : decode cX6_callWord 17 = .ok (.iload_n 1, 1) := by decide +kernel
theorem dX6_callWord_18 : decode cX6_callWord 18 = .ok (.putfield 175, 3) := by decide +kernel
theorem dX6_callWord_21 : decode cX6_callWord 21 = .ok (.iconst (-1), 1) := by decide +kernel
theorem dX6_callWord_22 : decode cX6_callWord 22 = .ok (.ireturn, 1) := by decide +kernel
theorem dX6_comeBack_0 : decode cX6_comeBack 0 = .ok (.aload_n 1, 1) := by decide +kernel
theorem dX6_comeBack_1 : decode cX6_comeBack 1 = .ok (.getfield 250, 3) := by decide +kernel
theorem dX6_comeBack_4 : decode cX6_comeBack 4 = .ok (.invokevirtual 330, 3) := by decide +kernel
theorem dX6_comeBack_7 : decode cX6_comeBack 7 = .ok (.istore_n 2, 1) := by decide +kernel
theorem dX6_comeBack_8 : decode cX6_comeBack 8 = .ok (.iload_n 2, 1) := by decide +kernel
theorem dX6_comeBack_9 : decode cX6_comeBack 9 = .ok (.iconst (-1), 1) := by decide +kernel
theorem dX6_comeBack_10 : decode cX6_comeBack 10 = .ok (.if_icmp .ne 9, 3) := by decide +kernel
theorem dX6_comeBack_13 : decode cX6_comeBack 13 = .ok (.aload_n 0, 1) := by decide +kernel
theorem dX6_comeBack_14 : decode cX6_comeBack 14 = .ok (.aload_n 1, 1) := by decide +kernel
theorem dX6_comeBack_15 : decode cX6_comeBack 15 = .ok (.invokevirtual 209, 3) := by decide +kernel
theorem dX6_comeBack_18 : decode cX6_comeBack 18 = .ok (.ireturn, 1) := by decide +kernel
theorem dX6_comeBack_19 : decode cX6_comeBack 19 = .ok (.aload_n 1, 1) := by decide +kernel
theorem dX6_comeBack_20 : decode cX6_comeBack 20 = .ok (.iload_n 2, 1) := by decide +kernel
theorem dX6_comeBack_21 : decode cX6_comeBack 21 = .ok (.putfield 175, 3) := by decide +kernel
theorem dX6_comeBack_24 : decode cX6_comeBack 24 = .ok (.iconst (-1), 1) := by decide +kernel
theorem dX6_comeBack_25 : decode cX6_comeBack 25 = .ok (.ireturn, 1) := by decide +kernel
theorem dX6_end_0 : decode cX6_end 0 = .ok (.aload_n 0, 1) := by decide +kernel
theorem dX6_end_1 : decode cX6_end 1 = .ok (.getfield 46, 3) := by decide +kernel
theorem dX6_end_4 : decode cX6_end 4 = .ok (.iconst 1, 1) := by decide +kernel
theorem dX6_end_5 : decode cX6_end 5 = .ok (.iconst 0, 1) := by decide +kernel
theorem dX6_end_6 : decode cX6_end 6 = .ok (.invokevirtual 95, 3) := by decide +kernel
theorem dX6_end_9 : decode cX6_end 9 = .ok (.aload_n 0, 1) := by decide +kernel
theorem dX6_end_10 : decode cX6_end 10 = .ok (.aload_n 1, 1) := by decide +kernel
theorem dX6_end_11 : decode cX6_end 11 = .ok (.aload_n 0, 1) := by decide +kernel
theorem dX6_end_12 : decode cX6_end 12 = .ok (.getfield 46, 3) := by decide +kernel
theorem dX6_end_15 : decode cX6_end 15 = .ok (.invokevirtual 333, 3) := by decide +kernel
theorem dX6_end_18 : decode cX6_end 18 = .ok (.iconst (-1), 1) := by decide +kernel
theorem dX6_end_19 : decode cX6_end 19 = .ok (.ireturn, 1) := by decide +kernel
theorem dX6_dropCatch_0 : decode cX6_dropCatch 0 = .ok (.aload_n 0, 1) := by decide +kernel
theorem dX6_dropCatch_1 : decode cX6_dropCatch 1 = .ok (.getfield 250, 3) := by decide +kernel
theorem dX6_dropCatch_4 : decode cX6_dropCatch 4 = .ok (.invokevirtual 337, 3) := by decide +kernel
theorem dX6_dropCatch_7 : decode cX6_dropCatch 7 = .ok (.iconst (-1), 1) := by decide +kernel
theorem dX6_dropCatch_8 : decode cX6_dropCatch 8 = .ok (.ireturn, 1) := by decide +kernel
theorem dX6_fail_0 : decode cX6_fail 0 = .ok (.aload_n 1, 1) := by decide +kernel
theorem dX6_fail_1 : decode cX6_fail 1 = .ok (.getfield 250, 3) := by decide +kernel
theorem dX6_fail_4 : decode cX6_fail 4 = .ok (.invokevirtual 339, 3) := by decide +kernel
theorem dX6_fail_7 : decode cX6_fail 7 = .ok (.istore_n 3, 1) := by decide +kernel
theorem dX6_fail_8 : decode cX6_fail 8 = .ok (.iload_n 3, 1) := by decide +kernel
theorem dX6_fail_9 : decode cX6_fail 9 = .ok (.iconst (-1), 1) := by decide +kernel
theorem dX6_fail_10 : decode cX6_fail 10 = .ok (.if_icmp .ne 12, 3) := by decide +kernel
theorem dX6_fail_13 : decode cX6_fail 13 = .ok (.aload_n 0, 1) := by decide +kernel
theorem dX6_fail_14 : decode cX6_fail 14 = .ok (.aload_n 1, 1) := by decide +kernel
theorem dX6_fail_15 : decode cX6_fail 15 = .ok (.aload_n 2, 1) := by decide +kernel
theorem dX6_fail_16 : decode cX6_fail 16 = .ok (.invokevirtual 333, 3) := by decide +kernel
theorem dX6_fail_19 : decode cX6_fail 19 = .ok (.goto 17, 3) := by decide +kernel
theorem dX6_fail_22 : decode cX6_fail 22 = .ok (.aload_n 1, 1) := by decide +kernel
theorem dX6_fail_23 : decode cX6_fail 23 = .ok (.iconst 0, 1) := by decide +kernel
theorem dX6_fail_24 : decode cX6_fail 24 = .ok (.invokevirtual 137, 3) := by decide +kernel
theorem dX6_fail_27 : decode cX6_fail 27 = .ok (.aload_n 2, 1) := by decide +kernel
theorem dX6_fail_28 : decode cX6_fail 28 = .ok (.invokevirtual 323, 3) := by decide +kernel
theorem dX6_fail_31 : decode cX6_fail 31 = .ok (.aload_n 1, 1) := by decide +kernel
theorem dX6_fail_32 : decode cX6_fail 32 = .ok (.iload_n 3, 1) := by decide +kernel
theorem dX6_fail_33 : decode cX6_fail 33 = .ok (.putfield 175, 3) := by decide +kernel
theorem dX6_fail_36 : decode cX6_fail 36 = .ok (.iconst (-1), 1) := by decide +kernel
theorem dX6_fail_37 : decode cX6_fail 37 = .ok (.ireturn, 1) := by decide +kernel
theorem dX6_beget_0 : decode cX6_beget 0 = .ok (.aload_n 0, 1) := by decide +kernel
theorem dX6_beget_1 : decode cX6_beget 1 = .ok (.getfield 49, 3) := by decide +kernel
theorem dX6_beget_4 : decode cX6_beget 4 = .ok (.bipush 60, 2) := by decide +kernel
theorem dX6_beget_6 : decode cX6_beget 6 = .ok (.if_icmp .lt 5, 3) := by decide +kernel
theorem dX6_beget_9 : decode cX6_beget 9 = .ok (.iconst 5, 1) := by decide +kernel
theorem dX6_beget_10 : decode cX6_beget 10 = .ok (.ireturn, 1) := by decide +kernel
theorem dX6_beget_11 : decode cX6_beget 11 = .ok (.aload_n 0, 1) := by decide +kernel
theorem dX6_beget_12 : decode cX6_beget 12 = .ok (.iload 4, 2) := by decide +kernel
theorem dX6_beget_14 : decode cX6_beget 14 = .ok (.aload_n 1, 1) := by decide +kernel
theorem dX6_beget_15 : decode cX6_beget 15 = .ok (.getfield 342, 3) := by decide +kernel
theorem dX6_beget_18 : decode cX6_beget 18 = .ok (.invokevirtual 84, 3) := by decide +kernel
theorem dX6_beget_21 : decode cX6_beget 21 = .ok (.astore 6, 2) := by decide +kernel
theorem dX6_beget_23 : decode cX6_beget 23 = .ok (.aload 6, 2) := by decide +kernel
theorem dX6_beget_25 : decode cX6_beget 25 = .ok (.iconst 0, 1) := by decide +kernel
theorem dX6_beget_26 : decode cX6_beget 26 = .ok (.invokevirtual 137, 3) := by decide +kernel
theorem dX6_beget_29 : decode cX6_beget 29 = .ok (.iconst 2, 1) := by decide +kernel
theorem dX6_beget_30 : decode cX6_beget 30 = .ok (.aload_n 1, 1) := by decide +kernel
theorem dX6_beget_31 : decode cX6_beget 31 = .ok (.getfield 88, 3) := by decide +kernel
theorem dX6_beget_34 : decode cX6_beget 34 = .ok (.invokevirtual 95, 3) := by decide +kernel
theorem dX6_beget_37 : decode cX6_beget 37 = .ok (.aload 6, 2) := by decide +kernel
theorem dX6_beget_39 : decode cX6_beget 39 = .ok (.iconst 1, 1) := by decide +kernel
theorem dX6_beget_40 : decode cX6_beget 40 = .ok (.invokevirtual 137, 3) := by decide +kernel
theorem dX6_beget_43 : decode cX6_beget 43 = .ok (.aload 5, 2) := by decide +kernel
theorem dX6_beget_45 : decode cX6_beget 45 = .ok (.invokevirtual 323, 3) := by decide +kernel
theorem dX6_beget_48 : decode cX6_beget 48 = .ok (.iload_n 2, 1) := by decide +kernel
theorem dX6_beget_49 : decode cX6_beget 49 = .ok (.ifCond .eq 9, 3) := by decide +kernel
theorem dX6_beget_52 : decode cX6_beget 52 = .ok (.aload_n 1, 1) := by decide +kernel
theorem dX6_beget_53 : decode cX6_beget 53 = .ok (.aload 6, 2) := by decide +kernel
theorem dX6_beget_55 : decode cX6_beget 55 = .ok (.invokevirtual 345, 3) := by decide +kernel
theorem dX6_beget_58 : decode cX6_beget 58 = .ok (.aload_n 3, 1) := by decide +kernel
theorem dX6_beget_59 : decode cX6_beget 59 = .ok (.iconst 2, 1) := by decide +kernel
theorem dX6_beget_60 : decode cX6_beget 60 = .ok (.aload 6, 2) := by decide +kernel
theorem dX6_beget_62 : decode cX6_beget 62 = .ok (.getfield 88, 3) := by decide +kernel
theorem dX6_beget_65 : decode cX6_beget 65 = .ok (.invokevirtual 95, 3) := by decide +kernel
theorem dX6_beget_68 : decode cX6_beget 68 = .ok (.iconst (-1), 1) := by decide +kernel
theorem dX6_beget_69 : decode cX6_beget 69 = .ok (.ireturn, 1) := by decide +kernel
theorem dX6_post_0 : decode cX6_post 0 = .ok (.aload_n 1, 1) := by decide +kernel
theorem dX6_post_1 : decode cX6_post 1 = .ok (.invokevirtual 167, 3) := by decide +kernel
theorem dX6_post_4 : decode cX6_post 4 = .ok (.iconst 2, 1) := by decide +kernel
theorem dX6_post_5 : decode cX6_post 5 = .ok (.if_icmp .eq 13, 3) := by decide +kernel
theorem dX6_post_8 : decode cX6_post 8 = .ok (.aload_n 1, 1) := by decide +kernel
theorem dX6_post_9 : decode cX6_post 9 = .ok (.invokevirtual 167, 3) := by decide +kernel
theorem dX6_post_12 : decode cX6_post 12 = .ok (.iconst 1, 1) := by decide +kernel
theorem dX6_post_13 : decode cX6_post 13 = .ok (.if_icmp .eq 5, 3) := by decide +kernel
theorem dX6_post_16 : decode cX6_post 16 = .ok (.iconst 4, 1) := by decide +kernel
theorem dX6_post_17 : decode cX6_post 17 = .ok (.ireturn, 1) := by decide +kernel
theorem dX6_post_18 : decode cX6_post 18 = .ok (.aload_n 1, 1) := by decide +kernel
theorem dX6_post_19 : decode cX6_post 19 = .ok (.invokevirtual 167, 3) := by decide +kernel
theorem dX6_post_22 : decode cX6_post 22 = .ok (.iconst 1, 1) := by decide +kernel
theorem dX6_post_23 : decode cX6_post 23 = .ok (.if_icmp .ne 14, 3) := by decide +kernel
theorem dX6_post_26 : decode cX6_post 26 = .ok (.aload_n 0, 1) := by decide +kernel
theorem dX6_post_27 : decode cX6_post 27 = .ok (.aload_n 1, 1) := by decide +kernel
theorem dX6_post_28 : decode cX6_post 28 = .ok (.invokevirtual 170, 3) := by decide +kernel
theorem dX6_post_31 : decode cX6_post 31 = .ok (.invokevirtual 313, 3) := by decide +kernel
theorem dX6_post_34 : decode cX6_post 34 = .ok (.goto 8, 3) := by decide +kernel
theorem dX6_post_37 : decode cX6_post 37 = .ok (.aload_n 0, 1) := by decide +kernel
theorem dX6_post_38 : decode cX6_post 38 = .ok (.aload_n 1, 1) := by decide +kernel
theorem dX6_post_39 : decode cX6_post 39 = .ok (.invokevirtual 287, 3) := by decide +kernel
theorem dX6_post_42 : decode cX6_post 42 = .ok (.astore_n 3, 1) := by decide +kernel
theorem dX6_post_43 : decode cX6_post 43 = .ok (.aload_n 3, 1) := by decide +kernel
theorem dX6_post_44 : decode cX6_post 44 = .ok (.ifnull 10, 3) := by decide +kernel
theorem dX6_post_47 : decode cX6_post 47 = .ok (.aload_n 0, 1) := by decide +kernel
theorem dX6_post_48 : decode cX6_post 48 = .ok (.aload_n 3, 1) := by decide +kernel
theorem dX6_post_49 : decode cX6_post 49 = .ok (.aload_n 2, 1) := by decide +kernel
theorem dX6_post_50 : decode cX6_post 50 = .ok (.invokevirtual 99, 3) := by decide +kernel
theorem dX6_post_53 : decode cX6_post 53 = .ok (.pop, 1) := by decide +kernel
theorem dX6_post_54 : decode cX6_post 54 = .ok (.iconst (-1), 1) := by decide +kernel
theorem dX6_post_55 : decode cX6_post 55 = .ok (.ireturn, 1) := by decide +kernel
theorem dX6_findByName_0 : decode cX6_findByName 0 = .ok (.iload_n 1, 1) := by decide +kernel
theorem dX6_findByName_1 : decode cX6_findByName 1 = .ok (.bipush 100, 2) := by decide +kernel
theorem dX6_findByName_3 : decode cX6_findByName 3 = .ok (.invokestatic 74, 3) := by decide +kernel
theorem dX6_findByName_6 : decode cX6_findByName 6 = .ok (.ifCond .eq 12, 3) := by decide +kernel
theorem dX6_findByName_9 : decode cX6_findByName 9 = .ok (.aload_n 0, 1) := by decide +kernel
theorem dX6_findByName_10 : decode cX6_findByName 10 = .ok (.getfield 19, 3) := by decide +kernel
theorem dX6_findByName_13 : decode cX6_findByName 13 = .ok (.iload_n 1, 1) := by decide +kernel
theorem dX6_findByName_14 : decode cX6_findByName 14 = .ok (.aaload, 1) := by decide +kernel
theorem dX6_findByName_15 : decode cX6_findByName 15 = .ok (.goto 4, 3) := by decide +kernel
theorem dX6_findByName_18 : decode cX6_findByName 18 = .ok (.aconst_null, 1) := by decide +kernel
theorem dX6_findByName_19 : decode cX6_findByName 19 = .ok (.areturn, 1) := by decide +kernel
theorem dX6_readMail_0 : decode cX6_readMail 0 = .ok (.aload_n 0, 1) := by decide +kernel
theorem dX6_readMail_1 : decode cX6_readMail 1 = .ok (.getfield 114, 3) := by decide +kernel
theorem dX6_readMail_4 : decode cX6_readMail 4 = .ok (.invokevirtual 348, 3) := by decide +kernel
theorem dX6_readMail_7 : decode cX6_readMail 7 = .ok (.astore_n 3, 1) := by decide +kernel
theorem dX6_readMail_8 : decode cX6_readMail 8 = .ok (.aload_n 3, 1) := by decide +kernel
theorem dX6_readMail_9 : decode cX6_readMail 9 = .ok (.ifnonnull 14, 3) := by decide +kernel
theorem dX6_readMail_12 : decode cX6_readMail 12 = .ok (.aload_n 0, 1) := by decide +kernel
theorem dX6_readMail_13 : decode cX6_readMail 13 = .ok (.iload_n 2, 1) := by decide +kernel
theorem dX6_readMail_14 : decode cX6_readMail 14 = .ok (.invokestatic 194, 3) := by decide +kernel
theorem dX6_readMail_17 : decode cX6_readMail 17 = .ok (.putfield 175, 3) := by decide +kernel
theorem dX6_readMail_20 : decode cX6_readMail 20 = .ok (.goto 8, 3) := by decide +kernel
theorem dX6_readMail_23 : decode cX6_readMail 23 = .ok (.aload_n 1, 1) := by decide +kernel
theorem dX6_readMail_24 : decode cX6_readMail 24 = .ok (.aload_n 3, 1) := by decide +kernel
theorem dX6_readMail_25 : decode cX6_readMail 25 = .ok (.invokevirtual 323, 3) := by decide +kernel
theorem dX6_readMail_28 : decode cX6_readMail 28 = .ok (.iconst (-1), 1) := by decide +kernel
theorem dX6_readMail_29 : decode cX6_readMail 29 = .ok (.ireturn, 1) := by decide +kernel
theorem dX6_dropMail_0 : decode cX6_dropMail 0 = .ok (.aload_n 0, 1) := by decide +kernel
theorem dX6_dropMail_1 : decode cX6_dropMail 1 = .ok (.getfield 114, 3) := by decide +kernel
theorem dX6_dropMail_4 : decode cX6_dropMail 4 = .ok (.invokevirtual 352, 3) := by decide +kernel
theorem dX6_dropMail_7 : decode cX6_dropMail 7 = .ok (.iconst (-1), 1) := by decide +kernel
theorem dX6_dropMail_8 : decode cX6_dropMail 8 = .ok (.ireturn, 1) := by decide +kernel
theorem dX6_advance_0 : decode cX6_advance 0 = .ok (.aload_n 0, 1) := by decide +kernel
theorem dX6_advance_1 : decode cX6_advance 1 = .ok (.getfield 114, 3) := by decide +kernel
theorem dX6_advance_4 : decode cX6_advance 4 = .ok (.invokevirtual 355, 3) := by decide +kernel
theorem dX6_advance_7 : decode cX6_advance 7 = .ok (.iconst (-1), 1) := by decide +kernel
theorem dX6_advance_8 : decode cX6_advance 8 = .ok (.ireturn, 1) := by decide +kernel
theorem dX6_await_0 : decode cX6_await 0 = .ok (.aload_n 0, 1) := by decide +kernel
theorem dX6_await_1 : decode cX6_await 1 = .ok (.getfield 114, 3) := by decide +kernel
theorem dX6_await_4 : decode cX6_await 4 = .ok (.invokevirtual 348, 3) := by decide +kernel
theorem dX6_await_7 : decode cX6_await 7 = .ok (.ifnull 11, 3) := by decide +kernel
theorem dX6_await_10 : decode cX6_await 10 = .ok (.aload_n 0, 1) := by decide +kernel
theorem dX6_await_11 : decode cX6_await 11 = .ok (.iload_n 1, 1) := by decide +kernel
theorem dX6_await_12 : decode cX6_await 12 = .ok (.putfield 175, 3) := by decide +kernel
theorem dX6_await_15 : decode cX6_await 15 = .ok (.goto 12, 3) := by decide +kernel
theorem dX6_await_18 : decode cX6_await 18 = .ok (.aload_n 0, 1) := by decide +kernel
theorem dX6_await_19 : decode cX6_await 19 = .ok (.iload_n 1, 1) := by decide +kernel
theorem dX6_await_20 : decode cX6_await 20 = .ok (.iload_n 1, 1) := by decide +kernel
theorem dX6_await_21 : decode cX6_await 21 = .ok (.ldc2_w 178, 3) := by decide +kernel
theorem dX6_await_24 : decode cX6_await 24 = .ok (.invokevirtual 357, 3) := by decide +kernel
theorem dX6_await_27 : decode cX6_await 27 = .ok (.iconst (-1), 1) := by decide +kernel
theorem dX6_await_28 : decode cX6_await 28 = .ok (.ireturn, 1) := by decide +kernel
theorem dX6_awaitFor_0 : decode cX6_awaitFor 0 = .ok (.aload_n 1, 1) := by decide +kernel
theorem dX6_awaitFor_1 : decode cX6_awaitFor 1 = .ok (.getfield 114, 3) := by decide +kernel
theorem dX6_awaitFor_4 : decode cX6_awaitFor 4 = .ok (.invokevirtual 348, 3) := by decide +kernel
theorem dX6_awaitFor_7 : decode cX6_awaitFor 7 = .ok (.ifnull 10, 3) := by decide +kernel
theorem dX6_awaitFor_10 : decode cX6_awaitFor 10 = .ok (.aload_n 1, 1) := by decide +kernel
theorem dX6_awaitFor_11 : decode cX6_awaitFor 11 = .ok (.iload_n 2, 1) := by decide +kernel
theorem dX6_awaitFor_12 : decode cX6_awaitFor 12 = .ok (.putfield 175, 3) := by decide +kernel
theorem dX6_awaitFor_15 : decode cX6_awaitFor 15 = .ok (.iconst (-1), 1) := by decide +kernel
theorem dX6_awaitFor_16 : decode cX6_awaitFor 16 = .ok (.ireturn, 1) := by decide +kernel
theorem dX6_awaitFor_17 : decode cX6_awaitFor 17 = .ok (.aload_n 3, 1) := by decide +kernel
theorem dX6_awaitFor_18 : decode cX6_awaitFor 18 = .ok (.invokevirtual 167, 3) := by decide +kernel
theorem dX6_awaitFor_21 : decode cX6_awaitFor 21 = .ok (.ifCond .eq 5, 3) := by decide +kernel
theorem dX6_awaitFor_24 : decode cX6_awaitFor 24 = .ok (.iconst 4, 1) := by decide +kernel
theorem dX6_awaitFor_25 : decode cX6_awaitFor 25 = .ok (.ireturn, 1) := by decide +kernel
theorem dX6_awaitFor_26 : decode cX6_awaitFor 26 = .ok (.aload_n 3, 1) := by decide +kernel
theorem dX6_awaitFor_27 : decode cX6_awaitFor 27 = .ok (.invokevirtual 170, 3) := by decide +kernel
theorem dX6_awaitFor_30 : decode cX6_awaitFor 30 = .ok (.iconst 1, 1) := by decide +kernel
theorem dX6_awaitFor_31 : decode cX6_awaitFor 31 = .ok (.if_icmp .ge 19, 3) := by decide +kernel
theorem dX6_awaitFor_34 : decode cX6_awaitFor 34 = .ok (.aload_n 1, 1) := by decide +kernel
theorem dX6_awaitFor_35 : decode cX6_awaitFor 35 = .ok (.getfield 114, 3) := by decide +kernel
theorem dX6_awaitFor_38 : decode cX6_awaitFor 38 = .ok (.invokevirtual 118, 3) := by decide +kernel
theorem dX6_awaitFor_41 : decode cX6_awaitFor 41 = .ok (.aload_n 1, 1) := by decide +kernel
theorem dX6_awaitFor_42 : decode cX6_awaitFor 42 = .ok (.iload 4, 2) := by decide +kernel
theorem dX6_awaitFor_44 : decode cX6_awaitFor 44 = .ok (.putfield 175, 3) := by decide +kernel
theorem dX6_awaitFor_47 : decode cX6_awaitFor 47 = .ok (.goto 21, 3) := by decide +kernel
theorem dX6_awaitFor_50 : decode cX6_awaitFor 50 = .ok (.aload_n 1, 1) := by decide +kernel
theorem dX6_awaitFor_51 : decode cX6_awaitFor 51 = .ok (.iload_n 2, 1) := by decide +kernel
theorem dX6_awaitFor_52 : decode cX6_awaitFor 52 = .ok (.iload 4, 2) := by decide +kernel
theorem dX6_awaitFor_54 : decode cX6_awaitFor 54 = .ok (.aload_n 0, 1) := by decide +kernel
theorem dX6_awaitFor_55 : decode cX6_awaitFor 55 = .ok (.getfield 68, 3) := by decide +kernel
theorem dX6_awaitFor_58 : decode cX6_awaitFor 58 = .ok (.i2l, 1) := by decide +kernel
theorem dX6_awaitFor_59 : decode cX6_awaitFor 59 = .ok (.aload_n 3, 1) := by decide +kernel
theorem dX6_awaitFor_60 : decode cX6_awaitFor 60 = .ok (.invokevirtual 170, 3) := by decide +kernel
theorem dX6_awaitFor_63 : decode cX6_awaitFor 63 = .ok (.i2l, 1) := by decide +kernel
theorem dX6_awaitFor_64 : decode cX6_awaitFor 64 = .ok (.ladd, 1) := by decide +kernel
theorem dX6_awaitFor_65 : decode cX6_awaitFor 65 = .ok (.invokevirtual 357, 3) := by decide +kernel
theorem dX6_awaitFor_68 : decode cX6_awaitFor 68 = .ok (.iconst (-1), 1) := by decide +kernel
theorem dX6_awaitFor_69 : decode cX6_awaitFor 69 = .ok (.ireturn, 1) := by decide +kernel
theorem dX6_deliver_0 : decode cX6_deliver 0 = .ok (.aload_n 1, 1) := by decide +kernel
theorem dX6_deliver_1 : decode cX6_deliver 1 = .ok (.getfield 142, 3) := by decide +kernel
theorem dX6_deliver_4 : decode cX6_deliver 4 = .ok (.iconst 2, 1) := by decide +kernel
theorem dX6_deliver_5 : decode cX6_deliver 5 = .ok (.if_icmp .ne 5, 3) := by decide +kernel
theorem dX6_deliver_8 : decode cX6_deliver 8 = .ok (.iconst 0, 1) := by decide +kernel
theorem dX6_deliver_9 : decode cX6_deliver 9 = .ok (.ireturn, 1) := by decide +kernel
theorem dX6_deliver_10 : decode cX6_deliver 10 = .ok (.aload_n 1, 1) := by decide +kernel
theorem dX6_deliver_11 : decode cX6_deliver 11 = .ok (.getfield 114, 3) := by decide +kernel
theorem dX6_deliver_14 : decode cX6_deliver 14 = .ok (.invokevirtual 361, 3) := by decide +kernel
theorem dX6_deliver_17 : decode cX6_deliver 17 = .ok (.astore_n 3, 1) := by decide +kernel
theorem dX6_deliver_18 : decode cX6_deliver 18 = .ok (.aload_n 3, 1) := by decide +kernel
theorem dX6_deliver_19 : decode cX6_deliver 19 = .ok (.ifnonnull 5, 3) := by decide +kernel
theorem dX6_deliver_22 : decode cX6_deliver 22 = .ok (.iconst 0, 1) := by decide +kernel
theorem dX6_deliver_23 : decode cX6_deliver 23 = .ok (.ireturn, 1) := by decide +kernel
theorem dX6_deliver_24 : decode cX6_deliver 24 = .ok (.aload_n 3, 1) := by decide +kernel
theorem dX6_deliver_25 : decode cX6_deliver 25 = .ok (.aload_n 2, 1) := by decide +kernel
theorem dX6_deliver_26 : decode cX6_deliver 26 = .ok (.invokevirtual 323, 3) := by decide +kernel
theorem dX6_deliver_29 : decode cX6_deliver 29 = .ok (.aload_n 0, 1) := by decide +kernel
theorem dX6_deliver_30 : decode cX6_deliver 30 = .ok (.dup, 1) := by decide +kernel
theorem dX6_deliver_31 : decode cX6_deliver 31 = .ok (.getfield 71, 3) := by decide +kernel
theorem dX6_deliver_34 : decode cX6_deliver 34 = .ok (.iconst 1, 1) := by decide +kernel
theorem dX6_deliver_35 : decode cX6_deliver 35 = .ok (.iadd, 1) := by decide +kernel
theorem dX6_deliver_36 : decode cX6_deliver 36 = .ok (.putfield 71, 3) := by decide +kernel
theorem dX6_deliver_39 : decode cX6_deliver 39 = .ok (.aload_n 1, 1) := by decide +kernel
theorem dX6_deliver_40 : decode cX6_deliver 40 = .ok (.getfield 142, 3) := by decide +kernel
theorem dX6_deliver_43 : decode cX6_deliver 43 = .ok (.iconst 1, 1) := by decide +kernel
theorem dX6_deliver_44 : decode cX6_deliver 44 = .ok (.if_icmp .ne 12, 3) := by decide +kernel
theorem dX6_deliver_47 : decode cX6_deliver 47 = .ok (.aload_n 0, 1) := by decide +kernel
theorem dX6_deliver_48 : decode cX6_deliver 48 = .ok (.aload_n 1, 1) := by decide +kernel
theorem dX6_deliver_49 : decode cX6_deliver 49 = .ok (.aload_n 1, 1) := by decide +kernel
theorem dX6_deliver_50 : decode cX6_deliver 50 = .ok (.getfield 364, 3) := by decide +kernel
theorem dX6_deliver_53 : decode cX6_deliver 53 = .ok (.invokevirtual 126, 3) := by decide +kernel
theorem dX6_deliver_56 : decode cX6_deliver 56 = .ok (.iconst 1, 1) := by decide +kernel
theorem dX6_deliver_57 : decode cX6_deliver 57 = .ok (.ireturn, 1) := by decide +kernel
theorem dX6_link_0 : decode cX6_link 0 = .ok (.aload_n 2, 1) := by decide +kernel
theorem dX6_link_1 : decode cX6_link 1 = .ok (.ifnonnull 5, 3) := by decide +kernel
theorem dX6_link_4 : decode cX6_link 4 = .ok (.iconst 4, 1) := by decide +kernel
theorem dX6_link_5 : decode cX6_link 5 = .ok (.ireturn, 1) := by decide +kernel
theorem dX6_link_6 : decode cX6_link 6 = .ok (.aload_n 2, 1) := by decide +kernel
theorem dX6_link_7 : decode cX6_link 7 = .ok (.getfield 142, 3) := by decide +kernel
theorem dX6_link_10 : decode cX6_link 10 = .ok (.iconst 2, 1) := by decide +kernel
theorem dX6_link_11 : decode cX6_link 11 = .ok (.if_icmp .ne 29, 3) := by decide +kernel
theorem dX6_link_14 : decode cX6_link 14 = .ok (.aload_n 0, 1) := by decide +kernel
theorem dX6_link_15 : decode cX6_link 15 = .ok (.getfield 46, 3) := by decide +kernel
theorem dX6_link_18 : decode cX6_link 18 = .ok (.iconst 1, 1) := by decide +kernel
theorem dX6_link_19 : decode cX6_link 19 = .ok (.iconst 3, 1) := by decide +kernel
theorem dX6_link_20 : decode cX6_link 20 = .ok (.invokevirtual 95, 3) := by decide +kernel
theorem dX6_link_23 : decode cX6_link 23 = .ok (.aload_n 0, 1) := by decide +kernel
theorem dX6_link_24 : decode cX6_link 24 = .ok (.aload_n 1, 1) := by decide +kernel
theorem dX6_link_25 : decode cX6_link 25 = .ok (.aload_n 2, 1) := by decide +kernel
theorem dX6_link_26 : decode cX6_link 26 = .ok (.getfield 88, 3) := by decide +kernel
theorem dX6_link_29 : decode cX6_link 29 = .ok (.aload_n 0, 1) := by decide +kernel
theorem dX6_link_30 : decode cX6_link 30 = .ok (.getfield 46, 3) := by decide +kernel
theorem dX6_link_33 : decode cX6_link 33 = .ok (.iconst 0, 1) := by decide +kernel
theorem dX6_link_34 : decode cX6_link 34 = .ok (.invokevirtual 367, 3) := by decide +kernel
theorem dX6_link_37 : decode cX6_link 37 = .ok (.goto 13, 3) := by decide +kernel
theorem dX6_link_40 : decode cX6_link 40 = .ok (.aload_n 2, 1) := by decide +kernel
theorem dX6_link_41 : decode cX6_link 41 = .ok (.aload_n 1, 1) := by decide +kernel
theorem dX6_link_42 : decode cX6_link 42 = .ok (.if_acmp .eq 8, 3) := by decide +kernel
theorem dX6_link_45 : decode cX6_link 45 = .ok (.aload_n 1, 1) := by decide +kernel
theorem dX6_link_46 : decode cX6_link 46 = .ok (.aload_n 2, 1) := by decide +kernel
theorem dX6_link_47 : decode cX6_link 47 = .ok (.invokevirtual 345, 3) := by decide +kernel
theorem dX6_link_50 : decode cX6_link 50 = .ok (.iconst (-1), 1) := by decide +kernel
theorem dX6_link_51 : decode cX6_link 51 = .ok (.ireturn, 1) := by decide +kernel
theorem dX6_unlink_0 : decode cX6_unlink 0 = .ok (.aload_n 1, 1) := by decide +kernel
theorem dX6_unlink_1 : decode cX6_unlink 1 = .ok (.ifnonnull 5, 3) := by decide +kernel
theorem dX6_unlink_4 : decode cX6_unlink 4 = .ok (.iconst 4, 1) := by decide +kernel
theorem dX6_unlink_5 : decode cX6_unlink 5 = .ok (.ireturn, 1) := by decide +kernel
theorem dX6_unlink_6 : decode cX6_unlink 6 = .ok (.aload_n 0, 1) := by decide +kernel
theorem dX6_unlink_7 : decode cX6_unlink 7 = .ok (.aload_n 1, 1) := by decide +kernel
theorem dX6_unlink_8 : decode cX6_unlink 8 = .ok (.invokevirtual 371, 3) := by decide +kernel
theorem dX6_unlink_11 : decode cX6_unlink 11 = .ok (.iconst (-1), 1) := by decide +kernel
theorem dX6_unlink_12 : decode cX6_unlink 12 = .ok (.ireturn, 1) := by decide +kernel
theorem dX6_watch_0 : decode cX6_watch 0 = .ok (.aload_n 3, 1) := by decide +kernel
theorem dX6_watch_1 : decode cX6_watch 1 = .ok (.ifnonnull 5, 3) := by decide +kernel
theorem dX6_watch_4 : decode cX6_watch 4 = .ok (.iconst 4, 1) := by decide +kernel
theorem dX6_watch_5 : decode cX6_watch 5 = .ok (.ireturn, 1) := by decide +kernel
theorem dX6_watch_6 : decode cX6_watch 6 = .ok (.aload_n 0, 1) := by decide +kernel
theorem dX6_watch_7 : decode cX6_watch 7 = .ok (.getfield 28, 3) := by decide +kernel
theorem dX6_watch_10 : decode cX6_watch 10 = .ok (.invokevirtual 374, 3) := by decide +kernel
theorem dX6_watch_13 : decode cX6_watch 13 = .ok (.ifCond .eq 5, 3) := by decide +kernel
theorem dX6_watch_16 : decode cX6_watch 16 = .ok (.iconst 5, 1) := by decide +kernel
theorem dX6_watch_17 : decode cX6_watch 17 = .ok (.ireturn, 1) := by decide +kernel
theorem dX6_watch_18 : decode cX6_watch 18 = .ok (.aload_n 0, 1) := by decide +kernel
theorem dX6_watch_19 : decode cX6_watch 19 = .ok (.getfield 28, 3) := by decide +kernel
theorem dX6_watch_22 : decode cX6_watch 22 = .ok (.invokevirtual 378, 3) := by decide +kernel
theorem dX6_watch_25 : decode cX6_watch 25 = .ok (.istore 4, 2) := by decide +kernel
theorem dX6_watch_27 : decode cX6_watch 27 = .ok (.aload_n 2, 1) := by decide +kernel
theorem dX6_watch_28 : decode cX6_watch 28 = .ok (.iconst 0, 1) := by decide +kernel
theorem dX6_watch_29 : decode cX6_watch 29 = .ok (.iload 4, 2) := by decide +kernel
theorem dX6_watch_31 : decode cX6_watch 31 = .ok (.invokevirtual 95, 3) := by decide +kernel
theorem dX6_watch_34 : decode cX6_watch 34 = .ok (.aload_n 3, 1) := by decide +kernel
theorem dX6_watch_35 : decode cX6_watch 35 = .ok (.getfield 142, 3) := by decide +kernel
theorem dX6_watch_38 : decode cX6_watch 38 = .ok (.iconst 2, 1) := by decide +kernel
theorem dX6_watch_39 : decode cX6_watch 39 = .ok (.if_icmp .ne 42, 3) := by decide +kernel
theorem dX6_watch_42 : decode cX6_watch 42 = .ok (.aload_n 0, 1) := by decide +kernel
theorem dX6_watch_43 : decode cX6_watch 43 = .ok (.getfield 46, 3) := by decide +kernel
theorem dX6_watch_46 : decode cX6_watch 46 = .ok (.iconst 1, 1) := by decide +kernel
theorem dX6_watch_47 : decode cX6_watch 47 = .ok (.iconst 3, 1) := by decide +kernel
theorem dX6_watch_48 : decode cX6_watch 48 = .ok (.invokevirtual 95, 3) := by decide +kernel
theorem dX6_watch_51 : decode cX6_watch 51 = .ok (.aload_n 0, 1) := by decide +kernel
theorem dX6_watch_52 : decode cX6_watch 52 = .ok (.getfield 42, 3) := by decide +kernel
theorem dX6_watch_55 : decode cX6_watch 55 = .ok (.iload 4, 2) := by decide +kernel
theorem dX6_watch_57 : decode cX6_watch 57 = .ok (.aload_n 3, 1) := by decide +kernel
theorem dX6_watch_58 : decode cX6_watch 58 = .ok (.getfield 88, 3) := by decide +kernel
theorem dX6_watch_61 : decode cX6_watch 61 = .ok (.aload_n 0, 1) := by decide +kernel
theorem dX6_watch_62 : decode cX6_watch 62 = .ok (.getfield 46, 3) := by decide +kernel
theorem dX6_watch_65 : decode cX6_watch 65 = .ok (.invokevirtual 381, 3) := by decide +kernel
theorem dX6_watch_68 : decode cX6_watch 68 = .ok (.aload_n 0, 1) := by decide +kernel
theorem dX6_watch_69 : decode cX6_watch 69 = .ok (.aload_n 1, 1) := by decide +kernel
theorem dX6_watch_70 : decode cX6_watch 70 = .ok (.aload_n 0, 1) := by decide +kernel
theorem dX6_watch_71 : decode cX6_watch 71 = .ok (.getfield 42, 3) := by decide +kernel
theorem dX6_watch_74 : decode cX6_watch 74 = .ok (.invokevirtual 99, 3) := by decide +kernel
theorem dX6_watch_77 : decode cX6_watch 77 = .ok (.pop, 1) := by decide +kernel
theorem dX6_watch_78 : decode cX6_watch 78 = .ok (.goto 20, 3) := by decide +kernel
theorem dX6_watch_81 : decode cX6_watch 81 = .ok (.aload_n 0, 1) := by decide +kernel
theorem dX6_watch_82 : decode cX6_watch 82 = .ok (.getfield 28, 3) := by decide +kernel
theorem dX6_watch_85 : decode cX6_watch 85 = .ok (.iload 4, 2) := by decide +kernel
theorem dX6_watch_87 : decode cX6_watch 87 = .ok (.aload_n 1, 1) := by decide +kernel
theorem dX6_watch_88 : decode cX6_watch 88 = .ok (.getfield 88, 3) := by decide +kernel
theorem dX6_watch_91 : decode cX6_watch 91 = .ok (.aload_n 3, 1) := by decide +kernel
theorem dX6_watch_92 : decode cX6_watch 92 = .ok (.getfield 88, 3) := by decide +kernel
theorem dX6_watch_95 : decode cX6_watch 95 = .ok (.invokevirtual 385, 3) := by decide +kernel
theorem dX6_watch_98 : decode cX6_watch 98 = .ok (.iconst (-1), 1) := by decide +kernel
theorem dX6_watch_99 : decode cX6_watch 99 = .ok (.ireturn, 1) := by decide +kernel
theorem dX6_exit_0 : decode cX6_exit 0 = .ok (.aload_n 2, 1) := by decide +kernel
theorem dX6_exit_1 : decode cX6_exit 1 = .ok (.ifnonnull 5, 3) := by decide +kernel
theorem dX6_exit_4 : decode cX6_exit 4 = .ok (.iconst 4, 1) := by decide +kernel
theorem dX6_exit_5 : decode cX6_exit 5 = .ok (.ireturn, 1) := by decide +kernel
theorem dX6_exit_6 : decode cX6_exit 6 = .ok (.aload_n 0, 1) := by decide +kernel
theorem dX6_exit_7 : decode cX6_exit 7 = .ok (.aload_n 2, 1) := by decide +kernel
theorem dX6_exit_8 : decode cX6_exit 8 = .ok (.aload_n 1, 1) := by decide +kernel
theorem dX6_exit_9 : decode cX6_exit 9 = .ok (.getfield 88, 3) := by decide +kernel
theorem dX6_exit_12 : decode cX6_exit 12 = .ok (.aload_n 3, 1) := by decide +kernel
theorem dX6_exit_13 : decode cX6_exit 13 = .ok (.iconst 1, 1) := by decide +kernel
theorem dX6_exit_14 : decode cX6_exit 14 = .ok (.invokevirtual 367, 3) := by decide +kernel
theorem dX6_exit_17 : decode cX6_exit 17 = .ok (.iconst (-1), 1) := by decide +kernel
theorem dX6_exit_18 : decode cX6_exit 18 = .ok (.ireturn, 1) := by decide +kernel
theorem dX6_trap_0 : decode cX6_trap 0 = .ok (.aload_n 0, 1) := by decide +kernel
theorem dX6_trap_1 : decode cX6_trap 1 = .ok (.iload_n 1, 1) := by decide +kernel
theorem dX6_trap_2 : decode cX6_trap 2 = .ok (.putfield 389, 3) := by decide +kernel
theorem dX6_trap_5 : decode cX6_trap 5 = .ok (.iconst (-1), 1) := by decide +kernel
theorem dX6_trap_6 : decode cX6_trap 6 = .ok (.ireturn, 1) := by decide +kernel
theorem dX6_takeName_0 : decode cX6_takeName 0 = .ok (.aload_n 1, 1) := by decide +kernel
theorem dX6_takeName_1 : decode cX6_takeName 1 = .ok (.getfield 393, 3) := by decide +kernel
theorem dX6_takeName_4 : decode cX6_takeName 4 = .ok (.iconst (-1), 1) := by decide +kernel
theorem dX6_takeName_5 : decode cX6_takeName 5 = .ok (.if_icmp .ne 12, 3) := by decide +kernel
theorem dX6_takeName_8 : decode cX6_takeName 8 = .ok (.aload_n 0, 1) := by decide +kernel
theorem dX6_takeName_9 : decode cX6_takeName 9 = .ok (.getfield 19, 3) := by decide +kernel
theorem dX6_takeName_12 : decode cX6_takeName 12 = .ok (.iload_n 2, 1) := by decide +kernel
theorem dX6_takeName_13 : decode cX6_takeName 13 = .ok (.aaload, 1) := by decide +kernel
theorem dX6_takeName_14 : decode cX6_takeName 14 = .ok (.ifnull 5, 3) := by decide +kernel
theorem dX6_takeName_17 : decode cX6_takeName 17 = .ok (.iconst 4, 1) := by decide +kernel
theorem dX6_takeName_18 : decode cX6_takeName 18 = .ok (.ireturn, 1) := by decide +kernel
theorem dX6_takeName_19 : decode cX6_takeName 19 = .ok (.aload_n 1, 1) := by decide +kernel
theorem dX6_takeName_20 : decode cX6_takeName 20 = .ok (.iload_n 2, 1) := by decide +kernel
theorem dX6_takeName_21 : decode cX6_takeName 21 = .ok (.putfield 393, 3) := by decide +kernel
theorem dX6_takeName_24 : decode cX6_takeName 24 = .ok (.aload_n 0, 1) := by decide +kernel
theorem dX6_takeName_25 : decode cX6_takeName 25 = .ok (.getfield 19, 3) := by decide +kernel
theorem dX6_takeName_28 : decode cX6_takeName 28 = .ok (.iload_n 2, 1) := by decide +kernel
theorem dX6_takeName_29 : decode cX6_takeName 29 = .ok (.aload_n 1, 1) := by decide +kernel
theorem dX6_takeName_30 : decode cX6_takeName 30 = .ok (.aastore, 1) := by decide +kernel
theorem dX6_takeName_31 : decode cX6_takeName 31 = .ok (.iconst (-1), 1) := by decide +kernel
theorem dX6_takeName_32 : decode cX6_takeName 32 = .ok (.ireturn, 1) := by decide +kernel
theorem dX6_lookUp_0 : decode cX6_lookUp 0 = .ok (.aload_n 1, 1) := by decide +kernel
theorem dX6_lookUp_1 : decode cX6_lookUp 1 = .ok (.ifnonnull 12, 3) := by decide +kernel
theorem dX6_lookUp_4 : decode cX6_lookUp 4 = .ok (.aload_n 0, 1) := by decide +kernel
theorem dX6_lookUp_5 : decode cX6_lookUp 5 = .ok (.iconst 1, 1) := by decide +kernel
theorem dX6_lookUp_6 : decode cX6_lookUp 6 = .ok (.iconst 3, 1) := by decide +kernel
theorem dX6_lookUp_7 : decode cX6_lookUp 7 = .ok (.invokevirtual 95, 3) := by decide +kernel
theorem dX6_lookUp_10 : decode cX6_lookUp 10 = .ok (.goto 12, 3) := by decide +kernel
theorem dX6_lookUp_13 : decode cX6_lookUp 13 = .ok (.aload_n 0, 1) := by decide +kernel
theorem dX6_lookUp_14 : decode cX6_lookUp 14 = .ok (.iconst 2, 1) := by decide +kernel
theorem dX6_lookUp_15 : decode cX6_lookUp 15 = .ok (.aload_n 1, 1) := by decide +kernel
theorem dX6_lookUp_16 : decode cX6_lookUp 16 = .ok (.getfield 88, 3) := by decide +kernel
theorem dX6_lookUp_19 : decode cX6_lookUp 19 = .ok (.invokevirtual 95, 3) := by decide +kernel
theorem dX6_lookUp_22 : decode cX6_lookUp 22 = .ok (.iconst (-1), 1) := by decide +kernel
theorem dX6_lookUp_23 : decode cX6_lookUp 23 = .ok (.ireturn, 1) := by decide +kernel
theorem dX6_print_0 : decode cX6_print 0 = .ok (.aload_n 0, 1) := by decide +kernel
theorem dX6_print_1 : decode cX6_print 1 = .ok (.getfield 35, 3) := by decide +kernel
theorem dX6_print_4 : decode cX6_print 4 = .ok (.aload_n 1, 1) := by decide +kernel
theorem dX6_print_5 : decode cX6_print 5 = .ok (.invokevirtual 396, 3) := by decide +kernel
theorem dX6_print_8 : decode cX6_print 8 = .ok (.iconst (-1), 1) := by decide +kernel
theorem dX6_print_9 : decode cX6_print 9 = .ok (.ireturn, 1) := by decide +kernel
theorem dX6_getExit_0 : decode cX6_getExit 0 = .ok (.aload_n 1, 1) := by decide +kernel
theorem dX6_getExit_1 : decode cX6_getExit 1 = .ok (.getfield 142, 3) := by decide +kernel
theorem dX6_getExit_4 : decode cX6_getExit 4 = .ok (.iconst 2, 1) := by decide +kernel
theorem dX6_getExit_5 : decode cX6_getExit 5 = .ok (.if_icmp .ne 4, 3) := by decide +kernel
theorem dX6_getExit_8 : decode cX6_getExit 8 = .ok (.return_, 1) := by decide +kernel
theorem dX6_getExit_9 : decode cX6_getExit 9 = .ok (.iload 4, 2) := by decide +kernel
theorem dX6_getExit_11 : decode cX6_getExit 11 = .ok (.ifCond .eq 32, 3) := by decide +kernel
theorem dX6_getExit_14 : decode cX6_getExit 14 = .ok (.aload_n 3, 1) := by decide +kernel
theorem dX6_getExit_15 : decode cX6_getExit 15 = .ok (.iconst 1, 1) := by decide +kernel
theorem dX6_getExit_16 : decode cX6_getExit 16 = .ok (.invokevirtual 398, 3) := by decide +kernel
theorem dX6_getExit_19 : decode cX6_getExit 19 = .ok (.ifCond .eq 24, 3) := by decide +kernel
theorem dX6_getExit_22 : decode cX6_getExit 22 = .ok (.aload_n 0, 1) := by decide +kernel
theorem dX6_getExit_23 : decode cX6_getExit 23 = .ok (.getfield 46, 3) := by decide +kernel
theorem dX6_getExit_26 : decode cX6_getExit 26 = .ok (.iconst 1, 1) := by decide +kernel
theorem dX6_getExit_27 : decode cX6_getExit 27 = .ok (.iconst 2, 1) := by decide +kernel
theorem dX6_getExit_28 : decode cX6_getExit 28 = .ok (.invokevirtual 95, 3) := by decide +kernel
theorem dX6_getExit_31 : decode cX6_getExit 31 = .ok (.aload_n 0, 1) := by decide +kernel
theorem dX6_getExit_32 : decode cX6_getExit 32 = .ok (.aload_n 1, 1) := by decide +kernel
theorem dX6_getExit_33 : decode cX6_getExit 33 = .ok (.aload_n 0, 1) := by decide +kernel
theorem dX6_getExit_34 : decode cX6_getExit 34 = .ok (.getfield 46, 3) := by decide +kernel
theorem dX6_getExit_37 : decode cX6_getExit 37 = .ok (.invokevirtual 333, 3) := by decide +kernel
theorem dX6_getExit_40 : decode cX6_getExit 40 = .ok (.goto 54, 3) := by decide +kernel
theorem dX6_getExit_43 : decode cX6_getExit 43 = .ok (.aload_n 1, 1) := by decide +kernel
theorem dX6_getExit_44 : decode cX6_getExit 44 = .ok (.getfield 389, 3) := by decide +kernel
theorem dX6_getExit_47 : decode cX6_getExit 47 = .ok (.ifCond .eq 25, 3) := by decide +kernel
theorem dX6_getExit_50 : decode cX6_getExit 50 = .ok (.aload_n 0, 1) := by decide +kernel
theorem dX6_getExit_51 : decode cX6_getExit 51 = .ok (.getfield 42, 3) := by decide +kernel
theorem dX6_getExit_54 : decode cX6_getExit 54 = .ok (.iload_n 2, 1) := by decide +kernel
theorem dX6_getExit_55 : decode cX6_getExit 55 = .ok (.aload_n 3, 1) := by decide +kernel
theorem dX6_getExit_56 : decode cX6_getExit 56 = .ok (.invokevirtual 401, 3) := by decide +kernel
theorem dX6_getExit_59 : decode cX6_getExit 59 = .ok (.aload_n 0, 1) := by decide +kernel
theorem dX6_getExit_60 : decode cX6_getExit 60 = .ok (.aload_n 1, 1) := by decide +kernel
theorem dX6_getExit_61 : decode cX6_getExit 61 = .ok (.aload_n 0, 1) := by decide +kernel
theorem dX6_getExit_62 : decode cX6_getExit 62 = .ok (.getfield 42, 3) := by decide +kernel
theorem dX6_getExit_65 : decode cX6_getExit 65 = .ok (.invokevirtual 99, 3) := by decide +kernel
theorem dX6_getExit_68 : decode cX6_getExit 68 = .ok (.pop, 1) := by decide +kernel
theorem dX6_getExit_69 : decode cX6_getExit 69 = .ok (.goto 25, 3) := by decide +kernel
theorem dX6_getExit_72 : decode cX6_getExit 72 = .ok (.iload_n 2, 1) := by decide +kernel
theorem dX6_getExit_73 : decode cX6_getExit 73 = .ok (.aload_n 1, 1) := by decide +kernel
theorem dX6_getExit_74 : decode cX6_getExit 74 = .ok (.getfield 88, 3) := by decide +kernel
theorem dX6_getExit_77 : decode cX6_getExit 77 = .ok (.if_icmp .eq 11, 3) := by decide +kernel
theorem dX6_getExit_80 : decode cX6_getExit 80 = .ok (.aload_n 3, 1) := by decide +kernel
theorem dX6_getExit_81 : decode cX6_getExit 81 = .ok (.iconst 0, 1) := by decide +kernel
theorem dX6_getExit_82 : decode cX6_getExit 82 = .ok (.invokevirtual 398, 3) := by decide +kernel
theorem dX6_getExit_85 : decode cX6_getExit 85 = .ok (.ifCond .ne 9, 3) := by decide +kernel
theorem dX6_getExit_88 : decode cX6_getExit 88 = .ok (.aload_n 0, 1) := by decide +kernel
theorem dX6_getExit_89 : decode cX6_getExit 89 = .ok (.aload_n 1, 1) := by decide +kernel
theorem dX6_getExit_90 : decode cX6_getExit 90 = .ok (.aload_n 3, 1) := by decide +kernel
theorem dX6_getExit_91 : decode cX6_getExit 91 = .ok (.invokevirtual 333, 3) := by decide +kernel
theorem dX6_getExit_94 : decode cX6_getExit 94 = .ok (.return_, 1) := by decide +kernel
theorem dX6_die_0 : decode cX6_die 0 = .ok (.aload_n 1, 1) := by decide +kernel
theorem dX6_die_1 : decode cX6_die 1 = .ok (.getfield 142, 3) := by decide +kernel
theorem dX6_die_4 : decode cX6_die 4 = .ok (.iconst 2, 1) := by decide +kernel
theorem dX6_die_5 : decode cX6_die 5 = .ok (.if_icmp .eq 12, 3) := by decide +kernel
theorem dX6_die_8 : decode cX6_die 8 = .ok (.aload_n 0, 1) := by decide +kernel
theorem dX6_die_9 : decode cX6_die 9 = .ok (.getfield 53, 3) := by decide +kernel
theorem dX6_die_12 : decode cX6_die 12 = .ok (.bipush 60, 2) := by decide +kernel
theorem dX6_die_14 : decode cX6_die 14 = .ok (.if_icmp .lt 4, 3) := by decide +kernel
theorem dX6_die_17 : decode cX6_die 17 = .ok (.return_, 1) := by decide +kernel
theorem dX6_die_18 : decode cX6_die 18 = .ok (.aload_n 1, 1) := by decide +kernel
theorem dX6_die_19 : decode cX6_die 19 = .ok (.iconst 2, 1) := by decide +kernel
theorem dX6_die_20 : decode cX6_die 20 = .ok (.putfield 142, 3) := by decide +kernel
theorem dX6_die_23 : decode cX6_die 23 = .ok (.aload_n 1, 1) := by decide +kernel
theorem dX6_die_24 : decode cX6_die 24 = .ok (.getfield 145, 3) := by decide +kernel
theorem dX6_die_27 : decode cX6_die 27 = .ok (.aload_n 2, 1) := by decide +kernel
theorem dX6_die_28 : decode cX6_die 28 = .ok (.invokevirtual 323, 3) := by decide +kernel
theorem dX6_die_31 : decode cX6_die 31 = .ok (.aload_n 1, 1) := by decide +kernel
theorem dX6_die_32 : decode cX6_die 32 = .ok (.getfield 393, 3) := by decide +kernel
theorem dX6_die_35 : decode cX6_die 35 = .ok (.iconst (-1), 1) := by decide +kernel
theorem dX6_die_36 : decode cX6_die 36 = .ok (.if_icmp .eq 18, 3) := by decide +kernel
theorem dX6_die_39 : decode cX6_die 39 = .ok (.aload_n 0, 1) := by decide +kernel
theorem dX6_die_40 : decode cX6_die 40 = .ok (.getfield 19, 3) := by decide +kernel
theorem dX6_die_43 : decode cX6_die 43 = .ok (.aload_n 1, 1) := by decide +kernel
theorem dX6_die_44 : decode cX6_die 44 = .ok (.getfield 393, 3) := by decide +kernel
theorem dX6_die_47 : decode cX6_die 47 = .ok (.aconst_null, 1) := by decide +kernel
theorem dX6_die_48 : decode cX6_die 48 = .ok (.aastore, 1) := by decide +kernel
theorem dX6_die_49 : decode cX6_die 49 = .ok (.aload_n 1, 1) := by decide +kernel
theorem dX6_die_50 : decode cX6_die 50 = .ok (.iconst (-1), 1) := by decide +kernel
theorem dX6_die_51 : decode cX6_die 51 = .ok (.putfield 393, 3) := by decide +kernel
theorem dX6_die_54 : decode cX6_die 54 = .ok (.aload_n 1, 1) := by decide +kernel
theorem dX6_die_55 : decode cX6_die 55 = .ok (.getfield 114, 3) := by decide +kernel
theorem dX6_die_58 : decode cX6_die 58 = .ok (.invokevirtual 405, 3) := by decide +kernel
theorem dX6_die_61 : decode cX6_die 61 = .ok (.aload_n 1, 1) := by decide +kernel
theorem dX6_die_62 : decode cX6_die 62 = .ok (.getfield 250, 3) := by decide +kernel
theorem dX6_die_65 : decode cX6_die 65 = .ok (.invokevirtual 408, 3) := by decide +kernel
theorem dX6_die_68 : decode cX6_die 68 = .ok (.aload_n 0, 1) := by decide +kernel
theorem dX6_die_69 : decode cX6_die 69 = .ok (.getfield 28, 3) := by decide +kernel
theorem dX6_die_72 : decode cX6_die 72 = .ok (.aload_n 1, 1) := by decide +kernel
theorem dX6_die_73 : decode cX6_die 73 = .ok (.getfield 88, 3) := by decide +kernel
theorem dX6_die_76 : decode cX6_die 76 = .ok (.invokevirtual 409, 3) := by decide +kernel
theorem dX6_die_79 : decode cX6_die 79 = .ok (.aload_n 0, 1) := by decide +kernel
theorem dX6_die_80 : decode cX6_die 80 = .ok (.getfield 22, 3) := by decide +kernel
theorem dX6_die_83 : decode cX6_die 83 = .ok (.aload_n 0, 1) := by decide +kernel
theorem dX6_die_84 : decode cX6_die 84 = .ok (.getfield 53, 3) := by decide +kernel
theorem dX6_die_87 : decode cX6_die 87 = .ok (.aload_n 1, 1) := by decide +kernel
theorem dX6_die_88 : decode cX6_die 88 = .ok (.aastore, 1) := by decide +kernel
theorem dX6_die_89 : decode cX6_die 89 = .ok (.aload_n 0, 1) := by decide +kernel
theorem dX6_die_90 : decode cX6_die 90 = .ok (.dup, 1) := by decide +kernel
theorem dX6_die_91 : decode cX6_die 91 = .ok (.getfield 53, 3) := by decide +kernel
theorem dX6_die_94 : decode cX6_die 94 = .ok (.iconst 1, 1) := by decide +kernel
theorem dX6_die_95 : decode cX6_die 95 = .ok (.iadd, 1) := by decide +kernel
theorem dX6_die_96 : decode cX6_die 96 = .ok (.putfield 53, 3) := by decide +kernel
theorem dX6_die_99 : decode cX6_die 99 = .ok (.return_, 1) := by decide +kernel
theorem dX6_spreadDeaths_0 : decode cX6_spreadDeaths 0 = .ok (.iconst 0, 1) := by decide +kernel
theorem dX6_spreadDeaths_1 : decode cX6_spreadDeaths 1 = .ok (.istore_n 1, 1) := by decide +kernel
theorem dX6_spreadDeaths_2 : decode cX6_spreadDeaths 2 = .ok (.iload_n 1, 1) := by decide +kernel
theorem dX6_spreadDeaths_3 : decode cX6_spreadDeaths 3 = .ok (.bipush 60, 2) := by decide +kernel
theorem dX6_spreadDeaths_5 : decode cX6_spreadDeaths 5 = .ok (.if_icmp .ge 50, 3) := by decide +kernel
theorem dX6_spreadDeaths_8 : decode cX6_spreadDeaths 8 = .ok (.aload_n 0, 1) := by decide +kernel
theorem dX6_spreadDeaths_9 : decode cX6_spreadDeaths 9 = .ok (.getfield 56, 3) := by decide +kernel
theorem dX6_spreadDeaths_12 : decode cX6_spreadDeaths 12 = .ok (.aload_n 0, 1) := by decide +kernel
theorem dX6_spreadDeaths_13 : decode cX6_spreadDeaths 13 = .ok (.getfield 53, 3) := by decide +kernel
theorem dX6_spreadDeaths_16 : decode cX6_spreadDeaths 16 = .ok (.if_icmp .ge 39, 3) := by decide +kernel
theorem dX6_spreadDeaths_19 : decode cX6_spreadDeaths 19 = .ok (.aload_n 0, 1) := by decide +kernel
theorem dX6_spreadDeaths_20 : decode cX6_spreadDeaths 20 = .ok (.getfield 22, 3) := by decide +kernel
theorem dX6_spreadDeaths_23 : decode cX6_spreadDeaths 23 = .ok (.aload_n 0, 1) := by decide +kernel
theorem dX6_spreadDeaths_24 : decode cX6_spreadDeaths 24 = .ok (.getfield 56, 3) := by decide +kernel
theorem dX6_spreadDeaths_27 : decode cX6_spreadDeaths 27 = .ok (.aaload, 1) := by decide +kernel
theorem dX6_spreadDeaths_28 : decode cX6_spreadDeaths 28 = .ok (.astore_n 2, 1) := by decide +kernel
theorem dX6_spreadDeaths_29 : decode cX6_spreadDeaths 29 = .ok (.aload_n 0, 1) := by decide +kernel
theorem dX6_spreadDeaths_30 : decode cX6_spreadDeaths 30 = .ok (.dup, 1) := by decide +kernel
theorem dX6_spreadDeaths_31 : decode cX6_spreadDeaths 31 = .ok (.getfield 56, 3) := by decide +kernel
theorem dX6_spreadDeaths_34 : decode cX6_spreadDeaths 34 = .ok (.iconst 1, 1) := by decide +kernel
theorem dX6_spreadDeaths_35 : decode cX6_spreadDeaths 35 = .ok (.iadd, 1) := by decide +kernel
theorem dX6_spreadDeaths_36 : decode cX6_spreadDeaths 36 = .ok (.putfield 56, 3) := by decide +kernel
theorem dX6_spreadDeaths_39 : decode cX6_spreadDeaths 39 = .ok (.aload_n 0, 1) := by decide +kernel
theorem dX6_spreadDeaths_40 : decode cX6_spreadDeaths 40 = .ok (.aload_n 2, 1) := by decide +kernel
theorem dX6_spreadDeaths_41 : decode cX6_spreadDeaths 41 = .ok (.invokevirtual 413, 3) := by decide +kernel
theorem dX6_spreadDeaths_44 : decode cX6_spreadDeaths 44 = .ok (.aload_n 0, 1) := by decide +kernel
theorem dX6_spreadDeaths_45 : decode cX6_spreadDeaths 45 = .ok (.aload_n 2, 1) := by decide +kernel
theorem dX6_spreadDeaths_46 : decode cX6_spreadDeaths 46 = .ok (.invokevirtual 416, 3) := by decide +kernel
theorem dX6_spreadDeaths_49 : decode cX6_spreadDeaths 49 = .ok (.iinc 1 1, 3) := by decide +kernel
theorem dX6_spreadDeaths_52 : decode cX6_spreadDeaths 52 = .ok (.goto (-50), 3) := by decide +kernel
theorem dX6_spreadDeaths_55 : decode cX6_spreadDeaths 55 = .ok (.return_, 1) := by decide +kernel
theorem dX6_tellLinked_0 : decode cX6_tellLinked 0 = .ok (.iconst 0, 1) := by decide +kernel
theorem dX6_tellLinked_1 : decode cX6_tellLinked 1 = .ok (.istore_n 2, 1) := by decide +kernel
theorem dX6_tellLinked_2 : decode cX6_tellLinked 2 = .ok (.iload_n 2, 1) := by decide +kernel
theorem dX6_tellLinked_3 : decode cX6_tellLinked 3 = .ok (.aload_n 0, 1) := by decide +kernel
theorem dX6_tellLinked_4 : decode cX6_tellLinked 4 = .ok (.getfield 49, 3) := by decide +kernel
theorem dX6_tellLinked_7 : decode cX6_tellLinked 7 = .ok (.if_icmp .ge 43, 3) := by decide +kernel
theorem dX6_tellLinked_10 : decode cX6_tellLinked 10 = .ok (.aload_n 0, 1) := by decide +kernel
theorem dX6_tellLinked_11 : decode cX6_tellLinked 11 = .ok (.getfield 15, 3) := by decide +kernel
theorem dX6_tellLinked_14 : decode cX6_tellLinked 14 = .ok (.iload_n 2, 1) := by decide +kernel
theorem dX6_tellLinked_15 : decode cX6_tellLinked 15 = .ok (.aaload, 1) := by decide +kernel
theorem dX6_tellLinked_16 : decode cX6_tellLinked 16 = .ok (.astore_n 3, 1) := by decide +kernel
theorem dX6_tellLinked_17 : decode cX6_tellLinked 17 = .ok (.aload_n 1, 1) := by decide +kernel
theorem dX6_tellLinked_18 : decode cX6_tellLinked 18 = .ok (.aload_n 3, 1) := by decide +kernel
theorem dX6_tellLinked_19 : decode cX6_tellLinked 19 = .ok (.invokevirtual 419, 3) := by decide +kernel
theorem dX6_tellLinked_22 : decode cX6_tellLinked 22 = .ok (.ifCond .eq 22, 3) := by decide +kernel
theorem dX6_tellLinked_25 : decode cX6_tellLinked 25 = .ok (.aload_n 1, 1) := by decide +kernel
theorem dX6_tellLinked_26 : decode cX6_tellLinked 26 = .ok (.aload_n 3, 1) := by decide +kernel
theorem dX6_tellLinked_27 : decode cX6_tellLinked 27 = .ok (.invokevirtual 371, 3) := by decide +kernel
theorem dX6_tellLinked_30 : decode cX6_tellLinked 30 = .ok (.aload_n 0, 1) := by decide +kernel
theorem dX6_tellLinked_31 : decode cX6_tellLinked 31 = .ok (.aload_n 3, 1) := by decide +kernel
theorem dX6_tellLinked_32 : decode cX6_tellLinked 32 = .ok (.aload_n 1, 1) := by decide +kernel
theorem dX6_tellLinked_33 : decode cX6_tellLinked 33 = .ok (.getfield 88, 3) := by decide +kernel
theorem dX6_tellLinked_36 : decode cX6_tellLinked 36 = .ok (.aload_n 1, 1) := by decide +kernel
theorem dX6_tellLinked_37 : decode cX6_tellLinked 37 = .ok (.getfield 145, 3) := by decide +kernel
theorem dX6_tellLinked_40 : decode cX6_tellLinked 40 = .ok (.iconst 0, 1) := by decide +kernel
theorem dX6_tellLinked_41 : decode cX6_tellLinked 41 = .ok (.invokevirtual 367, 3) := by decide +kernel
theorem dX6_tellLinked_44 : decode cX6_tellLinked 44 = .ok (.iinc 2 1, 3) := by decide +kernel
theorem dX6_tellLinked_47 : decode cX6_tellLinked 47 = .ok (.goto (-45), 3) := by decide +kernel
theorem dX6_tellLinked_50 : decode cX6_tellLinked 50 = .ok (.return_, 1) := by decide +kernel
theorem dX6_tellWatchers_0 : decode cX6_tellWatchers 0 = .ok (.iconst 0, 1) := by decide +kernel
theorem dX6_tellWatchers_1 : decode cX6_tellWatchers 1 = .ok (.istore_n 2, 1) := by decide +kernel
theorem dX6_tellWatchers_2 : decode cX6_tellWatchers 2 = .ok (.iload_n 2, 1) := by decide +kernel
theorem dX6_tellWatchers_3 : decode cX6_tellWatchers 3 = .ok (.aload_n 0, 1) := by decide +kernel
theorem dX6_tellWatchers_4 : decode cX6_tellWatchers 4 = .ok (.getfield 28, 3) := by decide +kernel
theorem dX6_tellWatchers_7 : decode cX6_tellWatchers 7 = .ok (.getfield 423, 3) := by decide +kernel
theorem dX6_tellWatchers_10 : decode cX6_tellWatchers 10 = .ok (.if_icmp .ge 81, 3) := by decide +kernel
theorem dX6_tellWatchers_13 : decode cX6_tellWatchers 13 = .ok (.aload_n 0, 1) := by decide +kernel
theorem dX6_tellWatchers_14 : decode cX6_tellWatchers 14 = .ok (.getfield 28, 3) := by decide +kernel
theorem dX6_tellWatchers_17 : decode cX6_tellWatchers 17 = .ok (.getfield 426, 3) := by decide +kernel
theorem dX6_tellWatchers_20 : decode cX6_tellWatchers 20 = .ok (.iload_n 2, 1) := by decide +kernel
theorem dX6_tellWatchers_21 : decode cX6_tellWatchers 21 = .ok (.iaload, 1) := by decide +kernel
theorem dX6_tellWatchers_22 : decode cX6_tellWatchers 22 = .ok (.aload_n 1, 1) := by decide +kernel
theorem dX6_tellWatchers_23 : decode cX6_tellWatchers 23 = .ok (.getfield 88, 3) := by decide +kernel
theorem dX6_tellWatchers_26 : decode cX6_tellWatchers 26 = .ok (.if_icmp .ne 19, 3) := by decide +kernel
theorem dX6_tellWatchers_29 : decode cX6_tellWatchers 29 = .ok (.aload_n 0, 1) := by decide +kernel
theorem dX6_tellWatchers_30 : decode cX6_tellWatchers 30 = .ok (.aload_n 0, 1) := by decide +kernel
theorem dX6_tellWatchers_31 : decode cX6_tellWatchers 31 = .ok (.getfield 28, 3) := by decide +kernel
theorem dX6_tellWatchers_34 : decode cX6_tellWatchers 34 = .ok (.getfield 429, 3) := by decide +kernel
theorem dX6_tellWatchers_37 : decode cX6_tellWatchers 37 = .ok (.iload_n 2, 1) := by decide +kernel
theorem dX6_tellWatchers_38 : decode cX6_tellWatchers 38 = .ok (.iaload, 1) := by decide +kernel
theorem dX6_tellWatchers_39 : decode cX6_tellWatchers 39 = .ok (.invokevirtual 91, 3) := by decide +kernel
theorem dX6_tellWatchers_42 : decode cX6_tellWatchers 42 = .ok (.goto 4, 3) := by decide +kernel
theorem dX6_tellWatchers_45 : decode cX6_tellWatchers 45 = .ok (.aconst_null, 1) := by decide +kernel
theorem dX6_tellWatchers_46 : decode cX6_tellWatchers 46 = .ok (.astore_n 3, 1) := by decide +kernel
theorem dX6_tellWatchers_47 : decode cX6_tellWatchers 47 = .ok (.aload_n 3, 1) := by decide +kernel
theorem dX6_tellWatchers_48 : decode cX6_tellWatchers 48 = .ok (.ifnull 37, 3) := by decide +kernel
theorem dX6_tellWatchers_51 : decode cX6_tellWatchers 51 = .ok (.aload_n 0, 1) := by decide +kernel
theorem dX6_tellWatchers_52 : decode cX6_tellWatchers 52 = .ok (.getfield 42, 3) := by decide +kernel
theorem dX6_tellWatchers_55 : decode cX6_tellWatchers 55 = .ok (.aload_n 0, 1) := by decide +kernel
theorem dX6_tellWatchers_56 : decode cX6_tellWatchers 56 = .ok (.getfield 28, 3) := by decide +kernel
theorem dX6_tellWatchers_59 : decode cX6_tellWatchers 59 = .ok (.getfield 432, 3) := by decide +kernel
theorem dX6_tellWatchers_62 : decode cX6_tellWatchers 62 = .ok (.iload_n 2, 1) := by decide +kernel
theorem dX6_tellWatchers_63 : decode cX6_tellWatchers 63 = .ok (.iaload, 1) := by decide +kernel
theorem dX6_tellWatchers_64 : decode cX6_tellWatchers 64 = .ok (.aload_n 1, 1) := by decide +kernel
theorem dX6_tellWatchers_65 : decode cX6_tellWatchers 65 = .ok (.getfield 88, 3) := by decide +kernel
theorem dX6_tellWatchers_68 : decode cX6_tellWatchers 68 = .ok (.aload_n 1, 1) := by decide +kernel
theorem dX6_tellWatchers_69 : decode cX6_tellWatchers 69 = .ok (.getfield 145, 3) := by decide +kernel
theorem dX6_tellWatchers_72 : decode cX6_tellWatchers 72 = .ok (.invokevirtual 381, 3) := by decide +kernel
theorem dX6_tellWatchers_75 : decode cX6_tellWatchers 75 = .ok (.aload_n 0, 1) := by decide +kernel
theorem dX6_tellWatchers_76 : decode cX6_tellWatchers 76 = .ok (.aload_n 3, 1) := by decide +kernel
theorem dX6_tellWatchers_77 : decode cX6_tellWatchers 77 = .ok (.aload_n 0, 1) := by decide +kernel
theorem dX6_tellWatchers_78 : decode cX6_tellWatchers 78 = .ok (.getfield 42, 3) := by decide +kernel
theorem dX6_tellWatchers_81 : decode cX6_tellWatchers 81 = .ok (.invokevirtual 99, 3) := by decide +kernel
theorem dX6_tellWatchers_84 : decode cX6_tellWatchers 84 = .ok (.pop, 1) := by decide +kernel
theorem dX6_tellWatchers_85 : decode cX6_tellWatchers 85 = .ok (.iinc 2 1, 3) := by decide +kernel
theorem dX6_tellWatchers_88 : decode cX6_tellWatchers 88 = .ok (.goto (-86), 3) := by decide +kernel
theorem dX6_tellWatchers_91 : decode cX6_tellWatchers 91 = .ok (.aload_n 0, 1) := by decide +kernel
theorem dX6_tellWatchers_92 : decode cX6_tellWatchers 92 = .ok (.getfield 28, 3) := by decide +kernel
theorem dX6_tellWatchers_95 : decode cX6_tellWatchers 95 = .ok (.aload_n 1, 1) := by decide +kernel
theorem dX6_tellWatchers_96 : decode cX6_tellWatchers 96 = .ok (.getfield 88, 3) := by decide +kernel
theorem dX6_tellWatchers_99 : decode cX6_tellWatchers 99 = .ok (.invokevirtual 435, 3) := by decide +kernel
theorem dX6_tellWatchers_102 : decode cX6_tellWatchers 102 = .ok (.return_, 1) := by decide +kernel
theorem dX7_init_0 : decode cX7_init 0 = .ok (.aload_n 0, 1) := by decide +kernel
theorem dX7_init_1 : decode cX7_init 1 = .ok (.invokespecial 1, 3) := by decide +kernel
theorem dX7_init_4 : decode cX7_init 4 = .ok (.aload_n 0, 1) := by decide +kernel
theorem dX7_init_5 : decode cX7_init 5 = .ok (.ldc 7, 2) := by decide +kernel
theorem dX7_init_7 : decode cX7_init 7 = .ok (.newarray .int, 2) := by decide +kernel
theorem dX7_init_9 : decode cX7_init 9 = .ok (.putfield 8, 3) := by decide +kernel
theorem dX7_init_12 : decode cX7_init 12 = .ok (.aload_n 0, 1) := by decide +kernel
theorem dX7_init_13 : decode cX7_init 13 = .ok (.sipush 2945, 3) := by decide +kernel
theorem dX7_init_16 : decode cX7_init 16 = .ok (.newarray .int, 2) := by decide +kernel
theorem dX7_init_18 : decode cX7_init 18 = .ok (.putfield 14, 3) := by decide +kernel
theorem dX7_init_21 : decode cX7_init 21 = .ok (.aload_n 0, 1) := by decide +kernel
theorem dX7_init_22 : decode cX7_init 22 = .ok (.sipush 300, 3) := by decide +kernel
theorem dX7_init_25 : decode cX7_init 25 = .ok (.newarray .int, 2) := by decide +kernel
theorem dX7_init_27 : decode cX7_init 27 = .ok (.putfield 17, 3) := by decide +kernel
theorem dX7_init_30 : decode cX7_init 30 = .ok (.aload_n 0, 1) := by decide +kernel
theorem dX7_init_31 : decode cX7_init 31 = .ok (.sipush 300, 3) := by decide +kernel
theorem dX7_init_34 : decode cX7_init 34 = .ok (.newarray .int, 2) := by decide +kernel
theorem dX7_init_36 : decode cX7_init 36 = .ok (.putfield 20, 3) := by decide +kernel
theorem dX7_init_39 : decode cX7_init 39 = .ok (.aload_n 0, 1) := by decide +kernel
theorem dX7_init_40 : decode cX7_init 40 = .ok (.sipush 300, 3) := by decide +kernel
theorem dX7_init_43 : decode cX7_init 43 = .ok (.newarray .int, 2) := by decide +kernel
theorem dX7_init_45 : decode cX7_init 45 = .ok (.putfield 23, 3) := by decide +kernel
theorem dX7_init_48 : decode cX7_init 48 = .ok (.aload_n 0, 1) := by decide +kernel
theorem dX7_init_49 : decode cX7_init 49 = .ok (.sipush 300, 3) := by decide +kernel
theorem dX7_init_52 : decode cX7_init 52 = .ok (.newarray .int, 2) := by decide +kernel
theorem dX7_init_54 : decode cX7_init 54 = .ok (.putfield 26, 3) := by decide +kernel
theorem dX7_init_57 : decode cX7_init 57 = .ok (.aload_n 0, 1) := by decide +kernel
theorem dX7_init_58 : decode cX7_init 58 = .ok (.bipush 60, 2) := by decide +kernel
theorem dX7_init_60 : decode cX7_init 60 = .ok (.newarray .int, 2) := by decide +kernel
theorem dX7_init_62 : decode cX7_init 62 = .ok (.putfield 29, 3) := by decide +kernel
theorem dX7_init_65 : decode cX7_init 65 = .ok (.aload_n 0, 1) := by decide +kernel
theorem dX7_init_66 : decode cX7_init 66 = .ok (.bipush 60, 2) := by decide +kernel
theorem dX7_init_68 : decode cX7_init 68 = .ok (.newarray .int, 2) := by decide +kernel
theorem dX7_init_70 : decode cX7_init 70 = .ok (.putfield 32, 3) := by decide +kernel
theorem dX7_init_73 : decode cX7_init 73 = .ok (.aload_n 0, 1) := by decide +kernel
theorem dX7_init_74 : decode cX7_init 74 = .ok (.bipush 60, 2) := by decide +kernel
theorem dX7_init_76 : decode cX7_init 76 = .ok (.newarray .int, 2) := by decide +kernel
theorem dX7_init_78 : decode cX7_init 78 = .ok (.putfield 35, 3) := by decide +kernel
theorem dX7_init_81 : decode cX7_init 81 = .ok (.aload_n 0, 1) := by decide +kernel
theorem dX7_init_82 : decode cX7_init 82 = .ok (.bipush 60, 2) := by decide +kernel
theorem dX7_init_84 : decode cX7_init 84 = .ok (.newarray .int, 2) := by decide +kernel
theorem dX7_init_86 : decode cX7_init 86 = .ok (.putfield 38, 3) := by decide +kernel
theorem dX7_init_89 : decode cX7_init 89 = .ok (.aload_n 0, 1) := by decide +kernel
theorem dX7_init_90 : decode cX7_init 90 = .ok (.bipush 60, 2) := by decide +kernel
theorem dX7_init_92 : decode cX7_init 92 = .ok (.newarray .boolean, 2) := by decide +kernel
theorem dX7_init_94 : decode cX7_init 94 = .ok (.putfield 41, 3) := by decide +kernel
theorem dX7_init_97 : decode cX7_init 97 = .ok (.aload_n 0, 1) := by decide +kernel
theorem dX7_init_98 : decode cX7_init 98 = .ok (.bipush 60, 2) := by decide +kernel
theorem dX7_init_100 : decode cX7_init 100 = .ok (.newarray .int, 2) := by decide +kernel
theorem dX7_init_102 : decode cX7_init 102 = .ok (.putfield 45, 3) := by decide +kernel
theorem dX7_init_105 : decode cX7_init 105 = .ok (.aload_n 0, 1) := by decide +kernel
theorem dX7_init_106 : decode cX7_init 106 = .ok (.bipush 60, 2) := by decide +kernel
theorem dX7_init_108 : decode cX7_init 108 = .ok (.newarray .int, 2) := by decide +kernel
theorem dX7_init_110 : decode cX7_init 110 = .ok (.putfield 48, 3) := by decide +kernel
theorem dX7_init_113 : decode cX7_init 113 = .ok (.aload_n 0, 1) := by decide +kernel
theorem dX7_init_114 : decode cX7_init 114 = .ok (.sipush 960, 3) := by decide +kernel
theorem dX7_init_117 : decode cX7_init 117 = .ok (.newarray .int, 2) := by decide +kernel
theorem dX7_init_119 : decode cX7_init 119 = .ok (.putfield 51, 3) := by decide +kernel
theorem dX7_init_122 : decode cX7_init 122 = .ok (.aload_n 0, 1) := by decide +kernel
theorem dX7_init_123 : decode cX7_init 123 = .ok (.bipush 60, 2) := by decide +kernel
theorem dX7_init_125 : decode cX7_init 125 = .ok (.newarray .int, 2) := by decide +kernel
theorem dX7_init_127 : decode cX7_init 127 = .ok (.putfield 54, 3) := by decide +kernel
theorem dX7_init_130 : decode cX7_init 130 = .ok (.aload_n 0, 1) := by decide +kernel
theorem dX7_init_131 : decode cX7_init 131 = .ok (.sipush 480, 3) := by decide +kernel
theorem dX7_init_134 : decode cX7_init 134 = .ok (.newarray .int, 2) := by decide +kernel
theorem dX7_init_136 : decode cX7_init 136 = .ok (.putfield 57, 3) := by decide +kernel
theorem dX7_init_139 : decode cX7_init 139 = .ok (.aload_n 0, 1) := by decide +kernel
theorem dX7_init_140 : decode cX7_init 140 = .ok (.sipush 480, 3) := by decide +kernel
theorem dX7_init_143 : decode cX7_init 143 = .ok (.newarray .int, 2) := by decide +kernel
theorem dX7_init_145 : decode cX7_init 145 = .ok (.putfield 60, 3) := by decide +kernel
theorem dX7_init_148 : decode cX7_init 148 = .ok (.aload_n 0, 1) := by decide +kernel
theorem dX7_init_149 : decode cX7_init 149 = .ok (.bipush 60, 2) := by decide +kernel
theorem dX7_init_151 : decode cX7_init 151 = .ok (.newarray .int, 2) := by decide +kernel
theorem dX7_init_153 : decode cX7_init 153 = .ok (.putfield 63, 3) := by decide +kernel
theorem dX7_init_156 : decode cX7_init 156 = .ok (.aload_n 0, 1) := by decide +kernel
theorem dX7_init_157 : decode cX7_init 157 = .ok (.bipush 60, 2) := by decide +kernel
theorem dX7_init_159 : decode cX7_init 159 = .ok (.newarray .int, 2) := by decide +kernel
theorem dX7_init_161 : decode cX7_init 161 = .ok (.putfield 66, 3) := by decide +kernel
theorem dX7_init_164 : decode cX7_init 164 = .ok (.aload_n 0, 1) := by decide +kernel
theorem dX7_init_165 : decode cX7_init 165 = .ok (.bipush 60, 2) := by decide +kernel
theorem dX7_init_167 : decode cX7_init 167 = .ok (.newarray .int, 2) := by decide +kernel
theorem dX7_init_169 : decode cX7_init 169 = .ok (.putfield 69, 3) := by decide +kernel
theorem dX7_init_172 : decode cX7_init 172 = .ok (.aload_n 0, 1) := by decide +kernel
theorem dX7_init_173 : decode cX7_init 173 = .ok (.bipush 60, 2) := by decide +kernel
theorem dX7_init_175 : decode cX7_init 175 = .ok (.newarray .int, 2) := by decide +kernel
theorem dX7_init_177 : decode cX7_init 177 = .ok (.putfield 72, 3) := by decide +kernel
theorem dX7_init_180 : decode cX7_init 180 = .ok (.aload_n 0, 1) := by decide +kernel
theorem dX7_init_181 : decode cX7_init 181 = .ok (.bipush 60, 2) := by decide +kernel
theorem dX7_init_183 : decode cX7_init 183 = .ok (.newarray .int, 2) := by decide +kernel
theorem dX7_init_185 : decode cX7_init 185 = .ok (.putfield 75, 3) := by decide +kernel
theorem dX7_init_188 : decode cX7_init 188 = .ok (.aload_n 0, 1) := by decide +kernel
theorem dX7_init_189 : decode cX7_init 189 = .ok (.bipush 60, 2) := by decide +kernel
theorem dX7_init_191 : decode cX7_init 191 = .ok (.newarray .boolean, 2) := by decide +kernel
theorem dX7_init_193 : decode cX7_init 193 = .ok (.putfield 78, 3) := by decide +kernel
theorem dX7_init_196 : decode cX7_init 196 = .ok (.aload_n 0, 1) := by decide +kernel
theorem dX7_init_197 : decode cX7_init 197 = .ok (.bipush 60, 2) := by decide +kernel
theorem dX7_init_199 : decode cX7_init 199 = .ok (.newarray .int, 2) := by decide +kernel
theorem dX7_init_201 : decode cX7_init 201 = .ok (.putfield 81, 3) := by decide +kernel
theorem dX7_init_204 : decode cX7_init 204 = .ok (.aload_n 0, 1) := by decide +kernel
theorem dX7_init_205 : decode cX7_init 205 = .ok (.sipush 3600, 3) := by decide +kernel
theorem dX7_init_208 : decode cX7_init 208 = .ok (.newarray .boolean, 2) := by decide +kernel
theorem dX7_init_210 : decode cX7_init 210 = .ok (.putfield 84, 3) := by decide +kernel
theorem dX7_init_213 : decode cX7_init 213 = .ok (.aload_n 0, 1) := by decide +kernel
theorem dX7_init_214 : decode cX7_init 214 = .ok (.sipush 200, 3) := by decide +kernel
theorem dX7_init_217 : decode cX7_init 217 = .ok (.newarray .int, 2) := by decide +kernel
theorem dX7_init_219 : decode cX7_init 219 = .ok (.putfield 87, 3) := by decide +kernel
theorem dX7_init_222 : decode cX7_init 222 = .ok (.aload_n 0, 1) := by decide +kernel
theorem dX7_init_223 : decode cX7_init 223 = .ok (.sipush 200, 3) := by decide +kernel
theorem dX7_init_226 : decode cX7_init 226 = .ok (.newarray .int, 2) := by decide +kernel
theorem dX7_init_228 : decode cX7_init 228 = .ok (.putfield 90, 3) := by decide +kernel
theorem dX7_init_231 : decode cX7_init 231 = .ok (.aload_n 0, 1) := by decide +kernel
theorem dX7_init_232 : decode cX7_init 232 = .ok (.sipush 200, 3) := by decide +kernel
theorem dX7_init_235 : decode cX7_init 235 = .ok (.newarray .int, 2) := by decide +kernel
theorem dX7_init_237 : decode cX7_init 237 = .ok (.putfield 93, 3) := by decide +kernel
theorem dX7_init_240 : decode cX7_init 240 = .ok (.aload_n 0, 1) := by decide +kernel
theorem dX7_init_241 : decode cX7_init 241 = .ok (.bipush 60, 2) := by decide +kernel
theorem dX7_init_243 : decode cX7_init 243 = .ok (.newarray .int, 2) := by decide +kernel
theorem dX7_init_245 : decode cX7_init 245 = .ok (.putfield 96, 3) := by decide +kernel
theorem dX7_init_248 : decode cX7_init 248 = .ok (.aload_n 0, 1) := by decide +kernel
theorem dX7_init_249 : decode cX7_init 249 = .ok (.sipush 600, 3) := by decide +kernel
theorem dX7_init_252 : decode cX7_init 252 = .ok (.newarray .int, 2) := by decide +kernel
theorem dX7_init_254 : decode cX7_init 254 = .ok (.putfield 99, 3) := by decide +kernel
theorem dX7_init_257 : decode cX7_init 257 = .ok (.return_, 1) := by decide +kernel
theorem dX7_thrown_0 : decode cX7_thrown 0 = .ok (.aload_n 0, 1) := by decide +kernel
theorem dX7_thrown_1 : decode cX7_thrown 1 = .ok (.getfield 102, 3) := by decide +kernel
theorem dX7_thrown_4 : decode cX7_thrown 4 = .ok (.ireturn, 1) := by decide +kernel
theorem dX7_fails_0 : decode cX7_fails 0 = .ok (.aload_n 0, 1) := by decide +kernel
theorem dX7_fails_1 : decode cX7_fails 1 = .ok (.iload_n 1, 1) := by decide +kernel
theorem dX7_fails_2 : decode cX7_fails 2 = .ok (.ifCond .eq 7, 3) := by decide +kernel
theorem dX7_fails_5 : decode cX7_fails 5 = .ok (.iload_n 2, 1) := by decide +kernel
theorem dX7_fails_6 : decode cX7_fails 6 = .ok (.goto 4, 3) := by decide +kernel
theorem dX7_fails_9 : decode cX7_fails 9 = .ok (.iconst 0, 1) := by decide +kernel
theorem dX7_fails_10 : decode cX7_fails 10 = .ok (.putfield 102, 3) := by decide +kernel
theorem dX7_fails_13 : decode cX7_fails 13 = .ok (.iload_n 1, 1) := by decide +kernel
theorem dX7_fails_14 : decode cX7_fails 14 = .ok (.ireturn, 1) := by decide +kernel
theorem dX7_within_0 : decode cX7_within 0 = .ok (.iload_n 0, 1) := by decide +kernel
theorem dX7_within_1 : decode cX7_within 1 = .ok (.iload_n 1, 1) := by decide +kernel
theorem dX7_within_2 : decode cX7_within 2 = .ok (.if_icmp .lt 12, 3) := by decide +kernel
theorem dX7_within_5 : decode cX7_within 5 = .ok (.iload_n 0, 1) := by decide +kernel
theorem dX7_within_6 : decode cX7_within 6 = .ok (.iload_n 2, 1) := by decide +kernel
theorem dX7_within_7 : decode cX7_within 7 = .ok (.if_icmp .gt 7, 3) := by decide +kernel
theorem dX7_within_10 : decode cX7_within 10 = .ok (.iconst 1, 1) := by decide +kernel
theorem dX7_within_11 : decode cX7_within 11 = .ok (.goto 4, 3) := by decide +kernel
theorem dX7_within_14 : decode cX7_within 14 = .ok (.iconst 0, 1) := by decide +kernel
theorem dX7_within_15 : decode cX7_within 15 = .ok (.ireturn, 1) := by decide +kernel
theorem dX7_mod_0 : decode cX7_mod 0 = .ok (.iload_n 0, 1) := by decide +kernel
theorem dX7_mod_1 : decode cX7_mod 1 = .ok (.iload_n 1, 1) := by decide +kernel
theorem dX7_mod_2 : decode cX7_mod 2 = .ok (.irem, 1) := by decide +kernel
theorem dX7_mod_3 : decode cX7_mod 3 = .ok (.istore_n 2, 1) := by decide +kernel
theorem dX7_mod_4 : decode cX7_mod 4 = .ok (.iload_n 2, 1) := by decide +kernel
theorem dX7_mod_5 : decode cX7_mod 5 = .ok (.ifCond .ge 9, 3) := by decide +kernel
theorem dX7_mod_8 : decode cX7_mod 8 = .ok (.iload_n 2, 1) := by decide +kernel
theorem dX7_mod_9 : decode cX7_mod 9 = .ok (.iload_n 1, 1) := by decide +kernel
theorem dX7_mod_10 : decode cX7_mod 10 = .ok (.iadd, 1) := by decide +kernel
theorem dX7_mod_11 : decode cX7_mod 11 = .ok (.goto 4, 3) := by decide +kernel
theorem dX7_mod_14 : decode cX7_mod 14 = .ok (.iload_n 2, 1) := by decide +kernel
theorem dX7_mod_15 : decode cX7_mod 15 = .ok (.ireturn, 1) := by decide +kernel
theorem dX7_set_0 : decode cX7_set 0 = .ok (.aload_n 0, 1) := by decide +kernel
theorem dX7_set_1 : decode cX7_set 1 = .ok (.getfield 14, 3) := by decide +kernel
theorem dX7_set_4 : decode cX7_set 4 = .ok (.iload_n 1, 1) := by decide +kernel
theorem dX7_set_5 : decode cX7_set 5 = .ok (.iconst 2, 1) := by decide +kernel
theorem dX7_set_6 : decode cX7_set 6 = .ok (.iastore, 1) := by decide +kernel
theorem dX7_set_7 : decode cX7_set 7 = .ok (.aload_n 0, 1) := by decide +kernel
theorem dX7_set_8 : decode cX7_set 8 = .ok (.getfield 8, 3) := by decide +kernel
theorem dX7_set_11 : decode cX7_set 11 = .ok (.bipush 95, 2) := by decide +kernel
theorem dX7_set_13 : decode cX7_set 13 = .ok (.iload_n 1, 1) := by decide +kernel
theorem dX7_set_14 : decode cX7_set 14 = .ok (.imul, 1) := by decide +kernel
theorem dX7_set_15 : decode cX7_set 15 = .ok (.iload_n 2, 1) := by decide +kernel
theorem dX7_set_16 : decode cX7_set 16 = .ok (.iastore, 1) := by decide +kernel
theorem dX7_set_17 : decode cX7_set 17 = .ok (.aload_n 0, 1) := by decide +kernel
theorem dX7_set_18 : decode cX7_set 18 = .ok (.getfield 8, 3) := by decide +kernel
theorem dX7_set_21 : decode cX7_set 21 = .ok (.bipush 95, 2) := by decide +kernel
theorem dX7_set_23 : decode cX7_set 23 = .ok (.iload_n 1, 1) := by decide +kernel
theorem dX7_set_24 : decode cX7_set 24 = .ok (.imul, 1) := by decide +kernel
theorem dX7_set_25 : decode cX7_set 25 = .ok (.iconst 1, 1) := by decide +kernel
theorem dX7_set_26 : decode cX7_set 26 = .ok (.iadd, 1) := by decide +kernel
theorem dX7_set_27 : decode cX7_set 27 = .ok (.iload_n 3, 1) := by decide +kernel
theorem dX7_set_28 : decode cX7_set 28 = .ok (.iastore, 1) := by decide +kernel
theorem dX7_set_29 : decode cX7_set 29 = .ok (.return_, 1) := by decide +kernel
theorem dX7_copy_0 : decode cX7_copy 0 = .ok (.aload_n 0, 1) := by decide +kernel
theorem dX7_copy_1 : decode cX7_copy 1 = .ok (.getfield 14, 3) := by decide +kernel
theorem dX7_copy_4 : decode cX7_copy 4 = .ok (.iload_n 1, 1) := by decide +kernel
theorem dX7_copy_5 : decode cX7_copy 5 = .ok (.aload_n 0, 1) := by decide +kernel
theorem dX7_copy_6 : decode cX7_copy 6 = .ok (.getfield 14, 3) := by decide +kernel
theorem dX7_copy_9 : decode cX7_copy 9 = .ok (.iload_n 2, 1) := by decide +kernel
theorem dX7_copy_10 : decode cX7_copy 10 = .ok (.iaload, 1) := by decide +kernel
theorem dX7_copy_11 : decode cX7_copy 11 = .ok (.iastore, 1) := by decide +kernel
theorem dX7_copy_12 : decode cX7_copy 12 = .ok (.iconst 0, 1) := by decide +kernel
theorem dX7_copy_13 : decode cX7_copy 13 = .ok (.istore_n 3, 1) := by decide +kernel
theorem dX7_copy_14 : decode cX7_copy 14 = .ok (.iload_n 3, 1) := by decide +kernel
theorem dX7_copy_15 : decode cX7_copy 15 = .ok (.aload_n 0, 1) := by decide +kernel
theorem dX7_copy_16 : decode cX7_copy 16 = .ok (.getfield 14, 3) := by decide +kernel
theorem dX7_copy_19 : decode cX7_copy 19 = .ok (.iload_n 2, 1) := by decide +kernel
theorem dX7_copy_20 : decode cX7_copy 20 = .ok (.iaload, 1) := by decide +kernel
theorem dX7_copy_21 : decode cX7_copy 21 = .ok (.if_icmp .ge 31, 3) := by decide +kernel
theorem dX7_copy_24 : decode cX7_copy 24 = .ok (.aload_n 0, 1) := by decide +kernel
theorem dX7_copy_25 : decode cX7_copy 25 = .ok (.getfield 8, 3) := by decide +kernel
theorem dX7_copy_28 : decode cX7_copy 28 = .ok (.bipush 95, 2) := by decide +kernel
theorem dX7_copy_30 : decode cX7_copy 30 = .ok (.iload_n 1, 1) := by decide +kernel
theorem dX7_copy_31 : decode cX7_copy 31 = .ok (.imul, 1) := by decide +kernel
theorem dX7_copy_32 : decode cX7_copy 32 = .ok (.iload_n 3, 1) := by decide +kernel
theorem dX7_copy_33 : decode cX7_copy 33 = .ok (.iadd, 1) := by decide +kernel
theorem dX7_copy_34 : decode cX7_copy 34 = .ok (.aload_n 0, 1) := by decide +kernel
theorem dX7_copy_35 : decode cX7_copy 35 = .ok (.getfield 8, 3) := by decide +kernel
theorem dX7_copy_38 : decode cX7_copy 38 = .ok (.bipush 95, 2) := by decide +kernel
theorem dX7_copy_40 : decode cX7_copy 40 = .ok (.iload_n 2, 1) := by decide +kernel
theorem dX7_copy_41 : decode cX7_copy 41 = .ok (.imul, 1) := by decide +kernel
theorem dX7_copy_42 : decode cX7_copy 42 = .ok (.iload_n 3, 1) := by decide +kernel
theorem dX7_copy_43 : decode cX7_copy 43 = .ok (.iadd, 1) := by decide +kernel
theorem dX7_copy_44 : decode cX7_copy 44 = .ok (.iaload, 1) := by decide +kernel
theorem dX7_copy_45 : decode cX7_copy 45 = .ok (.iastore, 1) := by decide +kernel
theorem dX7_copy_46 : decode cX7_copy 46 = .ok (.iinc 3 1, 3) := by decide +kernel
theorem dX7_copy_49 : decode cX7_copy 49 = .ok (.goto (-35), 3) := by decide +kernel
theorem dX7_copy_52 : decode cX7_copy 52 = .ok (.return_, 1) := by decide +kernel
theorem dX7_kindOf_0 : decode cX7_kindOf 0 = .ok (.aload_n 0, 1) := by decide +kernel
theorem dX7_kindOf_1 : decode cX7_kindOf 1 = .ok (.getfield 8, 3) := by decide +kernel
theorem dX7_kindOf_4 : decode cX7_kindOf 4 = .ok (.bipush 95, 2) := by decide +kernel
theorem dX7_kindOf_6 : decode cX7_kindOf 6 = .ok (.iload_n 1, 1) := by decide +kernel
theorem dX7_kindOf_7 : decode cX7_kindOf 7 = .ok (.imul, 1) := by decide +kernel
theorem dX7_kindOf_8 : decode cX7_kindOf 8 = .ok (.iaload, 1) := by decide +kernel
theorem dX7_kindOf_9 : decode cX7_kindOf 9 = .ok (.ireturn, 1) := by decide +kernel
theorem dX7_valueOf_0 : decode cX7_valueOf 0 = .ok (.aload_n 0, 1) := by decide +kernel
theorem dX7_valueOf_1 : decode cX7_valueOf 1 = .ok (.getfield 8, 3) := by decide +kernel
theorem dX7_valueOf_4 : decode cX7_valueOf 4 = .ok (.bipush 95, 2) := by decide +kernel
theorem dX7_valueOf_6 : decode cX7_valueOf 6 = .ok (.iload_n 1, 1) := by decide +kernel
theorem dX7_valueOf_7 : decode cX7_valueOf 7 = .ok (.imul, 1) := by decide +kernel
theorem dX7_valueOf_8 : decode cX7_valueOf 8 = .ok (.iconst 1, 1) := by decide +kernel
theorem dX7_valueOf_9 : decode cX7_valueOf 9 = .ok (.iadd, 1) := by decide +kernel
theorem dX7_valueOf_10 : decode cX7_valueOf 10 = .ok (.iaload, 1) := by decide +kernel
theorem dX7_valueOf_11 : decode cX7_valueOf 11 = .ok (.ireturn, 1) := by decide +kernel
theorem dX7_is_0 : decode cX7_is 0 = .ok (.aload_n 0, 1) := by decide +kernel
theorem dX7_is_1 : decode cX7_is 1 = .ok (.iload_n 1, 1) := by decide +kernel
theorem dX7_is_2 : decode cX7_is 2 = .ok (.invokevirtual 106, 3) := by decide +kernel
theorem dX7_is_5 : decode cX7_is 5 = .ok (.iload_n 2, 1) := by decide +kernel
theorem dX7_is_6 : decode cX7_is 6 = .ok (.if_icmp .ne 7, 3) := by decide +kernel
theorem dX7_is_9 : decode cX7_is 9 = .ok (.iconst 1, 1) := by decide +kernel
theorem dX7_is_10 : decode cX7_is 10 = .ok (.goto 4, 3) := by decide +kernel
theorem dX7_is_13 : decode cX7_is 13 = .ok (.iconst 0, 1) := by decide +kernel
theorem dX7_is_14 : decode cX7_is 14 = .ok (.ireturn, 1) := by decide +kernel
theorem dX7_ends_0 : decode cX7_ends 0 = .ok (.aload_n 0, 1) := by decide +kernel
theorem dX7_ends_1 : decode cX7_ends 1 = .ok (.getfield 14, 3) := by decide +kernel
theorem dX7_ends_4 : decode cX7_ends 4 = .ok (.iload_n 1, 1) := by decide +kernel
theorem dX7_ends_5 : decode cX7_ends 5 = .ok (.iaload, 1) := by decide +kernel
theorem dX7_ends_6 : decode cX7_ends 6 = .ok (.iconst 1, 1) := by decide +kernel
theorem dX7_ends_7 : decode cX7_ends 7 = .ok (.iadd, 1) := by decide +kernel
theorem dX7_ends_8 : decode cX7_ends 8 = .ok (.iconst 3, 1) := by decide +kernel
theorem dX7_ends_9 : decode cX7_ends 9 = .ok (.idiv, 1) := by decide +kernel
theorem dX7_ends_10 : decode cX7_ends 10 = .ok (.ireturn, 1) := by decide +kernel
theorem dX7_behind_0 : decode cX7_behind 0 = .ok (.iconst 1, 1) := by decide +kernel
theorem dX7_behind_1 : decode cX7_behind 1 = .ok (.istore_n 3, 1) := by decide +kernel
theorem dX7_behind_2 : decode cX7_behind 2 = .ok (.iload_n 2, 1) := by decide +kernel
theorem dX7_behind_3 : decode cX7_behind 3 = .ok (.istore 4, 2) := by decide +kernel
theorem dX7_behind_5 : decode cX7_behind 5 = .ok (.iload_n 3, 1) := by decide +kernel
theorem dX7_behind_6 : decode cX7_behind 6 = .ok (.ifCond .le 57, 3) := by decide +kernel
theorem dX7_behind_9 : decode cX7_behind 9 = .ok (.aload_n 0, 1) := by decide +kernel
theorem dX7_behind_10 : decode cX7_behind 10 = .ok (.getfield 8, 3) := by decide +kernel
theorem dX7_behind_13 : decode cX7_behind 13 = .ok (.bipush 95, 2) := by decide +kernel
theorem dX7_behind_15 : decode cX7_behind 15 = .ok (.iload_n 1, 1) := by decide +kernel
theorem dX7_behind_16 : decode cX7_behind 16 = .ok (.imul, 1) := by decide +kernel
theorem dX7_behind_17 : decode cX7_behind 17 = .ok (.iload 4, 2) := by decide +kernel
theorem dX7_behind_19 : decode cX7_behind 19 = .ok (.iadd, 1) := by decide +kernel
theorem dX7_behind_20 : decode cX7_behind 20 = .ok (.iaload, 1) := by decide +kernel
theorem dX7_behind_21 : decode cX7_behind 21 = .ok (.iconst (-1), 1) := by decide +kernel
theorem dX7_behind_22 : decode cX7_behind 22 = .ok (.if_icmp .ne 7, 3) := by decide +kernel
theorem dX7_behind_25 : decode cX7_behind 25 = .ok (.iconst 1, 1) := by decide +kernel
theorem dX7_behind_26 : decode cX7_behind 26 = .ok (.goto 4, 3) := by decide +kernel
theorem dX7_behind_29 : decode cX7_behind 29 = .ok (.iconst 0, 1) := by decide +kernel
theorem dX7_behind_30 : decode cX7_behind 30 = .ok (.istore 5, 2) := by decide +kernel
theorem dX7_behind_32 : decode cX7_behind 32 = .ok (.iload_n 3, 1) := by decide +kernel
theorem dX7_behind_33 : decode cX7_behind 33 = .ok (.iload 5, 2) := by decide +kernel
theorem dX7_behind_35 : decode cX7_behind 35 = .ok (.ifCond .eq 7, 3) := by decide +kernel
theorem dX7_behind_38 : decode cX7_behind 38 = .ok (.iconst 1, 1) := by decide +kernel
theorem dX7_behind_39 : decode cX7_behind 39 = .ok (.goto 4, 3) := by decide +kernel
theorem dX7_behind_42 : decode cX7_behind 42 = .ok (.iconst (-1), 1) := by decide +kernel
theorem dX7_behind_43 : decode cX7_behind 43 = .ok (.iadd, 1) := by decide +kernel
theorem dX7_behind_44 : decode cX7_behind 44 = .ok (.istore_n 3, 1) := by decide +kernel
theorem dX7_behind_45 : decode cX7_behind 45 = .ok (.iload 4, 2) := by decide +kernel
theorem dX7_behind_47 : decode cX7_behind 47 = .ok (.iload 5, 2) := by decide +kernel
theorem dX7_behind_49 : decode cX7_behind 49 = .ok (.ifCond .eq 7, 3) := by decide +kernel
theorem dX7_behind_52 : decode cX7_behind 52 = .ok (.iconst 1, 1) := by decide +kernel
theorem dX7_behind_53 : decode cX7_behind 53 = .ok (.goto 4, 3) := by decide +kernel
theorem dX7_behind_56 : decode cX7_behind 56 = .ok (.iconst 2, 1) := by decide +kernel
theorem dX7_behind_57 : decode cX7_behind 57 = .ok (.iadd, 1) := by decide +kernel
theorem dX7_behind_58 : decode cX7_behind 58 = .ok (.istore 4, 2) := by decide +kernel
theorem dX7_behind_60 : decode cX7_behind 60 = .ok (.goto (-55), 3) := by decide +kernel
theorem dX7_behind_63 : decode cX7_behind 63 = .ok (.iload 4, 2) := by decide +kernel
theorem dX7_behind_65 : decode cX7_behind 65 = .ok (.ireturn, 1) := by decide +kernel
theorem dX7_part_0 : decode cX7_part 0 = .ok (.aload_n 0, 1) := by decide +kernel
theorem dX7_part_1 : decode cX7_part 1 = .ok (.getfield 14, 3) := by decide +kernel
theorem dX7_part_4 : decode cX7_part 4 = .ok (.iload_n 1, 1) := by decide +kernel
theorem dX7_part_5 : decode cX7_part 5 = .ok (.iload 4, 2) := by decide +kernel
theorem dX7_part_7 : decode cX7_part 7 = .ok (.iload_n 3, 1) := by decide +kernel
theorem dX7_part_8 : decode cX7_part 8 = .ok (.isub, 1) := by decide +kernel
theorem dX7_part_9 : decode cX7_part 9 = .ok (.iastore, 1) := by decide +kernel
theorem dX7_part_10 : decode cX7_part 10 = .ok (.iload_n 3, 1) := by decide +kernel
theorem dX7_part_11 : decode cX7_part 11 = .ok (.istore 5, 2) := by decide +kernel
theorem dX7_part_13 : decode cX7_part 13 = .ok (.iload 5, 2) := by decide +kernel
theorem dX7_part_15 : decode cX7_part 15 = .ok (.iload 4, 2) := by decide +kernel
theorem dX7_part_17 : decode cX7_part 17 = .ok (.if_icmp .ge 35, 3) := by decide +kernel
theorem dX7_part_20 : decode cX7_part 20 = .ok (.aload_n 0, 1) := by decide +kernel
theorem dX7_part_21 : decode cX7_part 21 = .ok (.getfield 8, 3) := by decide +kernel
theorem dX7_part_24 : decode cX7_part 24 = .ok (.bipush 95, 2) := by decide +kernel
theorem dX7_part_26 : decode cX7_part 26 = .ok (.iload_n 1, 1) := by decide +kernel
theorem dX7_part_27 : decode cX7_part 27 = .ok (.imul, 1) := by decide +kernel
theorem dX7_part_28 : decode cX7_part 28 = .ok (.iload 5, 2) := by decide +kernel
theorem dX7_part_30 : decode cX7_part 30 = .ok (.iadd, 1) := by decide +kernel
theorem dX7_part_31 : decode cX7_part 31 = .ok (.iload_n 3, 1) := by decide +kernel
theorem dX7_part_32 : decode cX7_part 32 = .ok (.isub, 1) := by decide +kernel
theorem dX7_part_33 : decode cX7_part 33 = .ok (.aload_n 0, 1) := by decide +kernel
theorem dX7_part_34 : decode cX7_part 34 = .ok (.getfield 8, 3) := by decide +kernel
theorem dX7_part_37 : decode cX7_part 37 = .ok (.bipush 95, 2) := by decide +kernel
theorem dX7_part_39 : decode cX7_part 39 = .ok (.iload_n 2, 1) := by decide +kernel
theorem dX7_part_40 : decode cX7_part 40 = .ok (.imul, 1) := by decide +kernel
theorem dX7_part_41 : decode cX7_part 41 = .ok (.iload 5, 2) := by decide +kernel
theorem dX7_part_43 : decode cX7_part 43 = .ok (.iadd, 1) := by decide +kernel
theorem dX7_part_44 : decode cX7_part 44 = .ok (.iaload, 1) := by decide +kernel
theorem dX7_part_45 : decode cX7_part 45 = .ok (.iastore, 1) := by decide +kernel
theorem dX7_part_46 : decode cX7_part 46 = .ok (.iinc 5 1, 3) := by decide +kernel
theorem dX7_part_49 : decode cX7_part 49 = .ok (.goto (-36), 3) := by decide +kernel
theorem dX7_part_52 : decode cX7_part 52 = .ok (.return_, 1) := by decide +kernel
theorem dX7_pair_0 : decode cX7_pair 0 = .ok (.aload_n 0, 1) := by decide +kernel
theorem dX7_pair_1 : decode cX7_pair 1 = .ok (.getfield 14, 3) := by decide +kernel
theorem dX7_pair_4 : decode cX7_pair 4 = .ok (.iload_n 1, 1) := by decide +kernel
theorem dX7_pair_5 : decode cX7_pair 5 = .ok (.iconst 1, 1) := by decide +kernel
theorem dX7_pair_6 : decode cX7_pair 6 = .ok (.aload_n 0, 1) := by decide +kernel
theorem dX7_pair_7 : decode cX7_pair 7 = .ok (.getfield 14, 3) := by decide +kernel
theorem dX7_pair_10 : decode cX7_pair 10 = .ok (.iload_n 2, 1) := by decide +kernel
theorem dX7_pair_11 : decode cX7_pair 11 = .ok (.iaload, 1) := by decide +kernel
theorem dX7_pair_12 : decode cX7_pair 12 = .ok (.iadd, 1) := by decide +kernel
theorem dX7_pair_13 : decode cX7_pair 13 = .ok (.aload_n 0, 1) := by decide +kernel
theorem dX7_pair_14 : decode cX7_pair 14 = .ok (.getfield 14, 3) := by decide +kernel
theorem dX7_pair_17 : decode cX7_pair 17 = .ok (.iload_n 3, 1) := by decide +kernel
theorem dX7_pair_18 : decode cX7_pair 18 = .ok (.iaload, 1) := by decide +kernel
theorem dX7_pair_19 : decode cX7_pair 19 = .ok (.iadd, 1) := by decide +kernel
theorem dX7_pair_20 : decode cX7_pair 20 = .ok (.iastore, 1) := by decide +kernel
theorem dX7_pair_21 : decode cX7_pair 21 = .ok (.aload_n 0, 1) := by decide +kernel
theorem dX7_pair_22 : decode cX7_pair 22 = .ok (.getfield 8, 3) := by decide +kernel
theorem dX7_pair_25 : decode cX7_pair 25 = .ok (.bipush 95, 2) := by decide +kernel
theorem dX7_pair_27 : decode cX7_pair 27 = .ok (.iload_n 1, 1) := by decide +kernel
theorem dX7_pair_28 : decode cX7_pair 28 = .ok (.imul, 1) := by decide +kernel
theorem dX7_pair_29 : decode cX7_pair 29 = .ok (.iconst (-1), 1) := by decide +kernel
theorem dX7_pair_30 : decode cX7_pair 30 = .ok (.iastore, 1) := by decide +kernel
theorem dX7_pair_31 : decode cX7_pair 31 = .ok (.iconst 0, 1) := by decide +kernel
theorem dX7_pair_32 : decode cX7_pair 32 = .ok (.istore 4, 2) := by decide +kernel
theorem dX7_pair_34 : decode cX7_pair 34 = .ok (.iload 4, 2) := by decide +kernel
theorem dX7_pair_36 : decode cX7_pair 36 = .ok (.aload_n 0, 1) := by decide +kernel
theorem dX7_pair_37 : decode cX7_pair 37 = .ok (.getfield 14, 3) := by decide +kernel
theorem dX7_pair_40 : decode cX7_pair 40 = .ok (.iload_n 2, 1) := by decide +kernel
theorem dX7_pair_41 : decode cX7_pair 41 = .ok (.iaload, 1) := by decide +kernel
theorem dX7_pair_42 : decode cX7_pair 42 = .ok (.if_icmp .ge 35, 3) := by decide +kernel
theorem dX7_pair_45 : decode cX7_pair 45 = .ok (.aload_n 0, 1) := by decide +kernel
theorem dX7_pair_46 : decode cX7_pair 46 = .ok (.getfield 8, 3) := by decide +kernel
theorem dX7_pair_49 : decode cX7_pair 49 = .ok (.bipush 95, 2) := by decide +kernel
theorem dX7_pair_51 : decode cX7_pair 51 = .ok (.iload_n 1, 1) := by decide +kernel
theorem dX7_pair_52 : decode cX7_pair 52 = .ok (.imul, 1) := by decide +kernel
theorem dX7_pair_53 : decode cX7_pair 53 = .ok (.iconst 1, 1) := by decide +kernel
theorem dX7_pair_54 : decode cX7_pair 54 = .ok (.iadd, 1) := by decide +kernel
theorem dX7_pair_55 : decode cX7_pair 55 = .ok (.iload 4, 2) := by decide +kernel
theorem dX7_pair_57 : decode cX7_pair 57 = .ok (.iadd, 1) := by decide +kernel
theorem dX7_pair_58 : decode cX7_pair 58 = .ok (.aload_n 0, 1) := by decide +kernel
theorem dX7_pair_59 : decode cX7_pair 59 = .ok (.getfield 8, 3) := by decide +kernel
theorem dX7_pair_62 : decode cX7_pair 62 = .ok (.bipush 95, 2) := by decide +kernel
theorem dX7_pair_64 : decode cX7_pair 64 = .ok (.iload_n 2, 1) := by decide +kernel
theorem dX7_pair_65 : decode cX7_pair 65 = .ok (.imul, 1) := by decide +kernel
theorem dX7_pair_66 : decode cX7_pair 66 = .ok (.iload 4, 2) := by decide +kernel
theorem dX7_pair_68 : decode cX7_pair 68 = .ok (.iadd, 1) := by decide +kernel
theorem dX7_pair_69 : decode cX7_pair 69 = .ok (.iaload, 1) := by decide +kernel
theorem dX7_pair_70 : decode cX7_pair 70 = .ok (.iastore, 1) := by decide +kernel
theorem dX7_pair_71 : decode cX7_pair 71 = .ok (.iinc 4 1, 3) := by decide +kernel
theorem dX7_pair_74 : decode cX7_pair 74 = .ok (.goto (-40), 3) := by decide +kernel
theorem dX7_pair_77 : decode cX7_pair 77 = .ok (.iconst 0, 1) := by decide +kernel
theorem dX7_pair_78 : decode cX7_pair 78 = .ok (.istore 4, 2) := by decide +kernel
theorem dX7_pair_80 : decode cX7_pair 80 = .ok (.iload 4, 2) := by decide +kernel
theorem dX7_pair_82 : decode cX7_pair 82 = .ok (.aload_n 0, 1) := by decide +kernel
theorem dX7_pair_83 : decode cX7_pair 83 = .ok (.getfield 14, 3) := by decide +kernel
theorem dX7_pair_86 : decode cX7_pair 86 = .ok (.iload_n 3, 1) := by decide +kernel
theorem dX7_pair_87 : decode cX7_pair 87 = .ok (.iaload, 1) := by decide +kernel
theorem dX7_pair_88 : decode cX7_pair 88 = .ok (.if_icmp .ge 42, 3) := by decide +kernel
theorem dX7_pair_91 : decode cX7_pair 91 = .ok (.aload_n 0, 1) := by decide +kernel
theorem dX7_pair_92 : decode cX7_pair 92 = .ok (.getfield 8, 3) := by decide +kernel
theorem dX7_pair_95 : decode cX7_pair 95 = .ok (.bipush 95, 2) := by decide +kernel
theorem dX7_pair_97 : decode cX7_pair 97 = .ok (.iload_n 1, 1) := by decide +kernel
theorem dX7_pair_98 : decode cX7_pair 98 = .ok (.imul, 1) := by decide +kernel
theorem dX7_pair_99 : decode cX7_pair 99 = .ok (.iconst 1, 1) := by decide +kernel
theorem dX7_pair_100 : decode cX7_pair 100 = .ok (.iadd, 1) := by decide +kernel
theorem dX7_pair_101 : decode cX7_pair 101 = .ok (.aload_n 0, 1) := by decide +kernel
theorem dX7_pair_102 : decode cX7_pair 102 = .ok (.getfield 14, 3) := by decide +kernel
theorem dX7_pair_105 : decode cX7_pair 105 = .ok (.iload_n 2, 1) := by decide +kernel
theorem dX7_pair_106 : decode cX7_pair 106 = .ok (.iaload, 1) := by decide +kernel
theorem dX7_pair_107 : decode cX7_pair 107 = .ok (.iadd, 1) := by decide +kernel
theorem dX7_pair_108 : decode cX7_pair 108 = .ok (.iload 4, 2) := by decide +kernel
theorem dX7_pair_110 : decode cX7_pair 110 = .ok (.iadd, 1) := by decide +kernel
theorem dX7_pair_111 : decode cX7_pair 111 = .ok (.aload_n 0, 1) := by decide +kernel
theorem dX7_pair_112 : decode cX7_pair 112 = .ok (.getfield 8, 3) := by decide +kernel
theorem dX7_pair_115 : decode cX7_pair 115 = .ok (.bipush 95, 2) := by decide +kernel
theorem dX7_pair_117 : decode cX7_pair 117 = .ok (.iload_n 3, 1) := by decide +kernel
theorem dX7_pair_118 : decode cX7_pair 118 = .ok (.imul, 1) := by decide +kernel
theorem dX7_pair_119 : decode cX7_pair 119 = .ok (.iload 4, 2) := by decide +kernel
theorem dX7_pair_121 : decode cX7_pair 121 = .ok (.iadd, 1) := by decide +kernel
theorem dX7_pair_122 : decode cX7_pair 122 = .ok (.iaload, 1) := by decide +kernel
theorem dX7_pair_123 : decode cX7_pair 123 = .ok (.iastore, 1) := by decide +kernel
theorem dX7_pair_124 : decode cX7_pair 124 = .ok (.iinc 4 1, 3) := by decide +kernel
theorem dX7_pair_127 : decode cX7_pair 127 = .ok (.goto (-47), 3) := by decide +kernel
theorem dX7_pair_130 : decode cX7_pair 130 = .ok (.return_, 1) := by decide +kernel
theorem dX7_compare_0 : decode cX7_compare 0 = .ok (.iconst 0, 1) := by decide +kernel
theorem dX7_compare_1 : decode cX7_compare 1 = .ok (.istore_n 3, 1) := by decide +kernel
theorem dX7_compare_2 : decode cX7_compare 2 = .ok (.iload_n 3, 1) := by decide +kernel
theorem dX7_compare_3 : decode cX7_compare 3 = .ok (.aload_n 0, 1) := by decide +kernel
theorem dX7_compare_4 : decode cX7_compare 4 = .ok (.getfield 14, 3) := by decide +kernel
theorem dX7_compare_7 : decode cX7_compare 7 = .ok (.iload_n 1, 1) := by decide +kernel
theorem dX7_compare_8 : decode cX7_compare 8 = .ok (.iaload, 1) := by decide +kernel
theorem dX7_compare_9 : decode cX7_compare 9 = .ok (.if_icmp .ge 133, 3) := by decide +kernel
theorem dX7_compare_12 : decode cX7_compare 12 = .ok (.aload_n 0, 1) := by decide +kernel
theorem dX7_compare_13 : decode cX7_compare 13 = .ok (.getfield 8, 3) := by decide +kernel
theorem dX7_compare_16 : decode cX7_compare 16 = .ok (.bipush 95, 2) := by decide +kernel
theorem dX7_compare_18 : decode cX7_compare 18 = .ok (.iload_n 1, 1) := by decide +kernel
theorem dX7_compare_19 : decode cX7_compare 19 = .ok (.imul, 1) := by decide +kernel
theorem dX7_compare_20 : decode cX7_compare 20 = .ok (.iload_n 3, 1) := by decide +kernel
theorem dX7_compare_21 : decode cX7_compare 21 = .ok (.iadd, 1) := by decide +kernel
theorem dX7_compare_22 : decode cX7_compare 22 = .ok (.iaload, 1) := by decide +kernel
theorem dX7_compare_23 : decode cX7_compare 23 = .ok (.istore 4, 2) := by decide +kernel
theorem dX7_compare_25 : decode cX7_compare 25 = .ok (.aload_n 0, 1) := by decide +kernel
theorem dX7_compare_26 : decode cX7_compare 26 = .ok (.getfield 8, 3) := by decide +kernel
theorem dX7_compare_29 : decode cX7_compare 29 = .ok (.bipush 95, 2) := by decide +kernel
theorem dX7_compare_31 : decode cX7_compare 31 = .ok (.iload_n 2, 1) := by decide +kernel
theorem dX7_compare_32 : decode cX7_compare 32 = .ok (.imul, 1) := by decide +kernel
theorem dX7_compare_33 : decode cX7_compare 33 = .ok (.iload_n 3, 1) := by decide +kernel
theorem dX7_compare_34 : decode cX7_compare 34 = .ok (.iadd, 1) := by decide +kernel
theorem dX7_compare_35 : decode cX7_compare 35 = .ok (.iaload, 1) := by decide +kernel
theorem dX7_compare_36 : decode cX7_compare 36 = .ok (.istore 5, 2) := by decide +kernel
theorem dX7_compare_38 : decode cX7_compare 38 = .ok (.iload 4, 2) := by decide +kernel
theorem dX7_compare_40 : decode cX7_compare 40 = .ok (.iload 5, 2) := by decide +kernel
theorem dX7_compare_42 : decode cX7_compare 42 = .ok (.if_icmp .eq 36, 3) := by decide +kernel
theorem dX7_compare_45 : decode cX7_compare 45 = .ok (.iload 4, 2) := by decide +kernel
theorem dX7_compare_47 : decode cX7_compare 47 = .ok (.iconst (-1), 1) := by decide +kernel
theorem dX7_compare_48 : decode cX7_compare 48 = .ok (.if_icmp .ne 7, 3) := by decide +kernel
theorem dX7_compare_51 : decode cX7_compare 51 = .ok (.iconst 3, 1) := by decide +kernel
theorem dX7_compare_52 : decode cX7_compare 52 = .ok (.goto 5, 3) := by decide +kernel
theorem dX7_compare_55 : decode cX7_compare 55 = .ok (.iload 4, 2) := by decide +kernel
theorem dX7_compare_57 : decode cX7_compare 57 = .ok (.iload 5, 2) := by decide +kernel
theorem dX7_compare_59 : decode cX7_compare 59 = .ok (.iconst (-1), 1) := by decide +kernel
theorem dX7_compare_60 : decode cX7_compare 60 = .ok (.if_icmp .ne 7, 3) := by decide +kernel
theorem dX7_compare_63 : decode cX7_compare 63 = .ok (.iconst 3, 1) := by decide +kernel
theorem dX7_compare_64 : decode cX7_compare 64 = .ok (.goto 5, 3) := by decide +kernel
theorem dX7_compare_67 : decode cX7_compare 67 = .ok (.iload 5, 2) := by decide +kernel
theorem dX7_compare_69 : decode cX7_compare 69 = .ok (.if_icmp .ge 7, 3) := by decide +kernel
theorem dX7_compare_72 : decode cX7_compare 72 = .ok (.iconst (-1), 1) := by decide +kernel
theorem dX7_compare_73 : decode cX7_compare 73 = .ok (.goto 4, 3) := by decide +kernel
theorem dX7_compare_76 : decode cX7_compare 76 = .ok (.iconst 1, 1) := by decide +kernel
theorem dX7_compare_77 : decode cX7_compare 77 = .ok (.ireturn, 1) := by decide +kernel
theorem dX7_compare_78 : decode cX7_compare 78 = .ok (.iinc 3 1, 3) := by decide +kernel
theorem dX7_compare_81 : decode cX7_compare 81 = .ok (.iload 4, 2) := by decide +kernel
theorem dX7_compare_83 : decode cX7_compare 83 = .ok (.iconst (-1), 1) := by decide +kernel
theorem dX7_compare_84 : decode cX7_compare 84 = .ok (.if_icmp .ne 6, 3) := by decide +kernel
theorem dX7_compare_87 : decode cX7_compare 87 = .ok (.goto (-85), 3) := by decide +kernel
theorem dX7_compare_90 : decode cX7_compare 90 = .ok (.aload_n 0, 1) := by decide +kernel
theorem dX7_compare_91 : decode cX7_compare 91 = .ok (.getfield 8, 3) := by decide +kernel
theorem dX7_compare_94 : decode cX7_compare 94 = .ok (.bipush 95, 2) := by decide +kernel
theorem dX7_compare_96 : decode cX7_compare 96 = .ok (.iload_n 1, 1) := by decide +kernel
theorem dX7_compare_97 : decode cX7_compare 97 = .ok (.imul, 1) := by decide +kernel
theorem dX7_compare_98 : decode cX7_compare 98 = .ok (.iload_n 3, 1) := by decide +kernel
theorem dX7_compare_99 : decode cX7_compare 99 = .ok (.iadd, 1) := by decide +kernel
theorem dX7_compare_100 : decode cX7_compare 100 = .ok (.iaload, 1) := by decide +kernel
theorem dX7_compare_101 : decode cX7_compare 101 = .ok (.istore 6, 2) := by decide +kernel
theorem dX7_compare_103 : decode cX7_compare 103 = .ok (.aload_n 0, 1) := by decide +kernel
theorem dX7_compare_104 : decode cX7_compare 104 = .ok (.getfield 8, 3) := by decide +kernel
theorem dX7_compare_107 : decode cX7_compare 107 = .ok (.bipush 95, 2) := by decide +kernel
theorem dX7_compare_109 : decode cX7_compare 109 = .ok (.iload_n 2, 1) := by decide +kernel
theorem dX7_compare_110 : decode cX7_compare 110 = .ok (.imul, 1) := by decide +kernel
theorem dX7_compare_111 : decode cX7_compare 111 = .ok (.iload_n 3, 1) := by decide +kernel
theorem dX7_compare_112 : decode cX7_compare 112 = .ok (.iadd, 1) := by decide +kernel
theorem dX7_compare_113 : decode cX7_compare 113 = .ok (.iaload, 1) := by decide +kernel
theorem dX7_compare_114 : decode cX7_compare 114 = .ok (.istore 7, 2) := by decide +kernel
theorem dX7_compare_116 : decode cX7_compare 116 = .ok (.iload 6, 2) := by decide +kernel
theorem dX7_compare_118 : decode cX7_compare 118 = .ok (.iload 7, 2) := by decide +kernel
theorem dX7_compare_120 : decode cX7_compare 120 = .ok (.if_icmp .eq 16, 3) := by decide +kernel
theorem dX7_compare_123 : decode cX7_compare 123 = .ok (.iload 6, 2) := by decide +kernel
theorem dX7_compare_125 : decode cX7_compare 125 = .ok (.iload 7, 2) := by decide +kernel
theorem dX7_compare_127 : decode cX7_compare 127 = .ok (.if_icmp .ge 7, 3) := by decide +kernel
theorem dX7_compare_130 : decode cX7_compare 130 = .ok (.iconst (-1), 1) := by decide +kernel
theorem dX7_compare_131 : decode cX7_compare 131 = .ok (.goto 4, 3) := by decide +kernel
theorem dX7_compare_134 : decode cX7_compare 134 = .ok (.iconst 1, 1) := by decide +kernel
theorem dX7_compare_135 : decode cX7_compare 135 = .ok (.ireturn, 1) := by decide +kernel
theorem dX7_compare_136 : decode cX7_compare 136 = .ok (.iinc 3 1, 3) := by decide +kernel
theorem dX7_compare_139 : decode cX7_compare 139 = .ok (.goto (-137), 3) := by decide +kernel
theorem dX7_compare_142 : decode cX7_compare 142 = .ok (.iconst 0, 1) := by decide +kernel
theorem dX7_compare_143 : decode cX7_compare 143 = .ok (.ireturn, 1) := by decide +kernel
theorem dX7_word_0 : decode cX7_word 0 = .ok (.aload_n 0, 1) := by decide +kernel
theorem dX7_word_1 : decode cX7_word 1 = .ok (.iload_n 1, 1) := by decide +kernel
theorem dX7_word_2 : decode cX7_word 2 = .ok (.iconst 0, 1) := by decide +kernel
theorem dX7_word_3 : decode cX7_word 3 = .ok (.sipush 299, 3) := by decide +kernel
theorem dX7_word_6 : decode cX7_word 6 = .ok (.invokestatic 110, 3) := by decide +kernel
theorem dX7_word_9 : decode cX7_word 9 = .ok (.ifCond .eq 13, 3) := by decide +kernel
theorem dX7_word_12 : decode cX7_word 12 = .ok (.iload_n 2, 1) := by decide +kernel
theorem dX7_word_13 : decode cX7_word 13 = .ok (.iconst 0, 1) := by decide +kernel
theorem dX7_word_14 : decode cX7_word 14 = .ok (.bipush 36, 2) := by decide +kernel
theorem dX7_word_16 : decode cX7_word 16 = .ok (.invokestatic 110, 3) := by decide +kernel
theorem dX7_word_19 : decode cX7_word 19 = .ok (.ifCond .ne 7, 3) := by decide +kernel
theorem dX7_word_22 : decode cX7_word 22 = .ok (.iconst 1, 1) := by decide +kernel
theorem dX7_word_23 : decode cX7_word 23 = .ok (.goto 4, 3) := by decide +kernel
theorem dX7_word_26 : decode cX7_word 26 = .ok (.iconst 0, 1) := by decide +kernel
theorem dX7_word_27 : decode cX7_word 27 = .ok (.iconst 1, 1) := by decide +kernel
theorem dX7_word_28 : decode cX7_word 28 = .ok (.invokevirtual 114, 3) := by decide +kernel
theorem dX7_word_31 : decode cX7_word 31 = .ok (.ifCond .eq 4, 3) := by decide +kernel
theorem dX7_word_34 : decode cX7_word 34 = .ok (.return_, 1) := by decide +kernel
theorem dX7_word_35 : decode cX7_word 35 = .ok (.aload_n 0, 1) := by decide +kernel
theorem dX7_word_36 : decode cX7_word 36 = .ok (.getfield 17, 3) := by decide +kernel
theorem dX7_word_39 : decode cX7_word 39 = .ok (.iload_n 1, 1) := by decide +kernel
theorem dX7_word_40 : decode cX7_word 40 = .ok (.iload_n 2, 1) := by decide +kernel
theorem dX7_word_41 : decode cX7_word 41 = .ok (.iastore, 1) := by decide +kernel
theorem dX7_word_42 : decode cX7_word 42 = .ok (.aload_n 0, 1) := by decide +kernel
theorem dX7_word_43 : decode cX7_word 43 = .ok (.getfield 20, 3) := by decide +kernel
theorem dX7_word_46 : decode cX7_word 46 = .ok (.iload_n 1, 1) := by decide +kernel
theorem dX7_word_47 : decode cX7_word 47 = .ok (.iload_n 3, 1) := by decide +kernel
theorem dX7_word_48 : decode cX7_word 48 = .ok (.iastore, 1) := by decide +kernel
theorem dX7_word_49 : decode cX7_word 49 = .ok (.aload_n 0, 1) := by decide +kernel
theorem dX7_word_50 : decode cX7_word 50 = .ok (.getfield 23, 3) := by decide +kernel
theorem dX7_word_53 : decode cX7_word 53 = .ok (.iload_n 1, 1) := by decide +kernel
theorem dX7_word_54 : decode cX7_word 54 = .ok (.iload 4, 2) := by decide +kernel
theorem dX7_word_56 : decode cX7_word 56 = .ok (.iastore, 1) := by decide +kernel
theorem dX7_word_57 : decode cX7_word 57 = .ok (.aload_n 0, 1) := by decide +kernel
theorem dX7_word_58 : decode cX7_word 58 = .ok (.getfield 26, 3) := by decide +kernel
theorem dX7_word_61 : decode cX7_word 61 = .ok (.iload_n 1, 1) := by decide +kernel
theorem dX7_word_62 : decode cX7_word 62 = .ok (.iload 5, 2) := by decide +kernel
theorem dX7_word_64 : decode cX7_word 64 = .ok (.iastore, 1) := by decide +kernel
theorem dX7_word_65 : decode cX7_word 65 = .ok (.return_, 1) := by decide +kernel
theorem dX7_becomesReady_0 : decode cX7_becomesReady 0 = .ok (.aload_n 0, 1) := by decide +kernel
theorem dX7_becomesReady_1 : decode cX7_becomesReady 1 = .ok (.getfield 29, 3) := by decide +kernel
theorem dX7_becomesReady_4 : decode cX7_becomesReady 4 = .ok (.iload_n 1, 1) := by decide +kernel
theorem dX7_becomesReady_5 : decode cX7_becomesReady 5 = .ok (.iconst 0, 1) := by decide +kernel
theorem dX7_becomesReady_6 : decode cX7_becomesReady 6 = .ok (.iastore, 1) := by decide +kernel
theorem dX7_becomesReady_7 : decode cX7_becomesReady 7 = .ok (.aload_n 0, 1) := by decide +kernel
theorem dX7_becomesReady_8 : decode cX7_becomesReady 8 = .ok (.dup, 1) := by decide +kernel
theorem dX7_becomesReady_9 : decode cX7_becomesReady 9 = .ok (.getfield 118, 3) := by decide +kernel
theorem dX7_becomesReady_12 : decode cX7_becomesReady 12 = .ok (.iconst 1, 1) := by decide +kernel
theorem dX7_becomesReady_13 : decode cX7_becomesReady 13 = .ok (.iadd, 1) := by decide +kernel
theorem dX7_becomesReady_14 : decode cX7_becomesReady 14 = .ok (.putfield 118, 3) := by decide +kernel
theorem dX7_becomesReady_17 : decode cX7_becomesReady 17 = .ok (.aload_n 0, 1) := by decide +kernel
theorem dX7_becomesReady_18 : decode cX7_becomesReady 18 = .ok (.getfield 81, 3) := by decide +kernel
theorem dX7_becomesReady_21 : decode cX7_becomesReady 21 = .ok (.iload_n 1, 1) := by decide +kernel
theorem dX7_becomesReady_22 : decode cX7_becomesReady 22 = .ok (.aload_n 0, 1) := by decide +kernel
theorem dX7_becomesReady_23 : decode cX7_becomesReady 23 = .ok (.getfield 118, 3) := by decide +kernel
theorem dX7_becomesReady_26 : decode cX7_becomesReady 26 = .ok (.iastore, 1) := by decide +kernel
theorem dX7_becomesReady_27 : decode cX7_becomesReady 27 = .ok (.return_, 1) := by decide +kernel
theorem dX7_create_0 : decode cX7_create 0 = .ok (.aload_n 0, 1) := by decide +kernel
theorem dX7_create_1 : decode cX7_create 1 = .ok (.getfield 121, 3) := by decide +kernel
theorem dX7_create_4 : decode cX7_create 4 = .ok (.istore_n 3, 1) := by decide +kernel
theorem dX7_create_5 : decode cX7_create 5 = .ok (.aload_n 0, 1) := by decide +kernel
theorem dX7_create_6 : decode cX7_create 6 = .ok (.dup, 1) := by decide +kernel
theorem dX7_create_7 : decode cX7_create 7 = .ok (.getfield 121, 3) := by decide +kernel
theorem dX7_create_10 : decode cX7_create 10 = .ok (.iconst 1, 1) := by decide +kernel
theorem dX7_create_11 : decode cX7_create 11 = .ok (.iadd, 1) := by decide +kernel
theorem dX7_create_12 : decode cX7_create 12 = .ok (.putfield 121, 3) := by decide +kernel
theorem dX7_create_15 : decode cX7_create 15 = .ok (.iconst 0, 1) := by decide +kernel
theorem dX7_create_16 : decode cX7_create 16 = .ok (.istore 4, 2) := by decide +kernel
theorem dX7_create_18 : decode cX7_create 18 = .ok (.iload 4, 2) := by decide +kernel
theorem dX7_create_20 : decode cX7_create 20 = .ok (.bipush 8, 2) := by decide +kernel
theorem dX7_create_22 : decode cX7_create 22 = .ok (.if_icmp .ge 22, 3) := by decide +kernel
theorem dX7_create_25 : decode cX7_create 25 = .ok (.aload_n 0, 1) := by decide +kernel
theorem dX7_create_26 : decode cX7_create 26 = .ok (.bipush 8, 2) := by decide +kernel
theorem dX7_create_28 : decode cX7_create 28 = .ok (.iload_n 3, 1) := by decide +kernel
theorem dX7_create_29 : decode cX7_create 29 = .ok (.imul, 1) := by decide +kernel
theorem dX7_create_30 : decode cX7_create 30 = .ok (.iload 4, 2) := by decide +kernel
theorem dX7_create_32 : decode cX7_create 32 = .ok (.iadd, 1) := by decide +kernel
theorem dX7_create_33 : decode cX7_create 33 = .ok (.iconst 0, 1) := by decide +kernel
theorem dX7_create_34 : decode cX7_create 34 = .ok (.iconst 0, 1) := by decide +kernel
theorem dX7_create_35 : decode cX7_create 35 = .ok (.invokevirtual 124, 3) := by decide +kernel
theorem dX7_create_38 : decode cX7_create 38 = .ok (.iinc 4 1, 3) := by decide +kernel
theorem dX7_create_41 : decode cX7_create 41 = .ok (.goto (-23), 3) := by decide +kernel
theorem dX7_create_44 : decode cX7_create 44 = .ok (.aload_n 0, 1) := by decide +kernel
theorem dX7_create_45 : decode cX7_create 45 = .ok (.getfield 32, 3) := by decide +kernel
theorem dX7_create_48 : decode cX7_create 48 = .ok (.iload_n 3, 1) := by decide +kernel
theorem dX7_create_49 : decode cX7_create 49 = .ok (.iload_n 1, 1) := by decide +kernel
theorem dX7_create_50 : decode cX7_create 50 = .ok (.iastore, 1) := by decide +kernel
theorem dX7_create_51 : decode cX7_create 51 = .ok (.aload_n 0, 1) := by decide +kernel
theorem dX7_create_52 : decode cX7_create 52 = .ok (.getfield 35, 3) := by decide +kernel
theorem dX7_create_55 : decode cX7_create 55 = .ok (.iload_n 3, 1) := by decide +kernel
theorem dX7_create_56 : decode cX7_create 56 = .ok (.iload_n 2, 1) := by decide +kernel
theorem dX7_create_57 : decode cX7_create 57 = .ok (.iastore, 1) := by decide +kernel
theorem dX7_create_58 : decode cX7_create 58 = .ok (.aload_n 0, 1) := by decide +kernel
theorem dX7_create_59 : decode cX7_create 59 = .ok (.getfield 38, 3) := by decide +kernel
theorem dX7_create_62 : decode cX7_create 62 = .ok (.iload_n 3, 1) := by decide +kernel
theorem dX7_create_63 : decode cX7_create 63 = .ok (.iconst (-1), 1) := by decide +kernel
end
section
theorem dX7_create_64 : decode cX7_create 64 = .ok (.iastore, 1) := by decide +kernel
theorem dX7_create_65 : decode cX7_create 65 = .ok (.aload_n 0, 1) := by decide +kernel
theorem dX7_create_66 : decode cX7_create 66 = .ok (.iload_n 3, 1) := by decide +kernel
theorem dX7_create_67 : decode cX7_create 67 = .ok (.invokevirtual 128, 3) := by decide +kernel
theorem dX7_create_70 : decode cX7_create 70 = .ok (.iload_n 3, 1) := by decide +kernel
theorem dX7_create_71 : decode cX7_create 71 = .ok (.ireturn, 1) := by decide +kernel
theorem dX7_start_0 : decode cX7_start 0 = .ok (.aload_n 0, 1) := by decide +kernel
theorem dX7_start_1 : decode cX7_start 1 = .ok (.iload_n 1, 1) := by decide +kernel
theorem dX7_start_2 : decode cX7_start 2 = .ok (.iconst 0, 1) := by decide +kernel
theorem dX7_start_3 : decode cX7_start 3 = .ok (.sipush 299, 3) := by decide +kernel
theorem dX7_start_6 : decode cX7_start 6 = .ok (.invokestatic 110, 3) := by decide +kernel
theorem dX7_start_9 : decode cX7_start 9 = .ok (.ifCond .eq 12, 3) := by decide +kernel
theorem dX7_start_12 : decode cX7_start 12 = .ok (.iload_n 2, 1) := by decide +kernel
theorem dX7_start_13 : decode cX7_start 13 = .ok (.iconst 0, 1) := by decide +kernel
theorem dX7_start_14 : decode cX7_start 14 = .ok (.iconst 2, 1) := by decide +kernel
theorem dX7_start_15 : decode cX7_start 15 = .ok (.invokestatic 110, 3) := by decide +kernel
theorem dX7_start_18 : decode cX7_start 18 = .ok (.ifCond .ne 7, 3) := by decide +kernel
theorem dX7_start_21 : decode cX7_start 21 = .ok (.iconst 1, 1) := by decide +kernel
theorem dX7_start_22 : decode cX7_start 22 = .ok (.goto 4, 3) := by decide +kernel
theorem dX7_start_25 : decode cX7_start 25 = .ok (.iconst 0, 1) := by decide +kernel
theorem dX7_start_26 : decode cX7_start 26 = .ok (.iconst 1, 1) := by decide +kernel
theorem dX7_start_27 : decode cX7_start 27 = .ok (.invokevirtual 114, 3) := by decide +kernel
theorem dX7_start_30 : decode cX7_start 30 = .ok (.ifCond .ne 25, 3) := by decide +kernel
theorem dX7_start_33 : decode cX7_start 33 = .ok (.aload_n 0, 1) := by decide +kernel
theorem dX7_start_34 : decode cX7_start 34 = .ok (.aload_n 0, 1) := by decide +kernel
theorem dX7_start_35 : decode cX7_start 35 = .ok (.getfield 121, 3) := by decide +kernel
theorem dX7_start_38 : decode cX7_start 38 = .ok (.bipush 60, 2) := by decide +kernel
theorem dX7_start_40 : decode cX7_start 40 = .ok (.if_icmp .ne 7, 3) := by decide +kernel
theorem dX7_start_43 : decode cX7_start 43 = .ok (.iconst 1, 1) := by decide +kernel
theorem dX7_start_44 : decode cX7_start 44 = .ok (.goto 4, 3) := by decide +kernel
theorem dX7_start_47 : decode cX7_start 47 = .ok (.iconst 0, 1) := by decide +kernel
theorem dX7_start_48 : decode cX7_start 48 = .ok (.iconst 2, 1) := by decide +kernel
theorem dX7_start_49 : decode cX7_start 49 = .ok (.invokevirtual 114, 3) := by decide +kernel
theorem dX7_start_52 : decode cX7_start 52 = .ok (.ifCond .eq 5, 3) := by decide +kernel
theorem dX7_start_55 : decode cX7_start 55 = .ok (.iconst 0, 1) := by decide +kernel
theorem dX7_start_56 : decode cX7_start 56 = .ok (.ireturn, 1) := by decide +kernel
theorem dX7_start_57 : decode cX7_start 57 = .ok (.aload_n 0, 1) := by decide +kernel
theorem dX7_start_58 : decode cX7_start 58 = .ok (.iload_n 1, 1) := by decide +kernel
theorem dX7_start_59 : decode cX7_start 59 = .ok (.iload_n 2, 1) := by decide +kernel
theorem dX7_start_60 : decode cX7_start 60 = .ok (.invokevirtual 132, 3) := by decide +kernel
theorem dX7_start_63 : decode cX7_start 63 = .ok (.iconst 1, 1) := by decide +kernel
theorem dX7_start_64 : decode cX7_start 64 = .ok (.iadd, 1) := by decide +kernel
theorem dX7_start_65 : decode cX7_start 65 = .ok (.ireturn, 1) := by decide +kernel
theorem dX7_comes_0 : decode cX7_comes 0 = .ok (.aload_n 0, 1) := by decide +kernel
theorem dX7_comes_1 : decode cX7_comes 1 = .ok (.getfield 29, 3) := by decide +kernel
theorem dX7_comes_4 : decode cX7_comes 4 = .ok (.iload_n 1, 1) := by decide +kernel
theorem dX7_comes_5 : decode cX7_comes 5 = .ok (.iaload, 1) := by decide +kernel
theorem dX7_comes_6 : decode cX7_comes 6 = .ok (.iconst 2, 1) := by decide +kernel
theorem dX7_comes_7 : decode cX7_comes 7 = .ok (.if_icmp .eq 14, 3) := by decide +kernel
theorem dX7_comes_10 : decode cX7_comes 10 = .ok (.aload_n 0, 1) := by decide +kernel
theorem dX7_comes_11 : decode cX7_comes 11 = .ok (.getfield 45, 3) := by decide +kernel
theorem dX7_comes_14 : decode cX7_comes 14 = .ok (.iload_n 1, 1) := by decide +kernel
theorem dX7_comes_15 : decode cX7_comes 15 = .ok (.iaload, 1) := by decide +kernel
theorem dX7_comes_16 : decode cX7_comes 16 = .ok (.bipush 40, 2) := by decide +kernel
theorem dX7_comes_18 : decode cX7_comes 18 = .ok (.if_icmp .ne 5, 3) := by decide +kernel
theorem dX7_comes_21 : decode cX7_comes 21 = .ok (.iconst 0, 1) := by decide +kernel
theorem dX7_comes_22 : decode cX7_comes 22 = .ok (.ireturn, 1) := by decide +kernel
theorem dX7_comes_23 : decode cX7_comes 23 = .ok (.aload_n 0, 1) := by decide +kernel
theorem dX7_comes_24 : decode cX7_comes 24 = .ok (.sipush 480, 3) := by decide +kernel
theorem dX7_comes_27 : decode cX7_comes 27 = .ok (.bipush 40, 2) := by decide +kernel
theorem dX7_comes_29 : decode cX7_comes 29 = .ok (.iload_n 1, 1) := by decide +kernel
theorem dX7_comes_30 : decode cX7_comes 30 = .ok (.imul, 1) := by decide +kernel
theorem dX7_comes_31 : decode cX7_comes 31 = .ok (.iadd, 1) := by decide +kernel
theorem dX7_comes_32 : decode cX7_comes 32 = .ok (.aload_n 0, 1) := by decide +kernel
theorem dX7_comes_33 : decode cX7_comes 33 = .ok (.getfield 45, 3) := by decide +kernel
theorem dX7_comes_36 : decode cX7_comes 36 = .ok (.iload_n 1, 1) := by decide +kernel
theorem dX7_comes_37 : decode cX7_comes 37 = .ok (.iaload, 1) := by decide +kernel
theorem dX7_comes_38 : decode cX7_comes 38 = .ok (.iadd, 1) := by decide +kernel
theorem dX7_comes_39 : decode cX7_comes 39 = .ok (.iload_n 2, 1) := by decide +kernel
theorem dX7_comes_40 : decode cX7_comes 40 = .ok (.invokevirtual 136, 3) := by decide +kernel
theorem dX7_comes_43 : decode cX7_comes 43 = .ok (.aload_n 0, 1) := by decide +kernel
theorem dX7_comes_44 : decode cX7_comes 44 = .ok (.getfield 45, 3) := by decide +kernel
theorem dX7_comes_47 : decode cX7_comes 47 = .ok (.iload_n 1, 1) := by decide +kernel
theorem dX7_comes_48 : decode cX7_comes 48 = .ok (.dup2, 1) := by decide +kernel
theorem dX7_comes_49 : decode cX7_comes 49 = .ok (.iaload, 1) := by decide +kernel
theorem dX7_comes_50 : decode cX7_comes 50 = .ok (.iconst 1, 1) := by decide +kernel
theorem dX7_comes_51 : decode cX7_comes 51 = .ok (.iadd, 1) := by decide +kernel
theorem dX7_comes_52 : decode cX7_comes 52 = .ok (.iastore, 1) := by decide +kernel
theorem dX7_comes_53 : decode cX7_comes 53 = .ok (.aload_n 0, 1) := by decide +kernel
theorem dX7_comes_54 : decode cX7_comes 54 = .ok (.dup, 1) := by decide +kernel
theorem dX7_comes_55 : decode cX7_comes 55 = .ok (.getfield 140, 3) := by decide +kernel
theorem dX7_comes_58 : decode cX7_comes 58 = .ok (.iconst 1, 1) := by decide +kernel
theorem dX7_comes_59 : decode cX7_comes 59 = .ok (.iadd, 1) := by decide +kernel
theorem dX7_comes_60 : decode cX7_comes 60 = .ok (.putfield 140, 3) := by decide +kernel
theorem dX7_comes_63 : decode cX7_comes 63 = .ok (.aload_n 0, 1) := by decide +kernel
theorem dX7_comes_64 : decode cX7_comes 64 = .ok (.getfield 29, 3) := by decide +kernel
theorem dX7_comes_67 : decode cX7_comes 67 = .ok (.iload_n 1, 1) := by decide +kernel
theorem dX7_comes_68 : decode cX7_comes 68 = .ok (.iaload, 1) := by decide +kernel
theorem dX7_comes_69 : decode cX7_comes 69 = .ok (.iconst 1, 1) := by decide +kernel
theorem dX7_comes_70 : decode cX7_comes 70 = .ok (.if_icmp .ne 27, 3) := by decide +kernel
theorem dX7_comes_73 : decode cX7_comes 73 = .ok (.aload_n 0, 1) := by decide +kernel
theorem dX7_comes_74 : decode cX7_comes 74 = .ok (.getfield 32, 3) := by decide +kernel
theorem dX7_comes_77 : decode cX7_comes 77 = .ok (.iload_n 1, 1) := by decide +kernel
theorem dX7_comes_78 : decode cX7_comes 78 = .ok (.aload_n 0, 1) := by decide +kernel
theorem dX7_comes_79 : decode cX7_comes 79 = .ok (.getfield 69, 3) := by decide +kernel
theorem dX7_comes_82 : decode cX7_comes 82 = .ok (.iload_n 1, 1) := by decide +kernel
theorem dX7_comes_83 : decode cX7_comes 83 = .ok (.iaload, 1) := by decide +kernel
theorem dX7_comes_84 : decode cX7_comes 84 = .ok (.iastore, 1) := by decide +kernel
theorem dX7_comes_85 : decode cX7_comes 85 = .ok (.aload_n 0, 1) := by decide +kernel
theorem dX7_comes_86 : decode cX7_comes 86 = .ok (.getfield 78, 3) := by decide +kernel
theorem dX7_comes_89 : decode cX7_comes 89 = .ok (.iload_n 1, 1) := by decide +kernel
theorem dX7_comes_90 : decode cX7_comes 90 = .ok (.iconst 0, 1) := by decide +kernel
theorem dX7_comes_91 : decode cX7_comes 91 = .ok (.bastore, 1) := by decide +kernel
theorem dX7_comes_92 : decode cX7_comes 92 = .ok (.aload_n 0, 1) := by decide +kernel
theorem dX7_comes_93 : decode cX7_comes 93 = .ok (.iload_n 1, 1) := by decide +kernel
theorem dX7_comes_94 : decode cX7_comes 94 = .ok (.invokevirtual 128, 3) := by decide +kernel
theorem dX7_comes_97 : decode cX7_comes 97 = .ok (.iconst 1, 1) := by decide +kernel
theorem dX7_comes_98 : decode cX7_comes 98 = .ok (.ireturn, 1) := by decide +kernel
theorem dX7_isProcess_0 : decode cX7_isProcess 0 = .ok (.iload_n 1, 1) := by decide +kernel
theorem dX7_isProcess_1 : decode cX7_isProcess 1 = .ok (.iconst 1, 1) := by decide +kernel
theorem dX7_isProcess_2 : decode cX7_isProcess 2 = .ok (.aload_n 0, 1) := by decide +kernel
theorem dX7_isProcess_3 : decode cX7_isProcess 3 = .ok (.getfield 121, 3) := by decide +kernel
theorem dX7_isProcess_6 : decode cX7_isProcess 6 = .ok (.invokestatic 110, 3) := by decide +kernel
theorem dX7_isProcess_9 : decode cX7_isProcess 9 = .ok (.ireturn, 1) := by decide +kernel
theorem dX7_send_0 : decode cX7_send 0 = .ok (.aload_n 0, 1) := by decide +kernel
theorem dX7_send_1 : decode cX7_send 1 = .ok (.aload_n 0, 1) := by decide +kernel
theorem dX7_send_2 : decode cX7_send 2 = .ok (.iload_n 1, 1) := by decide +kernel
theorem dX7_send_3 : decode cX7_send 3 = .ok (.invokevirtual 143, 3) := by decide +kernel
theorem dX7_send_6 : decode cX7_send 6 = .ok (.ifCond .ne 7, 3) := by decide +kernel
theorem dX7_send_9 : decode cX7_send 9 = .ok (.iconst 1, 1) := by decide +kernel
theorem dX7_send_10 : decode cX7_send 10 = .ok (.goto 4, 3) := by decide +kernel
theorem dX7_send_13 : decode cX7_send 13 = .ok (.iconst 0, 1) := by decide +kernel
theorem dX7_send_14 : decode cX7_send 14 = .ok (.iconst 1, 1) := by decide +kernel
theorem dX7_send_15 : decode cX7_send 15 = .ok (.invokevirtual 114, 3) := by decide +kernel
theorem dX7_send_18 : decode cX7_send 18 = .ok (.ifCond .eq 5, 3) := by decide +kernel
theorem dX7_send_21 : decode cX7_send 21 = .ok (.iconst 0, 1) := by decide +kernel
theorem dX7_send_22 : decode cX7_send 22 = .ok (.ireturn, 1) := by decide +kernel
theorem dX7_send_23 : decode cX7_send 23 = .ok (.aload_n 0, 1) := by decide +kernel
theorem dX7_send_24 : decode cX7_send 24 = .ok (.sipush 2940, 3) := by decide +kernel
theorem dX7_send_27 : decode cX7_send 27 = .ok (.iconst 0, 1) := by decide +kernel
theorem dX7_send_28 : decode cX7_send 28 = .ok (.iload_n 2, 1) := by decide +kernel
theorem dX7_send_29 : decode cX7_send 29 = .ok (.invokevirtual 124, 3) := by decide +kernel
theorem dX7_send_32 : decode cX7_send 32 = .ok (.aload_n 0, 1) := by decide +kernel
theorem dX7_send_33 : decode cX7_send 33 = .ok (.iload_n 1, 1) := by decide +kernel
theorem dX7_send_34 : decode cX7_send 34 = .ok (.iconst 1, 1) := by decide +kernel
theorem dX7_send_35 : decode cX7_send 35 = .ok (.isub, 1) := by decide +kernel
theorem dX7_send_36 : decode cX7_send 36 = .ok (.sipush 2940, 3) := by decide +kernel
theorem dX7_send_39 : decode cX7_send 39 = .ok (.invokevirtual 147, 3) := by decide +kernel
theorem dX7_send_42 : decode cX7_send 42 = .ok (.ireturn, 1) := by decide +kernel
theorem dX7_dies_0 : decode cX7_dies 0 = .ok (.aload_n 0, 1) := by decide +kernel
theorem dX7_dies_1 : decode cX7_dies 1 = .ok (.sipush 2880, 3) := by decide +kernel
theorem dX7_dies_4 : decode cX7_dies 4 = .ok (.iload_n 1, 1) := by decide +kernel
theorem dX7_dies_5 : decode cX7_dies 5 = .ok (.iadd, 1) := by decide +kernel
theorem dX7_dies_6 : decode cX7_dies 6 = .ok (.iload_n 2, 1) := by decide +kernel
theorem dX7_dies_7 : decode cX7_dies 7 = .ok (.invokevirtual 136, 3) := by decide +kernel
theorem dX7_dies_10 : decode cX7_dies 10 = .ok (.aload_n 0, 1) := by decide +kernel
theorem dX7_dies_11 : decode cX7_dies 11 = .ok (.getfield 29, 3) := by decide +kernel
theorem dX7_dies_14 : decode cX7_dies 14 = .ok (.iload_n 1, 1) := by decide +kernel
theorem dX7_dies_15 : decode cX7_dies 15 = .ok (.iconst 2, 1) := by decide +kernel
theorem dX7_dies_16 : decode cX7_dies 16 = .ok (.iastore, 1) := by decide +kernel
theorem dX7_dies_17 : decode cX7_dies 17 = .ok (.aload_n 0, 1) := by decide +kernel
theorem dX7_dies_18 : decode cX7_dies 18 = .ok (.getfield 38, 3) := by decide +kernel
theorem dX7_dies_21 : decode cX7_dies 21 = .ok (.iload_n 1, 1) := by decide +kernel
theorem dX7_dies_22 : decode cX7_dies 22 = .ok (.iconst (-1), 1) := by decide +kernel
theorem dX7_dies_23 : decode cX7_dies 23 = .ok (.iastore, 1) := by decide +kernel
theorem dX7_dies_24 : decode cX7_dies 24 = .ok (.aload_n 0, 1) := by decide +kernel
theorem dX7_dies_25 : decode cX7_dies 25 = .ok (.getfield 45, 3) := by decide +kernel
theorem dX7_dies_28 : decode cX7_dies 28 = .ok (.iload_n 1, 1) := by decide +kernel
theorem dX7_dies_29 : decode cX7_dies 29 = .ok (.iconst 0, 1) := by decide +kernel
theorem dX7_dies_30 : decode cX7_dies 30 = .ok (.iastore, 1) := by decide +kernel
theorem dX7_dies_31 : decode cX7_dies 31 = .ok (.aload_n 0, 1) := by decide +kernel
theorem dX7_dies_32 : decode cX7_dies 32 = .ok (.getfield 48, 3) := by decide +kernel
theorem dX7_dies_35 : decode cX7_dies 35 = .ok (.iload_n 1, 1) := by decide +kernel
theorem dX7_dies_36 : decode cX7_dies 36 = .ok (.iconst 0, 1) := by decide +kernel
theorem dX7_dies_37 : decode cX7_dies 37 = .ok (.iastore, 1) := by decide +kernel
theorem dX7_dies_38 : decode cX7_dies 38 = .ok (.aload_n 0, 1) := by decide +kernel
theorem dX7_dies_39 : decode cX7_dies 39 = .ok (.getfield 54, 3) := by decide +kernel
theorem dX7_dies_42 : decode cX7_dies 42 = .ok (.iload_n 1, 1) := by decide +kernel
theorem dX7_dies_43 : decode cX7_dies 43 = .ok (.iconst 0, 1) := by decide +kernel
theorem dX7_dies_44 : decode cX7_dies 44 = .ok (.iastore, 1) := by decide +kernel
theorem dX7_dies_45 : decode cX7_dies 45 = .ok (.aload_n 0, 1) := by decide +kernel
theorem dX7_dies_46 : decode cX7_dies 46 = .ok (.getfield 63, 3) := by decide +kernel
theorem dX7_dies_49 : decode cX7_dies 49 = .ok (.iload_n 1, 1) := by decide +kernel
theorem dX7_dies_50 : decode cX7_dies 50 = .ok (.iconst 0, 1) := by decide +kernel
theorem dX7_dies_51 : decode cX7_dies 51 = .ok (.iastore, 1) := by decide +kernel
theorem dX7_dies_52 : decode cX7_dies 52 = .ok (.aload_n 0, 1) := by decide +kernel
theorem dX7_dies_53 : decode cX7_dies 53 = .ok (.getfield 78, 3) := by decide +kernel
theorem dX7_dies_56 : decode cX7_dies 56 = .ok (.iload_n 1, 1) := by decide +kernel
theorem dX7_dies_57 : decode cX7_dies 57 = .ok (.iconst 0, 1) := by decide +kernel
theorem dX7_dies_58 : decode cX7_dies 58 = .ok (.bastore, 1) := by decide +kernel
theorem dX7_dies_59 : decode cX7_dies 59 = .ok (.aload_n 0, 1) := by decide +kernel
theorem dX7_dies_60 : decode cX7_dies 60 = .ok (.getfield 151, 3) := by decide +kernel
theorem dX7_dies_63 : decode cX7_dies 63 = .ok (.iconst 1, 1) := by decide +kernel
theorem dX7_dies_64 : decode cX7_dies 64 = .ok (.isub, 1) := by decide +kernel
theorem dX7_dies_65 : decode cX7_dies 65 = .ok (.istore_n 3, 1) := by decide +kernel
theorem dX7_dies_66 : decode cX7_dies 66 = .ok (.iload_n 3, 1) := by decide +kernel
theorem dX7_dies_67 : decode cX7_dies 67 = .ok (.ifCond .lt 24, 3) := by decide +kernel
theorem dX7_dies_70 : decode cX7_dies 70 = .ok (.aload_n 0, 1) := by decide +kernel
theorem dX7_dies_71 : decode cX7_dies 71 = .ok (.getfield 87, 3) := by decide +kernel
theorem dX7_dies_74 : decode cX7_dies 74 = .ok (.iload_n 3, 1) := by decide +kernel
theorem dX7_dies_75 : decode cX7_dies 75 = .ok (.iaload, 1) := by decide +kernel
theorem dX7_dies_76 : decode cX7_dies 76 = .ok (.iload_n 1, 1) := by decide +kernel
theorem dX7_dies_77 : decode cX7_dies 77 = .ok (.if_icmp .ne 8, 3) := by decide +kernel
theorem dX7_dies_80 : decode cX7_dies 80 = .ok (.aload_n 0, 1) := by decide +kernel
theorem dX7_dies_81 : decode cX7_dies 81 = .ok (.iload_n 3, 1) := by decide +kernel
theorem dX7_dies_82 : decode cX7_dies 82 = .ok (.invokevirtual 154, 3) := by decide +kernel
theorem dX7_dies_85 : decode cX7_dies 85 = .ok (.iinc 3 (-1), 3) := by decide +kernel
theorem dX7_dies_88 : decode cX7_dies 88 = .ok (.goto (-22), 3) := by decide +kernel
theorem dX7_dies_91 : decode cX7_dies 91 = .ok (.aload_n 0, 1) := by decide +kernel
theorem dX7_dies_92 : decode cX7_dies 92 = .ok (.getfield 96, 3) := by decide +kernel
theorem dX7_dies_95 : decode cX7_dies 95 = .ok (.aload_n 0, 1) := by decide +kernel
theorem dX7_dies_96 : decode cX7_dies 96 = .ok (.getfield 157, 3) := by decide +kernel
theorem dX7_dies_99 : decode cX7_dies 99 = .ok (.iload_n 1, 1) := by decide +kernel
theorem dX7_dies_100 : decode cX7_dies 100 = .ok (.iastore, 1) := by decide +kernel
theorem dX7_dies_101 : decode cX7_dies 101 = .ok (.aload_n 0, 1) := by decide +kernel
theorem dX7_dies_102 : decode cX7_dies 102 = .ok (.dup, 1) := by decide +kernel
theorem dX7_dies_103 : decode cX7_dies 103 = .ok (.getfield 157, 3) := by decide +kernel
theorem dX7_dies_106 : decode cX7_dies 106 = .ok (.iconst 1, 1) := by decide +kernel
theorem dX7_dies_107 : decode cX7_dies 107 = .ok (.iadd, 1) := by decide +kernel
theorem dX7_dies_108 : decode cX7_dies 108 = .ok (.putfield 157, 3) := by decide +kernel
theorem dX7_dies_111 : decode cX7_dies 111 = .ok (.return_, 1) := by decide +kernel
theorem dX7_spread_0 : decode cX7_spread 0 = .ok (.iconst 0, 1) := by decide +kernel
theorem dX7_spread_1 : decode cX7_spread 1 = .ok (.istore_n 1, 1) := by decide +kernel
theorem dX7_spread_2 : decode cX7_spread 2 = .ok (.iload_n 1, 1) := by decide +kernel
theorem dX7_spread_3 : decode cX7_spread 3 = .ok (.aload_n 0, 1) := by decide +kernel
theorem dX7_spread_4 : decode cX7_spread 4 = .ok (.getfield 157, 3) := by decide +kernel
theorem dX7_spread_7 : decode cX7_spread 7 = .ok (.if_icmp .ge 132, 3) := by decide +kernel
theorem dX7_spread_10 : decode cX7_spread 10 = .ok (.aload_n 0, 1) := by decide +kernel
theorem dX7_spread_11 : decode cX7_spread 11 = .ok (.getfield 96, 3) := by decide +kernel
theorem dX7_spread_14 : decode cX7_spread 14 = .ok (.iload_n 1, 1) := by decide +kernel
theorem dX7_spread_15 : decode cX7_spread 15 = .ok (.iaload, 1) := by decide +kernel
theorem dX7_spread_16 : decode cX7_spread 16 = .ok (.istore_n 2, 1) := by decide +kernel
theorem dX7_spread_17 : decode cX7_spread 17 = .ok (.iconst 0, 1) := by decide +kernel
theorem dX7_spread_18 : decode cX7_spread 18 = .ok (.istore_n 3, 1) := by decide +kernel
theorem dX7_spread_19 : decode cX7_spread 19 = .ok (.iload_n 3, 1) := by decide +kernel
theorem dX7_spread_20 : decode cX7_spread 20 = .ok (.aload_n 0, 1) := by decide +kernel
theorem dX7_spread_21 : decode cX7_spread 21 = .ok (.getfield 121, 3) := by decide +kernel
theorem dX7_spread_24 : decode cX7_spread 24 = .ok (.if_icmp .ge 45, 3) := by decide +kernel
theorem dX7_spread_27 : decode cX7_spread 27 = .ok (.aload_n 0, 1) := by decide +kernel
theorem dX7_spread_28 : decode cX7_spread 28 = .ok (.getfield 84, 3) := by decide +kernel
theorem dX7_spread_31 : decode cX7_spread 31 = .ok (.bipush 60, 2) := by decide +kernel
theorem dX7_spread_33 : decode cX7_spread 33 = .ok (.iload_n 2, 1) := by decide +kernel
theorem dX7_spread_34 : decode cX7_spread 34 = .ok (.imul, 1) := by decide +kernel
theorem dX7_spread_35 : decode cX7_spread 35 = .ok (.iload_n 3, 1) := by decide +kernel
theorem dX7_spread_36 : decode cX7_spread 36 = .ok (.iadd, 1) := by decide +kernel
theorem dX7_spread_37 : decode cX7_spread 37 = .ok (.baload, 1) := by decide +kernel
theorem dX7_spread_38 : decode cX7_spread 38 = .ok (.ifCond .ne 6, 3) := by decide +kernel
theorem dX7_spread_41 : decode cX7_spread 41 = .ok (.goto 22, 3) := by decide +kernel
theorem dX7_spread_44 : decode cX7_spread 44 = .ok (.aload_n 0, 1) := by decide +kernel
theorem dX7_spread_45 : decode cX7_spread 45 = .ok (.iload_n 2, 1) := by decide +kernel
theorem dX7_spread_46 : decode cX7_spread 46 = .ok (.iload_n 3, 1) := by decide +kernel
theorem dX7_spread_47 : decode cX7_spread 47 = .ok (.iconst 0, 1) := by decide +kernel
theorem dX7_spread_48 : decode cX7_spread 48 = .ok (.invokevirtual 160, 3) := by decide +kernel
theorem dX7_spread_51 : decode cX7_spread 51 = .ok (.aload_n 0, 1) := by decide +kernel
theorem dX7_spread_52 : decode cX7_spread 52 = .ok (.iload_n 3, 1) := by decide +kernel
theorem dX7_spread_53 : decode cX7_spread 53 = .ok (.iload_n 2, 1) := by decide +kernel
theorem dX7_spread_54 : decode cX7_spread 54 = .ok (.sipush 2880, 3) := by decide +kernel
theorem dX7_spread_57 : decode cX7_spread 57 = .ok (.iload_n 2, 1) := by decide +kernel
theorem dX7_spread_58 : decode cX7_spread 58 = .ok (.iadd, 1) := by decide +kernel
theorem dX7_spread_59 : decode cX7_spread 59 = .ok (.iconst 0, 1) := by decide +kernel
theorem dX7_spread_60 : decode cX7_spread 60 = .ok (.invokevirtual 164, 3) := by decide +kernel
theorem dX7_spread_63 : decode cX7_spread 63 = .ok (.iinc 3 1, 3) := by decide +kernel
theorem dX7_spread_66 : decode cX7_spread 66 = .ok (.goto (-47), 3) := by decide +kernel
theorem dX7_spread_69 : decode cX7_spread 69 = .ok (.iconst 0, 1) := by decide +kernel
theorem dX7_spread_70 : decode cX7_spread 70 = .ok (.istore_n 3, 1) := by decide +kernel
theorem dX7_spread_71 : decode cX7_spread 71 = .ok (.iload_n 3, 1) := by decide +kernel
theorem dX7_spread_72 : decode cX7_spread 72 = .ok (.aload_n 0, 1) := by decide +kernel
theorem dX7_spread_73 : decode cX7_spread 73 = .ok (.getfield 151, 3) := by decide +kernel
theorem dX7_spread_76 : decode cX7_spread 76 = .ok (.if_icmp .ge 57, 3) := by decide +kernel
theorem dX7_spread_79 : decode cX7_spread 79 = .ok (.aload_n 0, 1) := by decide +kernel
theorem dX7_spread_80 : decode cX7_spread 80 = .ok (.getfield 90, 3) := by decide +kernel
theorem dX7_spread_83 : decode cX7_spread 83 = .ok (.iload_n 3, 1) := by decide +kernel
theorem dX7_spread_84 : decode cX7_spread 84 = .ok (.iaload, 1) := by decide +kernel
theorem dX7_spread_85 : decode cX7_spread 85 = .ok (.iload_n 2, 1) := by decide +kernel
theorem dX7_spread_86 : decode cX7_spread 86 = .ok (.if_icmp .eq 9, 3) := by decide +kernel
theorem dX7_spread_89 : decode cX7_spread 89 = .ok (.iinc 3 1, 3) := by decide +kernel
theorem dX7_spread_92 : decode cX7_spread 92 = .ok (.goto (-21), 3) := by decide +kernel
theorem dX7_spread_95 : decode cX7_spread 95 = .ok (.aload_n 0, 1) := by decide +kernel
theorem dX7_spread_96 : decode cX7_spread 96 = .ok (.getfield 87, 3) := by decide +kernel
theorem dX7_spread_99 : decode cX7_spread 99 = .ok (.iload_n 3, 1) := by decide +kernel
theorem dX7_spread_100 : decode cX7_spread 100 = .ok (.iaload, 1) := by decide +kernel
theorem dX7_spread_101 : decode cX7_spread 101 = .ok (.istore 4, 2) := by decide +kernel
theorem dX7_spread_103 : decode cX7_spread 103 = .ok (.aload_n 0, 1) := by decide +kernel
theorem dX7_spread_104 : decode cX7_spread 104 = .ok (.getfield 93, 3) := by decide +kernel
theorem dX7_spread_107 : decode cX7_spread 107 = .ok (.iload_n 3, 1) := by decide +kernel
theorem dX7_spread_108 : decode cX7_spread 108 = .ok (.iaload, 1) := by decide +kernel
theorem dX7_spread_109 : decode cX7_spread 109 = .ok (.istore 5, 2) := by decide +kernel
theorem dX7_spread_111 : decode cX7_spread 111 = .ok (.aload_n 0, 1) := by decide +kernel
theorem dX7_spread_112 : decode cX7_spread 112 = .ok (.iload_n 3, 1) := by decide +kernel
theorem dX7_spread_113 : decode cX7_spread 113 = .ok (.invokevirtual 154, 3) := by decide +kernel
theorem dX7_spread_116 : decode cX7_spread 116 = .ok (.aload_n 0, 1) := by decide +kernel
theorem dX7_spread_117 : decode cX7_spread 117 = .ok (.iload 4, 2) := by decide +kernel
theorem dX7_spread_119 : decode cX7_spread 119 = .ok (.iload 5, 2) := by decide +kernel
theorem dX7_spread_121 : decode cX7_spread 121 = .ok (.iload_n 2, 1) := by decide +kernel
theorem dX7_spread_122 : decode cX7_spread 122 = .ok (.sipush 2880, 3) := by decide +kernel
theorem dX7_spread_125 : decode cX7_spread 125 = .ok (.iload_n 2, 1) := by decide +kernel
theorem dX7_spread_126 : decode cX7_spread 126 = .ok (.iadd, 1) := by decide +kernel
theorem dX7_spread_127 : decode cX7_spread 127 = .ok (.invokevirtual 168, 3) := by decide +kernel
theorem dX7_spread_130 : decode cX7_spread 130 = .ok (.goto (-59), 3) := by decide +kernel
theorem dX7_spread_133 : decode cX7_spread 133 = .ok (.iinc 1 1, 3) := by decide +kernel
theorem dX7_spread_136 : decode cX7_spread 136 = .ok (.goto (-134), 3) := by decide +kernel
theorem dX7_spread_139 : decode cX7_spread 139 = .ok (.aload_n 0, 1) := by decide +kernel
theorem dX7_spread_140 : decode cX7_spread 140 = .ok (.iconst 0, 1) := by decide +kernel
theorem dX7_spread_141 : decode cX7_spread 141 = .ok (.putfield 157, 3) := by decide +kernel
theorem dX7_spread_144 : decode cX7_spread 144 = .ok (.return_, 1) := by decide +kernel
theorem dX7_dropWatch_0 : decode cX7_dropWatch 0 = .ok (.aload_n 0, 1) := by decide +kernel
theorem dX7_dropWatch_1 : decode cX7_dropWatch 1 = .ok (.dup, 1) := by decide +kernel
theorem dX7_dropWatch_2 : decode cX7_dropWatch 2 = .ok (.getfield 151, 3) := by decide +kernel
theorem dX7_dropWatch_5 : decode cX7_dropWatch 5 = .ok (.iconst 1, 1) := by decide +kernel
theorem dX7_dropWatch_6 : decode cX7_dropWatch 6 = .ok (.isub, 1) := by decide +kernel
theorem dX7_dropWatch_7 : decode cX7_dropWatch 7 = .ok (.putfield 151, 3) := by decide +kernel
theorem dX7_dropWatch_10 : decode cX7_dropWatch 10 = .ok (.iload_n 1, 1) := by decide +kernel
theorem dX7_dropWatch_11 : decode cX7_dropWatch 11 = .ok (.istore_n 2, 1) := by decide +kernel
theorem dX7_dropWatch_12 : decode cX7_dropWatch 12 = .ok (.iload_n 2, 1) := by decide +kernel
theorem dX7_dropWatch_13 : decode cX7_dropWatch 13 = .ok (.aload_n 0, 1) := by decide +kernel
theorem dX7_dropWatch_14 : decode cX7_dropWatch 14 = .ok (.getfield 151, 3) := by decide +kernel
theorem dX7_dropWatch_17 : decode cX7_dropWatch 17 = .ok (.if_icmp .ge 51, 3) := by decide +kernel
theorem dX7_dropWatch_20 : decode cX7_dropWatch 20 = .ok (.aload_n 0, 1) := by decide +kernel
theorem dX7_dropWatch_21 : decode cX7_dropWatch 21 = .ok (.getfield 87, 3) := by decide +kernel
theorem dX7_dropWatch_24 : decode cX7_dropWatch 24 = .ok (.iload_n 2, 1) := by decide +kernel
theorem dX7_dropWatch_25 : decode cX7_dropWatch 25 = .ok (.aload_n 0, 1) := by decide +kernel
theorem dX7_dropWatch_26 : decode cX7_dropWatch 26 = .ok (.getfield 87, 3) := by decide +kernel
theorem dX7_dropWatch_29 : decode cX7_dropWatch 29 = .ok (.iload_n 2, 1) := by decide +kernel
theorem dX7_dropWatch_30 : decode cX7_dropWatch 30 = .ok (.iconst 1, 1) := by decide +kernel
theorem dX7_dropWatch_31 : decode cX7_dropWatch 31 = .ok (.iadd, 1) := by decide +kernel
theorem dX7_dropWatch_32 : decode cX7_dropWatch 32 = .ok (.iaload, 1) := by decide +kernel
theorem dX7_dropWatch_33 : decode cX7_dropWatch 33 = .ok (.iastore, 1) := by decide +kernel
theorem dX7_dropWatch_34 : decode cX7_dropWatch 34 = .ok (.aload_n 0, 1) := by decide +kernel
theorem dX7_dropWatch_35 : decode cX7_dropWatch 35 = .ok (.getfield 90, 3) := by decide +kernel
theorem dX7_dropWatch_38 : decode cX7_dropWatch 38 = .ok (.iload_n 2, 1) := by decide +kernel
theorem dX7_dropWatch_39 : decode cX7_dropWatch 39 = .ok (.aload_n 0, 1) := by decide +kernel
theorem dX7_dropWatch_40 : decode cX7_dropWatch 40 = .ok (.getfield 90, 3) := by decide +kernel
theorem dX7_dropWatch_43 : decode cX7_dropWatch 43 = .ok (.iload_n 2, 1) := by decide +kernel
theorem dX7_dropWatch_44 : decode cX7_dropWatch 44 = .ok (.iconst 1, 1) := by decide +kernel
theorem dX7_dropWatch_45 : decode cX7_dropWatch 45 = .ok (.iadd, 1) := by decide +kernel
theorem dX7_dropWatch_46 : decode cX7_dropWatch 46 = .ok (.iaload, 1) := by decide +kernel
theorem dX7_dropWatch_47 : decode cX7_dropWatch 47 = .ok (.iastore, 1) := by decide +kernel
theorem dX7_dropWatch_48 : decode cX7_dropWatch 48 = .ok (.aload_n 0, 1) := by decide +kernel
theorem dX7_dropWatch_49 : decode cX7_dropWatch 49 = .ok (.getfield 93, 3) := by decide +kernel
theorem dX7_dropWatch_52 : decode cX7_dropWatch 52 = .ok (.iload_n 2, 1) := by decide +kernel
theorem dX7_dropWatch_53 : decode cX7_dropWatch 53 = .ok (.aload_n 0, 1) := by decide +kernel
theorem dX7_dropWatch_54 : decode cX7_dropWatch 54 = .ok (.getfield 93, 3) := by decide +kernel
theorem dX7_dropWatch_57 : decode cX7_dropWatch 57 = .ok (.iload_n 2, 1) := by decide +kernel
theorem dX7_dropWatch_58 : decode cX7_dropWatch 58 = .ok (.iconst 1, 1) := by decide +kernel
theorem dX7_dropWatch_59 : decode cX7_dropWatch 59 = .ok (.iadd, 1) := by decide +kernel
theorem dX7_dropWatch_60 : decode cX7_dropWatch 60 = .ok (.iaload, 1) := by decide +kernel
theorem dX7_dropWatch_61 : decode cX7_dropWatch 61 = .ok (.iastore, 1) := by decide +kernel
theorem dX7_dropWatch_62 : decode cX7_dropWatch 62 = .ok (.iinc 2 1, 3) := by decide +kernel
theorem dX7_dropWatch_65 : decode cX7_dropWatch 65 = .ok (.goto (-53), 3) := by decide +kernel
theorem dX7_dropWatch_68 : decode cX7_dropWatch 68 = .ok (.return_, 1) := by decide +kernel
theorem dX7_link_0 : decode cX7_link 0 = .ok (.aload_n 0, 1) := by decide +kernel
theorem dX7_link_1 : decode cX7_link 1 = .ok (.getfield 84, 3) := by decide +kernel
theorem dX7_link_4 : decode cX7_link 4 = .ok (.bipush 60, 2) := by decide +kernel
theorem dX7_link_6 : decode cX7_link 6 = .ok (.iload_n 1, 1) := by decide +kernel
theorem dX7_link_7 : decode cX7_link 7 = .ok (.imul, 1) := by decide +kernel
theorem dX7_link_8 : decode cX7_link 8 = .ok (.iload_n 2, 1) := by decide +kernel
theorem dX7_link_9 : decode cX7_link 9 = .ok (.iadd, 1) := by decide +kernel
theorem dX7_link_10 : decode cX7_link 10 = .ok (.iload_n 3, 1) := by decide +kernel
theorem dX7_link_11 : decode cX7_link 11 = .ok (.bastore, 1) := by decide +kernel
theorem dX7_link_12 : decode cX7_link 12 = .ok (.aload_n 0, 1) := by decide +kernel
theorem dX7_link_13 : decode cX7_link 13 = .ok (.getfield 84, 3) := by decide +kernel
theorem dX7_link_16 : decode cX7_link 16 = .ok (.bipush 60, 2) := by decide +kernel
theorem dX7_link_18 : decode cX7_link 18 = .ok (.iload_n 2, 1) := by decide +kernel
theorem dX7_link_19 : decode cX7_link 19 = .ok (.imul, 1) := by decide +kernel
theorem dX7_link_20 : decode cX7_link 20 = .ok (.iload_n 1, 1) := by decide +kernel
theorem dX7_link_21 : decode cX7_link 21 = .ok (.iadd, 1) := by decide +kernel
theorem dX7_link_22 : decode cX7_link 22 = .ok (.iload_n 3, 1) := by decide +kernel
theorem dX7_link_23 : decode cX7_link 23 = .ok (.bastore, 1) := by decide +kernel
theorem dX7_link_24 : decode cX7_link 24 = .ok (.return_, 1) := by decide +kernel
theorem dX7_tells_0 : decode cX7_tells 0 = .ok (.aload_n 0, 1) := by decide +kernel
theorem dX7_tells_1 : decode cX7_tells 1 = .ok (.sipush 2942, 3) := by decide +kernel
theorem dX7_tells_4 : decode cX7_tells 4 = .ok (.iconst 1, 1) := by decide +kernel
theorem dX7_tells_5 : decode cX7_tells 5 = .ok (.iconst 5, 1) := by decide +kernel
theorem dX7_tells_6 : decode cX7_tells 6 = .ok (.invokevirtual 124, 3) := by decide +kernel
theorem dX7_tells_9 : decode cX7_tells 9 = .ok (.aload_n 0, 1) := by decide +kernel
theorem dX7_tells_10 : decode cX7_tells 10 = .ok (.iload_n 3, 1) := by decide +kernel
theorem dX7_tells_11 : decode cX7_tells 11 = .ok (.invokevirtual 172, 3) := by decide +kernel
theorem dX7_tells_14 : decode cX7_tells 14 = .ok (.aload_n 0, 1) := by decide +kernel
theorem dX7_tells_15 : decode cX7_tells 15 = .ok (.iload 4, 2) := by decide +kernel
theorem dX7_tells_17 : decode cX7_tells 17 = .ok (.invokevirtual 172, 3) := by decide +kernel
theorem dX7_tells_20 : decode cX7_tells 20 = .ok (.iadd, 1) := by decide +kernel
theorem dX7_tells_21 : decode cX7_tells 21 = .ok (.iconst 1, 1) := by decide +kernel
theorem dX7_tells_22 : decode cX7_tells 22 = .ok (.iadd, 1) := by decide +kernel
theorem dX7_tells_23 : decode cX7_tells 23 = .ok (.bipush 32, 2) := by decide +kernel
theorem dX7_tells_25 : decode cX7_tells 25 = .ok (.if_icmp .le 9, 3) := by decide +kernel
theorem dX7_tells_28 : decode cX7_tells 28 = .ok (.sipush 2942, 3) := by decide +kernel
theorem dX7_tells_31 : decode cX7_tells 31 = .ok (.goto 5, 3) := by decide +kernel
theorem dX7_tells_34 : decode cX7_tells 34 = .ok (.iload 4, 2) := by decide +kernel
theorem dX7_tells_36 : decode cX7_tells 36 = .ok (.istore 5, 2) := by decide +kernel
theorem dX7_tells_38 : decode cX7_tells 38 = .ok (.aload_n 0, 1) := by decide +kernel
theorem dX7_tells_39 : decode cX7_tells 39 = .ok (.sipush 2941, 3) := by decide +kernel
theorem dX7_tells_42 : decode cX7_tells 42 = .ok (.iload_n 3, 1) := by decide +kernel
theorem dX7_tells_43 : decode cX7_tells 43 = .ok (.iload 5, 2) := by decide +kernel
theorem dX7_tells_45 : decode cX7_tells 45 = .ok (.invokevirtual 175, 3) := by decide +kernel
theorem dX7_tells_48 : decode cX7_tells 48 = .ok (.aload_n 0, 1) := by decide +kernel
theorem dX7_tells_49 : decode cX7_tells 49 = .ok (.sipush 2942, 3) := by decide +kernel
theorem dX7_tells_52 : decode cX7_tells 52 = .ok (.iconst 1, 1) := by decide +kernel
theorem dX7_tells_53 : decode cX7_tells 53 = .ok (.iload_n 2, 1) := by decide +kernel
theorem dX7_tells_54 : decode cX7_tells 54 = .ok (.invokevirtual 124, 3) := by decide +kernel
theorem dX7_tells_57 : decode cX7_tells 57 = .ok (.aload_n 0, 1) := by decide +kernel
theorem dX7_tells_58 : decode cX7_tells 58 = .ok (.sipush 2940, 3) := by decide +kernel
theorem dX7_tells_61 : decode cX7_tells 61 = .ok (.sipush 2942, 3) := by decide +kernel
theorem dX7_tells_64 : decode cX7_tells 64 = .ok (.sipush 2941, 3) := by decide +kernel
theorem dX7_tells_67 : decode cX7_tells 67 = .ok (.invokevirtual 175, 3) := by decide +kernel
theorem dX7_tells_70 : decode cX7_tells 70 = .ok (.aload_n 0, 1) := by decide +kernel
theorem dX7_tells_71 : decode cX7_tells 71 = .ok (.iload_n 1, 1) := by decide +kernel
theorem dX7_tells_72 : decode cX7_tells 72 = .ok (.sipush 2940, 3) := by decide +kernel
theorem dX7_tells_75 : decode cX7_tells 75 = .ok (.invokevirtual 147, 3) := by decide +kernel
theorem dX7_tells_78 : decode cX7_tells 78 = .ok (.pop, 1) := by decide +kernel
theorem dX7_tells_79 : decode cX7_tells 79 = .ok (.return_, 1) := by decide +kernel
theorem dX7_tellsDown_0 : decode cX7_tellsDown 0 = .ok (.aload_n 0, 1) := by decide +kernel
theorem dX7_tellsDown_1 : decode cX7_tellsDown 1 = .ok (.sipush 2942, 3) := by decide +kernel
theorem dX7_tellsDown_4 : decode cX7_tellsDown 4 = .ok (.iconst 1, 1) := by decide +kernel
theorem dX7_tellsDown_5 : decode cX7_tellsDown 5 = .ok (.iconst 5, 1) := by decide +kernel
theorem dX7_tellsDown_6 : decode cX7_tellsDown 6 = .ok (.invokevirtual 124, 3) := by decide +kernel
theorem dX7_tellsDown_9 : decode cX7_tellsDown 9 = .ok (.aload_n 0, 1) := by decide +kernel
theorem dX7_tellsDown_10 : decode cX7_tellsDown 10 = .ok (.iload 4, 2) := by decide +kernel
theorem dX7_tellsDown_12 : decode cX7_tellsDown 12 = .ok (.invokevirtual 172, 3) := by decide +kernel
theorem dX7_tellsDown_15 : decode cX7_tellsDown 15 = .ok (.iconst 3, 1) := by decide +kernel
theorem dX7_tellsDown_16 : decode cX7_tellsDown 16 = .ok (.iadd, 1) := by decide +kernel
theorem dX7_tellsDown_17 : decode cX7_tellsDown 17 = .ok (.bipush 32, 2) := by decide +kernel
theorem dX7_tellsDown_19 : decode cX7_tellsDown 19 = .ok (.if_icmp .le 9, 3) := by decide +kernel
theorem dX7_tellsDown_22 : decode cX7_tellsDown 22 = .ok (.sipush 2942, 3) := by decide +kernel
theorem dX7_tellsDown_25 : decode cX7_tellsDown 25 = .ok (.goto 5, 3) := by decide +kernel
theorem dX7_tellsDown_28 : decode cX7_tellsDown 28 = .ok (.iload 4, 2) := by decide +kernel
theorem dX7_tellsDown_30 : decode cX7_tellsDown 30 = .ok (.istore 5, 2) := by decide +kernel
theorem dX7_tellsDown_32 : decode cX7_tellsDown 32 = .ok (.aload_n 0, 1) := by decide +kernel
theorem dX7_tellsDown_33 : decode cX7_tellsDown 33 = .ok (.sipush 2940, 3) := by decide +kernel
theorem dX7_tellsDown_36 : decode cX7_tellsDown 36 = .ok (.iconst 2, 1) := by decide +kernel
theorem dX7_tellsDown_37 : decode cX7_tellsDown 37 = .ok (.iload_n 3, 1) := by decide +kernel
theorem dX7_tellsDown_38 : decode cX7_tellsDown 38 = .ok (.iconst 1, 1) := by decide +kernel
theorem dX7_tellsDown_39 : decode cX7_tellsDown 39 = .ok (.iadd, 1) := by decide +kernel
theorem dX7_tellsDown_40 : decode cX7_tellsDown 40 = .ok (.invokevirtual 124, 3) := by decide +kernel
theorem dX7_tellsDown_43 : decode cX7_tellsDown 43 = .ok (.aload_n 0, 1) := by decide +kernel
theorem dX7_tellsDown_44 : decode cX7_tellsDown 44 = .ok (.sipush 2941, 3) := by decide +kernel
theorem dX7_tellsDown_47 : decode cX7_tellsDown 47 = .ok (.sipush 2940, 3) := by decide +kernel
theorem dX7_tellsDown_50 : decode cX7_tellsDown 50 = .ok (.iload 5, 2) := by decide +kernel
theorem dX7_tellsDown_52 : decode cX7_tellsDown 52 = .ok (.invokevirtual 175, 3) := by decide +kernel
theorem dX7_tellsDown_55 : decode cX7_tellsDown 55 = .ok (.aload_n 0, 1) := by decide +kernel
theorem dX7_tellsDown_56 : decode cX7_tellsDown 56 = .ok (.sipush 2942, 3) := by decide +kernel
theorem dX7_tellsDown_59 : decode cX7_tellsDown 59 = .ok (.iconst 0, 1) := by decide +kernel
theorem dX7_tellsDown_60 : decode cX7_tellsDown 60 = .ok (.iload_n 2, 1) := by decide +kernel
theorem dX7_tellsDown_61 : decode cX7_tellsDown 61 = .ok (.invokevirtual 124, 3) := by decide +kernel
theorem dX7_tellsDown_64 : decode cX7_tellsDown 64 = .ok (.aload_n 0, 1) := by decide +kernel
theorem dX7_tellsDown_65 : decode cX7_tellsDown 65 = .ok (.sipush 2940, 3) := by decide +kernel
theorem dX7_tellsDown_68 : decode cX7_tellsDown 68 = .ok (.sipush 2942, 3) := by decide +kernel
theorem dX7_tellsDown_71 : decode cX7_tellsDown 71 = .ok (.sipush 2941, 3) := by decide +kernel
theorem dX7_tellsDown_74 : decode cX7_tellsDown 74 = .ok (.invokevirtual 175, 3) := by decide +kernel
theorem dX7_tellsDown_77 : decode cX7_tellsDown 77 = .ok (.aload_n 0, 1) := by decide +kernel
theorem dX7_tellsDown_78 : decode cX7_tellsDown 78 = .ok (.sipush 2942, 3) := by decide +kernel
theorem dX7_tellsDown_81 : decode cX7_tellsDown 81 = .ok (.iconst 1, 1) := by decide +kernel
theorem dX7_tellsDown_82 : decode cX7_tellsDown 82 = .ok (.bipush 7, 2) := by decide +kernel
theorem dX7_tellsDown_84 : decode cX7_tellsDown 84 = .ok (.invokevirtual 124, 3) := by decide +kernel
theorem dX7_tellsDown_87 : decode cX7_tellsDown 87 = .ok (.aload_n 0, 1) := by decide +kernel
theorem dX7_tellsDown_88 : decode cX7_tellsDown 88 = .ok (.sipush 2941, 3) := by decide +kernel
theorem dX7_tellsDown_91 : decode cX7_tellsDown 91 = .ok (.sipush 2942, 3) := by decide +kernel
theorem dX7_tellsDown_94 : decode cX7_tellsDown 94 = .ok (.sipush 2940, 3) := by decide +kernel
theorem dX7_tellsDown_97 : decode cX7_tellsDown 97 = .ok (.invokevirtual 175, 3) := by decide +kernel
theorem dX7_tellsDown_100 : decode cX7_tellsDown 100 = .ok (.aload_n 0, 1) := by decide +kernel
theorem dX7_tellsDown_101 : decode cX7_tellsDown 101 = .ok (.iload_n 1, 1) := by decide +kernel
theorem dX7_tellsDown_102 : decode cX7_tellsDown 102 = .ok (.sipush 2941, 3) := by decide +kernel
theorem dX7_tellsDown_105 : decode cX7_tellsDown 105 = .ok (.invokevirtual 147, 3) := by decide +kernel
theorem dX7_tellsDown_108 : decode cX7_tellsDown 108 = .ok (.pop, 1) := by decide +kernel
theorem dX7_tellsDown_109 : decode cX7_tellsDown 109 = .ok (.return_, 1) := by decide +kernel
theorem dX7_isAtom_0 : decode cX7_isAtom 0 = .ok (.aload_n 0, 1) := by decide +kernel
theorem dX7_isAtom_1 : decode cX7_isAtom 1 = .ok (.iload_n 1, 1) := by decide +kernel
theorem dX7_isAtom_2 : decode cX7_isAtom 2 = .ok (.iconst 1, 1) := by decide +kernel
theorem dX7_isAtom_3 : decode cX7_isAtom 3 = .ok (.invokevirtual 178, 3) := by decide +kernel
theorem dX7_isAtom_6 : decode cX7_isAtom 6 = .ok (.ifCond .eq 16, 3) := by decide +kernel
theorem dX7_isAtom_9 : decode cX7_isAtom 9 = .ok (.aload_n 0, 1) := by decide +kernel
theorem dX7_isAtom_10 : decode cX7_isAtom 10 = .ok (.iload_n 1, 1) := by decide +kernel
theorem dX7_isAtom_11 : decode cX7_isAtom 11 = .ok (.invokevirtual 181, 3) := by decide +kernel
theorem dX7_isAtom_14 : decode cX7_isAtom 14 = .ok (.iload_n 2, 1) := by decide +kernel
theorem dX7_isAtom_15 : decode cX7_isAtom 15 = .ok (.if_icmp .ne 7, 3) := by decide +kernel
theorem dX7_isAtom_18 : decode cX7_isAtom 18 = .ok (.iconst 1, 1) := by decide +kernel
theorem dX7_isAtom_19 : decode cX7_isAtom 19 = .ok (.goto 4, 3) := by decide +kernel
theorem dX7_isAtom_22 : decode cX7_isAtom 22 = .ok (.iconst 0, 1) := by decide +kernel
theorem dX7_isAtom_23 : decode cX7_isAtom 23 = .ok (.ireturn, 1) := by decide +kernel
theorem dX7_exit_0 : decode cX7_exit 0 = .ok (.aload_n 0, 1) := by decide +kernel
theorem dX7_exit_1 : decode cX7_exit 1 = .ok (.getfield 29, 3) := by decide +kernel
theorem dX7_exit_4 : decode cX7_exit 4 = .ok (.iload_n 1, 1) := by decide +kernel
theorem dX7_exit_5 : decode cX7_exit 5 = .ok (.iaload, 1) := by decide +kernel
theorem dX7_exit_6 : decode cX7_exit 6 = .ok (.iconst 2, 1) := by decide +kernel
theorem dX7_exit_7 : decode cX7_exit 7 = .ok (.if_icmp .ne 4, 3) := by decide +kernel
theorem dX7_exit_10 : decode cX7_exit 10 = .ok (.return_, 1) := by decide +kernel
theorem dX7_exit_11 : decode cX7_exit 11 = .ok (.iload 4, 2) := by decide +kernel
theorem dX7_exit_13 : decode cX7_exit 13 = .ok (.ifCond .eq 30, 3) := by decide +kernel
theorem dX7_exit_16 : decode cX7_exit 16 = .ok (.aload_n 0, 1) := by decide +kernel
theorem dX7_exit_17 : decode cX7_exit 17 = .ok (.iload_n 3, 1) := by decide +kernel
theorem dX7_exit_18 : decode cX7_exit 18 = .ok (.iconst 1, 1) := by decide +kernel
theorem dX7_exit_19 : decode cX7_exit 19 = .ok (.invokevirtual 184, 3) := by decide +kernel
theorem dX7_exit_22 : decode cX7_exit 22 = .ok (.ifCond .eq 21, 3) := by decide +kernel
theorem dX7_exit_25 : decode cX7_exit 25 = .ok (.aload_n 0, 1) := by decide +kernel
theorem dX7_exit_26 : decode cX7_exit 26 = .ok (.sipush 2940, 3) := by decide +kernel
theorem dX7_exit_29 : decode cX7_exit 29 = .ok (.iconst 1, 1) := by decide +kernel
theorem dX7_exit_30 : decode cX7_exit 30 = .ok (.iconst 2, 1) := by decide +kernel
theorem dX7_exit_31 : decode cX7_exit 31 = .ok (.invokevirtual 124, 3) := by decide +kernel
theorem dX7_exit_34 : decode cX7_exit 34 = .ok (.aload_n 0, 1) := by decide +kernel
theorem dX7_exit_35 : decode cX7_exit 35 = .ok (.iload_n 1, 1) := by decide +kernel
theorem dX7_exit_36 : decode cX7_exit 36 = .ok (.sipush 2940, 3) := by decide +kernel
theorem dX7_exit_39 : decode cX7_exit 39 = .ok (.invokevirtual 187, 3) := by decide +kernel
theorem dX7_exit_42 : decode cX7_exit 42 = .ok (.return_, 1) := by decide +kernel
theorem dX7_exit_43 : decode cX7_exit 43 = .ok (.aload_n 0, 1) := by decide +kernel
theorem dX7_exit_44 : decode cX7_exit 44 = .ok (.getfield 41, 3) := by decide +kernel
theorem dX7_exit_47 : decode cX7_exit 47 = .ok (.iload_n 1, 1) := by decide +kernel
theorem dX7_exit_48 : decode cX7_exit 48 = .ok (.baload, 1) := by decide +kernel
theorem dX7_exit_49 : decode cX7_exit 49 = .ok (.ifCond .eq 26, 3) := by decide +kernel
theorem dX7_exit_52 : decode cX7_exit 52 = .ok (.aload_n 0, 1) := by decide +kernel
theorem dX7_exit_53 : decode cX7_exit 53 = .ok (.sipush 2943, 3) := by decide +kernel
theorem dX7_exit_56 : decode cX7_exit 56 = .ok (.iconst 2, 1) := by decide +kernel
theorem dX7_exit_57 : decode cX7_exit 57 = .ok (.iload_n 2, 1) := by decide +kernel
theorem dX7_exit_58 : decode cX7_exit 58 = .ok (.iconst 1, 1) := by decide +kernel
theorem dX7_exit_59 : decode cX7_exit 59 = .ok (.iadd, 1) := by decide +kernel
theorem dX7_exit_60 : decode cX7_exit 60 = .ok (.invokevirtual 124, 3) := by decide +kernel
theorem dX7_exit_63 : decode cX7_exit 63 = .ok (.aload_n 0, 1) := by decide +kernel
theorem dX7_exit_64 : decode cX7_exit 64 = .ok (.iload_n 1, 1) := by decide +kernel
theorem dX7_exit_65 : decode cX7_exit 65 = .ok (.bipush 6, 2) := by decide +kernel
theorem dX7_exit_67 : decode cX7_exit 67 = .ok (.sipush 2943, 3) := by decide +kernel
theorem dX7_exit_70 : decode cX7_exit 70 = .ok (.iload_n 3, 1) := by decide +kernel
theorem dX7_exit_71 : decode cX7_exit 71 = .ok (.invokevirtual 190, 3) := by decide +kernel
theorem dX7_exit_74 : decode cX7_exit 74 = .ok (.return_, 1) := by decide +kernel
theorem dX7_exit_75 : decode cX7_exit 75 = .ok (.aload_n 0, 1) := by decide +kernel
theorem dX7_exit_76 : decode cX7_exit 76 = .ok (.iload_n 3, 1) := by decide +kernel
theorem dX7_exit_77 : decode cX7_exit 77 = .ok (.iconst 0, 1) := by decide +kernel
theorem dX7_exit_78 : decode cX7_exit 78 = .ok (.invokevirtual 184, 3) := by decide +kernel
theorem dX7_exit_81 : decode cX7_exit 81 = .ok (.ifCond .eq 9, 3) := by decide +kernel
theorem dX7_exit_84 : decode cX7_exit 84 = .ok (.iload_n 2, 1) := by decide +kernel
theorem dX7_exit_85 : decode cX7_exit 85 = .ok (.iload_n 1, 1) := by decide +kernel
theorem dX7_exit_86 : decode cX7_exit 86 = .ok (.if_icmp .eq 4, 3) := by decide +kernel
theorem dX7_exit_89 : decode cX7_exit 89 = .ok (.return_, 1) := by decide +kernel
theorem dX7_exit_90 : decode cX7_exit 90 = .ok (.aload_n 0, 1) := by decide +kernel
theorem dX7_exit_91 : decode cX7_exit 91 = .ok (.iload_n 1, 1) := by decide +kernel
theorem dX7_exit_92 : decode cX7_exit 92 = .ok (.iload_n 3, 1) := by decide +kernel
theorem dX7_exit_93 : decode cX7_exit 93 = .ok (.invokevirtual 187, 3) := by decide +kernel
theorem dX7_exit_96 : decode cX7_exit 96 = .ok (.return_, 1) := by decide +kernel
theorem dX7_bad_0 : decode cX7_bad 0 = .ok (.iload_n 2, 1) := by decide +kernel
theorem dX7_bad_1 : decode cX7_bad 1 = .ok (.ifCond .eq 10, 3) := by decide +kernel
theorem dX7_bad_4 : decode cX7_bad 4 = .ok (.aload_n 0, 1) := by decide +kernel
theorem dX7_bad_5 : decode cX7_bad 5 = .ok (.iload_n 1, 1) := by decide +kernel
theorem dX7_bad_6 : decode cX7_bad 6 = .ok (.iconst 1, 1) := by decide +kernel
theorem dX7_bad_7 : decode cX7_bad 7 = .ok (.iconst 4, 1) := by decide +kernel
theorem dX7_bad_8 : decode cX7_bad 8 = .ok (.invokevirtual 193, 3) := by decide +kernel
theorem dX7_bad_11 : decode cX7_bad 11 = .ok (.iload_n 2, 1) := by decide +kernel
theorem dX7_bad_12 : decode cX7_bad 12 = .ok (.ireturn, 1) := by decide +kernel
theorem dX7_failsWith_0 : decode cX7_failsWith 0 = .ok (.aload_n 0, 1) := by decide +kernel
theorem dX7_failsWith_1 : decode cX7_failsWith 1 = .ok (.sipush 2940, 3) := by decide +kernel
theorem dX7_failsWith_4 : decode cX7_failsWith 4 = .ok (.iload_n 2, 1) := by decide +kernel
theorem dX7_failsWith_5 : decode cX7_failsWith 5 = .ok (.iload_n 3, 1) := by decide +kernel
theorem dX7_failsWith_6 : decode cX7_failsWith 6 = .ok (.invokevirtual 124, 3) := by decide +kernel
theorem dX7_failsWith_9 : decode cX7_failsWith 9 = .ok (.aload_n 0, 1) := by decide +kernel
theorem dX7_failsWith_10 : decode cX7_failsWith 10 = .ok (.iload_n 1, 1) := by decide +kernel
theorem dX7_failsWith_11 : decode cX7_failsWith 11 = .ok (.sipush 2940, 3) := by decide +kernel
theorem dX7_failsWith_14 : decode cX7_failsWith 14 = .ok (.invokevirtual 196, 3) := by decide +kernel
theorem dX7_failsWith_17 : decode cX7_failsWith 17 = .ok (.return_, 1) := by decide +kernel
theorem dX7_failsOf_0 : decode cX7_failsOf 0 = .ok (.aload_n 0, 1) := by decide +kernel
theorem dX7_failsOf_1 : decode cX7_failsOf 1 = .ok (.getfield 63, 3) := by decide +kernel
theorem dX7_failsOf_4 : decode cX7_failsOf 4 = .ok (.iload_n 1, 1) := by decide +kernel
theorem dX7_failsOf_5 : decode cX7_failsOf 5 = .ok (.iaload, 1) := by decide +kernel
theorem dX7_failsOf_6 : decode cX7_failsOf 6 = .ok (.ifCond .ne 10, 3) := by decide +kernel
theorem dX7_failsOf_9 : decode cX7_failsOf 9 = .ok (.aload_n 0, 1) := by decide +kernel
theorem dX7_failsOf_10 : decode cX7_failsOf 10 = .ok (.iload_n 1, 1) := by decide +kernel
theorem dX7_failsOf_11 : decode cX7_failsOf 11 = .ok (.iload_n 2, 1) := by decide +kernel
theorem dX7_failsOf_12 : decode cX7_failsOf 12 = .ok (.invokevirtual 187, 3) := by decide +kernel
theorem dX7_failsOf_15 : decode cX7_failsOf 15 = .ok (.return_, 1) := by decide +kernel
theorem dX7_failsOf_16 : decode cX7_failsOf 16 = .ok (.aload_n 0, 1) := by decide +kernel
theorem dX7_failsOf_17 : decode cX7_failsOf 17 = .ok (.getfield 63, 3) := by decide +kernel
theorem dX7_failsOf_20 : decode cX7_failsOf 20 = .ok (.iload_n 1, 1) := by decide +kernel
theorem dX7_failsOf_21 : decode cX7_failsOf 21 = .ok (.dup2, 1) := by decide +kernel
theorem dX7_failsOf_22 : decode cX7_failsOf 22 = .ok (.iaload, 1) := by decide +kernel
theorem dX7_failsOf_23 : decode cX7_failsOf 23 = .ok (.iconst 1, 1) := by decide +kernel
theorem dX7_failsOf_24 : decode cX7_failsOf 24 = .ok (.isub, 1) := by decide +kernel
theorem dX7_failsOf_25 : decode cX7_failsOf 25 = .ok (.iastore, 1) := by decide +kernel
theorem dX7_failsOf_26 : decode cX7_failsOf 26 = .ok (.bipush 8, 2) := by decide +kernel
theorem dX7_failsOf_28 : decode cX7_failsOf 28 = .ok (.iload_n 1, 1) := by decide +kernel
theorem dX7_failsOf_29 : decode cX7_failsOf 29 = .ok (.imul, 1) := by decide +kernel
theorem dX7_failsOf_30 : decode cX7_failsOf 30 = .ok (.aload_n 0, 1) := by decide +kernel
theorem dX7_failsOf_31 : decode cX7_failsOf 31 = .ok (.getfield 63, 3) := by decide +kernel
theorem dX7_failsOf_34 : decode cX7_failsOf 34 = .ok (.iload_n 1, 1) := by decide +kernel
theorem dX7_failsOf_35 : decode cX7_failsOf 35 = .ok (.iaload, 1) := by decide +kernel
theorem dX7_failsOf_36 : decode cX7_failsOf 36 = .ok (.iadd, 1) := by decide +kernel
theorem dX7_failsOf_37 : decode cX7_failsOf 37 = .ok (.istore_n 3, 1) := by decide +kernel
theorem dX7_failsOf_38 : decode cX7_failsOf 38 = .ok (.aload_n 0, 1) := by decide +kernel
theorem dX7_failsOf_39 : decode cX7_failsOf 39 = .ok (.getfield 32, 3) := by decide +kernel
theorem dX7_failsOf_42 : decode cX7_failsOf 42 = .ok (.iload_n 1, 1) := by decide +kernel
theorem dX7_failsOf_43 : decode cX7_failsOf 43 = .ok (.aload_n 0, 1) := by decide +kernel
theorem dX7_failsOf_44 : decode cX7_failsOf 44 = .ok (.getfield 57, 3) := by decide +kernel
theorem dX7_failsOf_47 : decode cX7_failsOf 47 = .ok (.iload_n 3, 1) := by decide +kernel
theorem dX7_failsOf_48 : decode cX7_failsOf 48 = .ok (.iaload, 1) := by decide +kernel
theorem dX7_failsOf_49 : decode cX7_failsOf 49 = .ok (.iastore, 1) := by decide +kernel
theorem dX7_failsOf_50 : decode cX7_failsOf 50 = .ok (.aload_n 0, 1) := by decide +kernel
theorem dX7_failsOf_51 : decode cX7_failsOf 51 = .ok (.getfield 54, 3) := by decide +kernel
theorem dX7_failsOf_54 : decode cX7_failsOf 54 = .ok (.iload_n 1, 1) := by decide +kernel
theorem dX7_failsOf_55 : decode cX7_failsOf 55 = .ok (.iaload, 1) := by decide +kernel
theorem dX7_failsOf_56 : decode cX7_failsOf 56 = .ok (.aload_n 0, 1) := by decide +kernel
theorem dX7_failsOf_57 : decode cX7_failsOf 57 = .ok (.getfield 60, 3) := by decide +kernel
theorem dX7_failsOf_60 : decode cX7_failsOf 60 = .ok (.iload_n 3, 1) := by decide +kernel
theorem dX7_failsOf_61 : decode cX7_failsOf 61 = .ok (.iaload, 1) := by decide +kernel
theorem dX7_failsOf_62 : decode cX7_failsOf 62 = .ok (.if_icmp .le 15, 3) := by decide +kernel
theorem dX7_failsOf_65 : decode cX7_failsOf 65 = .ok (.aload_n 0, 1) := by decide +kernel
theorem dX7_failsOf_66 : decode cX7_failsOf 66 = .ok (.getfield 54, 3) := by decide +kernel
theorem dX7_failsOf_69 : decode cX7_failsOf 69 = .ok (.iload_n 1, 1) := by decide +kernel
theorem dX7_failsOf_70 : decode cX7_failsOf 70 = .ok (.aload_n 0, 1) := by decide +kernel
theorem dX7_failsOf_71 : decode cX7_failsOf 71 = .ok (.getfield 60, 3) := by decide +kernel
theorem dX7_failsOf_74 : decode cX7_failsOf 74 = .ok (.iload_n 3, 1) := by decide +kernel
theorem dX7_failsOf_75 : decode cX7_failsOf 75 = .ok (.iaload, 1) := by decide +kernel
theorem dX7_failsOf_76 : decode cX7_failsOf 76 = .ok (.iastore, 1) := by decide +kernel
theorem dX7_failsOf_77 : decode cX7_failsOf 77 = .ok (.aload_n 0, 1) := by decide +kernel
theorem dX7_failsOf_78 : decode cX7_failsOf 78 = .ok (.bipush 8, 2) := by decide +kernel
theorem dX7_failsOf_80 : decode cX7_failsOf 80 = .ok (.iload_n 1, 1) := by decide +kernel
theorem dX7_failsOf_81 : decode cX7_failsOf 81 = .ok (.imul, 1) := by decide +kernel
theorem dX7_failsOf_82 : decode cX7_failsOf 82 = .ok (.iload_n 2, 1) := by decide +kernel
theorem dX7_failsOf_83 : decode cX7_failsOf 83 = .ok (.invokevirtual 136, 3) := by decide +kernel
theorem dX7_failsOf_86 : decode cX7_failsOf 86 = .ok (.return_, 1) := by decide +kernel
theorem dX7_registerOf_0 : decode cX7_registerOf 0 = .ok (.bipush 8, 2) := by decide +kernel
theorem dX7_registerOf_2 : decode cX7_registerOf 2 = .ok (.iload_n 0, 1) := by decide +kernel
theorem dX7_registerOf_3 : decode cX7_registerOf 3 = .ok (.imul, 1) := by decide +kernel
theorem dX7_registerOf_4 : decode cX7_registerOf 4 = .ok (.iload_n 1, 1) := by decide +kernel
theorem dX7_registerOf_5 : decode cX7_registerOf 5 = .ok (.bipush 8, 2) := by decide +kernel
theorem dX7_registerOf_7 : decode cX7_registerOf 7 = .ok (.invokestatic 199, 3) := by decide +kernel
theorem dX7_registerOf_10 : decode cX7_registerOf 10 = .ok (.iadd, 1) := by decide +kernel
theorem dX7_registerOf_11 : decode cX7_registerOf 11 = .ok (.ireturn, 1) := by decide +kernel
theorem dX7_waits_0 : decode cX7_waits 0 = .ok (.aload_n 0, 1) := by decide +kernel
theorem dX7_waits_1 : decode cX7_waits 1 = .ok (.getfield 29, 3) := by decide +kernel
theorem dX7_waits_4 : decode cX7_waits 4 = .ok (.iload_n 1, 1) := by decide +kernel
theorem dX7_waits_5 : decode cX7_waits 5 = .ok (.iconst 1, 1) := by decide +kernel
theorem dX7_waits_6 : decode cX7_waits 6 = .ok (.iastore, 1) := by decide +kernel
theorem dX7_waits_7 : decode cX7_waits 7 = .ok (.aload_n 0, 1) := by decide +kernel
theorem dX7_waits_8 : decode cX7_waits 8 = .ok (.getfield 69, 3) := by decide +kernel
theorem dX7_waits_11 : decode cX7_waits 11 = .ok (.iload_n 1, 1) := by decide +kernel
theorem dX7_waits_12 : decode cX7_waits 12 = .ok (.iload_n 2, 1) := by decide +kernel
theorem dX7_waits_13 : decode cX7_waits 13 = .ok (.iastore, 1) := by decide +kernel
theorem dX7_waits_14 : decode cX7_waits 14 = .ok (.return_, 1) := by decide +kernel
theorem dX7_endsBy_0 : decode cX7_endsBy 0 = .ok (.aload_n 0, 1) := by decide +kernel
theorem dX7_endsBy_1 : decode cX7_endsBy 1 = .ok (.sipush 2940, 3) := by decide +kernel
theorem dX7_endsBy_4 : decode cX7_endsBy 4 = .ok (.iconst 1, 1) := by decide +kernel
theorem dX7_endsBy_5 : decode cX7_endsBy 5 = .ok (.iload_n 2, 1) := by decide +kernel
theorem dX7_endsBy_6 : decode cX7_endsBy 6 = .ok (.invokevirtual 124, 3) := by decide +kernel
theorem dX7_endsBy_9 : decode cX7_endsBy 9 = .ok (.aload_n 0, 1) := by decide +kernel
theorem dX7_endsBy_10 : decode cX7_endsBy 10 = .ok (.iload_n 1, 1) := by decide +kernel
theorem dX7_endsBy_11 : decode cX7_endsBy 11 = .ok (.sipush 2940, 3) := by decide +kernel
theorem dX7_endsBy_14 : decode cX7_endsBy 14 = .ok (.invokevirtual 187, 3) := by decide +kernel
theorem dX7_endsBy_17 : decode cX7_endsBy 17 = .ok (.return_, 1) := by decide +kernel
theorem dX7_withName_0 : decode cX7_withName 0 = .ok (.iconst 0, 1) := by decide +kernel
theorem dX7_withName_1 : decode cX7_withName 1 = .ok (.istore_n 2, 1) := by decide +kernel
theorem dX7_withName_2 : decode cX7_withName 2 = .ok (.iload_n 2, 1) := by decide +kernel
theorem dX7_withName_3 : decode cX7_withName 3 = .ok (.aload_n 0, 1) := by decide +kernel
theorem dX7_withName_4 : decode cX7_withName 4 = .ok (.getfield 121, 3) := by decide +kernel
theorem dX7_withName_7 : decode cX7_withName 7 = .ok (.if_icmp .ge 31, 3) := by decide +kernel
theorem dX7_withName_10 : decode cX7_withName 10 = .ok (.aload_n 0, 1) := by decide +kernel
theorem dX7_withName_11 : decode cX7_withName 11 = .ok (.getfield 29, 3) := by decide +kernel
theorem dX7_withName_14 : decode cX7_withName 14 = .ok (.iload_n 2, 1) := by decide +kernel
theorem dX7_withName_15 : decode cX7_withName 15 = .ok (.iaload, 1) := by decide +kernel
theorem dX7_withName_16 : decode cX7_withName 16 = .ok (.iconst 2, 1) := by decide +kernel
theorem dX7_withName_17 : decode cX7_withName 17 = .ok (.if_icmp .eq 15, 3) := by decide +kernel
theorem dX7_withName_20 : decode cX7_withName 20 = .ok (.aload_n 0, 1) := by decide +kernel
theorem dX7_withName_21 : decode cX7_withName 21 = .ok (.getfield 38, 3) := by decide +kernel
theorem dX7_withName_24 : decode cX7_withName 24 = .ok (.iload_n 2, 1) := by decide +kernel
theorem dX7_withName_25 : decode cX7_withName 25 = .ok (.iaload, 1) := by decide +kernel
theorem dX7_withName_26 : decode cX7_withName 26 = .ok (.iload_n 1, 1) := by decide +kernel
theorem dX7_withName_27 : decode cX7_withName 27 = .ok (.if_icmp .ne 5, 3) := by decide +kernel
theorem dX7_withName_30 : decode cX7_withName 30 = .ok (.iload_n 2, 1) := by decide +kernel
theorem dX7_withName_31 : decode cX7_withName 31 = .ok (.ireturn, 1) := by decide +kernel
theorem dX7_withName_32 : decode cX7_withName 32 = .ok (.iinc 2 1, 3) := by decide +kernel
theorem dX7_withName_35 : decode cX7_withName 35 = .ok (.goto (-33), 3) := by decide +kernel
theorem dX7_withName_38 : decode cX7_withName 38 = .ok (.iconst (-1), 1) := by decide +kernel
theorem dX7_withName_39 : decode cX7_withName 39 = .ok (.ireturn, 1) := by decide +kernel
theorem dX7_reckons_0 : decode cX7_reckons 0 = .ok (.aload_n 0, 1) := by decide +kernel
theorem dX7_reckons_1 : decode cX7_reckons 1 = .ok (.iload_n 1, 1) := by decide +kernel
theorem dX7_reckons_2 : decode cX7_reckons 2 = .ok (.aload_n 0, 1) := by decide +kernel
theorem dX7_reckons_3 : decode cX7_reckons 3 = .ok (.iload 4, 2) := by decide +kernel
theorem dX7_reckons_5 : decode cX7_reckons 5 = .ok (.iconst 0, 1) := by decide +kernel
theorem dX7_reckons_6 : decode cX7_reckons 6 = .ok (.invokevirtual 178, 3) := by decide +kernel
theorem dX7_reckons_9 : decode cX7_reckons 9 = .ok (.ifCond .eq 13, 3) := by decide +kernel
theorem dX7_reckons_12 : decode cX7_reckons 12 = .ok (.aload_n 0, 1) := by decide +kernel
theorem dX7_reckons_13 : decode cX7_reckons 13 = .ok (.iload 5, 2) := by decide +kernel
theorem dX7_reckons_15 : decode cX7_reckons 15 = .ok (.iconst 0, 1) := by decide +kernel
theorem dX7_reckons_16 : decode cX7_reckons 16 = .ok (.invokevirtual 178, 3) := by decide +kernel
theorem dX7_reckons_19 : decode cX7_reckons 19 = .ok (.ifCond .ne 7, 3) := by decide +kernel
theorem dX7_reckons_22 : decode cX7_reckons 22 = .ok (.iconst 1, 1) := by decide +kernel
theorem dX7_reckons_23 : decode cX7_reckons 23 = .ok (.goto 4, 3) := by decide +kernel
theorem dX7_reckons_26 : decode cX7_reckons 26 = .ok (.iconst 0, 1) := by decide +kernel
theorem dX7_reckons_27 : decode cX7_reckons 27 = .ok (.invokevirtual 202, 3) := by decide +kernel
theorem dX7_reckons_30 : decode cX7_reckons 30 = .ok (.ifCond .eq 4, 3) := by decide +kernel
theorem dX7_reckons_33 : decode cX7_reckons 33 = .ok (.return_, 1) := by decide +kernel
theorem dX7_reckons_34 : decode cX7_reckons 34 = .ok (.aload_n 0, 1) := by decide +kernel
theorem dX7_reckons_35 : decode cX7_reckons 35 = .ok (.iload 4, 2) := by decide +kernel
theorem dX7_reckons_37 : decode cX7_reckons 37 = .ok (.invokevirtual 181, 3) := by decide +kernel
theorem dX7_reckons_40 : decode cX7_reckons 40 = .ok (.istore 6, 2) := by decide +kernel
theorem dX7_reckons_42 : decode cX7_reckons 42 = .ok (.aload_n 0, 1) := by decide +kernel
theorem dX7_reckons_43 : decode cX7_reckons 43 = .ok (.iload 5, 2) := by decide +kernel
theorem dX7_reckons_45 : decode cX7_reckons 45 = .ok (.invokevirtual 181, 3) := by decide +kernel
theorem dX7_reckons_48 : decode cX7_reckons 48 = .ok (.istore 7, 2) := by decide +kernel
theorem dX7_reckons_50 : decode cX7_reckons 50 = .ok (.aload_n 0, 1) := by decide +kernel
theorem dX7_reckons_51 : decode cX7_reckons 51 = .ok (.iload_n 3, 1) := by decide +kernel
theorem dX7_reckons_52 : decode cX7_reckons 52 = .ok (.iconst 0, 1) := by decide +kernel
theorem dX7_reckons_53 : decode cX7_reckons 53 = .ok (.iload_n 2, 1) := by decide +kernel
theorem dX7_reckons_54 : decode cX7_reckons 54 = .ok (.iconst 4, 1) := by decide +kernel
theorem dX7_reckons_55 : decode cX7_reckons 55 = .ok (.if_icmp .ne 11, 3) := by decide +kernel
theorem dX7_reckons_58 : decode cX7_reckons 58 = .ok (.iload 6, 2) := by decide +kernel
theorem dX7_reckons_60 : decode cX7_reckons 60 = .ok (.iload 7, 2) := by decide +kernel
theorem dX7_reckons_62 : decode cX7_reckons 62 = .ok (.iadd, 1) := by decide +kernel
theorem dX7_reckons_63 : decode cX7_reckons 63 = .ok (.goto 21, 3) := by decide +kernel
theorem dX7_reckons_66 : decode cX7_reckons 66 = .ok (.iload_n 2, 1) := by decide +kernel
theorem dX7_reckons_67 : decode cX7_reckons 67 = .ok (.iconst 5, 1) := by decide +kernel
theorem dX7_reckons_68 : decode cX7_reckons 68 = .ok (.if_icmp .ne 11, 3) := by decide +kernel
theorem dX7_reckons_71 : decode cX7_reckons 71 = .ok (.iload 6, 2) := by decide +kernel
theorem dX7_reckons_73 : decode cX7_reckons 73 = .ok (.iload 7, 2) := by decide +kernel
theorem dX7_reckons_75 : decode cX7_reckons 75 = .ok (.isub, 1) := by decide +kernel
theorem dX7_reckons_76 : decode cX7_reckons 76 = .ok (.goto 8, 3) := by decide +kernel
theorem dX7_reckons_79 : decode cX7_reckons 79 = .ok (.iload 6, 2) := by decide +kernel
theorem dX7_reckons_81 : decode cX7_reckons 81 = .ok (.iload 7, 2) := by decide +kernel
theorem dX7_reckons_83 : decode cX7_reckons 83 = .ok (.imul, 1) := by decide +kernel
theorem dX7_reckons_84 : decode cX7_reckons 84 = .ok (.invokevirtual 124, 3) := by decide +kernel
theorem dX7_reckons_87 : decode cX7_reckons 87 = .ok (.return_, 1) := by decide +kernel
theorem dX7_step_0 : decode cX7_step 0 = .ok (.aload_n 0, 1) := by decide +kernel
theorem dX7_step_1 : decode cX7_step 1 = .ok (.getfield 32, 3) := by decide +kernel
theorem dX7_step_4 : decode cX7_step 4 = .ok (.iload_n 1, 1) := by decide +kernel
theorem dX7_step_5 : decode cX7_step 5 = .ok (.iaload, 1) := by decide +kernel
theorem dX7_step_6 : decode cX7_step 6 = .ok (.istore_n 2, 1) := by decide +kernel
theorem dX7_step_7 : decode cX7_step 7 = .ok (.aload_n 0, 1) := by decide +kernel
theorem dX7_step_8 : decode cX7_step 8 = .ok (.getfield 17, 3) := by decide +kernel
theorem dX7_step_11 : decode cX7_step 11 = .ok (.iload_n 2, 1) := by decide +kernel
theorem dX7_step_12 : decode cX7_step 12 = .ok (.iaload, 1) := by decide +kernel
theorem dX7_step_13 : decode cX7_step 13 = .ok (.istore_n 3, 1) := by decide +kernel
theorem dX7_step_14 : decode cX7_step 14 = .ok (.aload_n 0, 1) := by decide +kernel
theorem dX7_step_15 : decode cX7_step 15 = .ok (.getfield 32, 3) := by decide +kernel
theorem dX7_step_18 : decode cX7_step 18 = .ok (.iload_n 1, 1) := by decide +kernel
theorem dX7_step_19 : decode cX7_step 19 = .ok (.iload_n 2, 1) := by decide +kernel
theorem dX7_step_20 : decode cX7_step 20 = .ok (.iconst 1, 1) := by decide +kernel
theorem dX7_step_21 : decode cX7_step 21 = .ok (.iadd, 1) := by decide +kernel
theorem dX7_step_22 : decode cX7_step 22 = .ok (.sipush 300, 3) := by decide +kernel
theorem dX7_step_25 : decode cX7_step 25 = .ok (.irem, 1) := by decide +kernel
theorem dX7_step_26 : decode cX7_step 26 = .ok (.iastore, 1) := by decide +kernel
theorem dX7_step_27 : decode cX7_step 27 = .ok (.aload_n 0, 1) := by decide +kernel
theorem dX7_step_28 : decode cX7_step 28 = .ok (.getfield 66, 3) := by decide +kernel
theorem dX7_step_31 : decode cX7_step 31 = .ok (.iload_n 1, 1) := by decide +kernel
theorem dX7_step_32 : decode cX7_step 32 = .ok (.dup2, 1) := by decide +kernel
theorem dX7_step_33 : decode cX7_step 33 = .ok (.iaload, 1) := by decide +kernel
theorem dX7_step_34 : decode cX7_step 34 = .ok (.iconst 1, 1) := by decide +kernel
theorem dX7_step_35 : decode cX7_step 35 = .ok (.iadd, 1) := by decide +kernel
theorem dX7_step_36 : decode cX7_step 36 = .ok (.iastore, 1) := by decide +kernel
theorem dX7_step_37 : decode cX7_step 37 = .ok (.aload_n 0, 1) := by decide +kernel
theorem dX7_step_38 : decode cX7_step 38 = .ok (.dup, 1) := by decide +kernel
theorem dX7_step_39 : decode cX7_step 39 = .ok (.getfield 206, 3) := by decide +kernel
theorem dX7_step_42 : decode cX7_step 42 = .ok (.iconst 1, 1) := by decide +kernel
theorem dX7_step_43 : decode cX7_step 43 = .ok (.iadd, 1) := by decide +kernel
theorem dX7_step_44 : decode cX7_step 44 = .ok (.putfield 206, 3) := by decide +kernel
theorem dX7_step_47 : decode cX7_step 47 = .ok (.aload_n 0, 1) := by decide +kernel
theorem dX7_step_48 : decode cX7_step 48 = .ok (.getfield 20, 3) := by decide +kernel
theorem dX7_step_51 : decode cX7_step 51 = .ok (.iload_n 2, 1) := by decide +kernel
theorem dX7_step_52 : decode cX7_step 52 = .ok (.iaload, 1) := by decide +kernel
theorem dX7_step_53 : decode cX7_step 53 = .ok (.istore 4, 2) := by decide +kernel
theorem dX7_step_55 : decode cX7_step 55 = .ok (.iload_n 1, 1) := by decide +kernel
theorem dX7_step_56 : decode cX7_step 56 = .ok (.iload 4, 2) := by decide +kernel
theorem dX7_step_58 : decode cX7_step 58 = .ok (.invokestatic 209, 3) := by decide +kernel
theorem dX7_step_61 : decode cX7_step 61 = .ok (.istore 5, 2) := by decide +kernel
theorem dX7_step_63 : decode cX7_step 63 = .ok (.iload_n 1, 1) := by decide +kernel
theorem dX7_step_64 : decode cX7_step 64 = .ok (.aload_n 0, 1) := by decide +kernel
theorem dX7_step_65 : decode cX7_step 65 = .ok (.getfield 23, 3) := by decide +kernel
theorem dX7_step_68 : decode cX7_step 68 = .ok (.iload_n 2, 1) := by decide +kernel
theorem dX7_step_69 : decode cX7_step 69 = .ok (.iaload, 1) := by decide +kernel
theorem dX7_step_70 : decode cX7_step 70 = .ok (.invokestatic 209, 3) := by decide +kernel
theorem dX7_step_73 : decode cX7_step 73 = .ok (.istore 6, 2) := by decide +kernel
theorem dX7_step_75 : decode cX7_step 75 = .ok (.iload_n 1, 1) := by decide +kernel
theorem dX7_step_76 : decode cX7_step 76 = .ok (.aload_n 0, 1) := by decide +kernel
theorem dX7_step_77 : decode cX7_step 77 = .ok (.getfield 26, 3) := by decide +kernel
theorem dX7_step_80 : decode cX7_step 80 = .ok (.iload_n 2, 1) := by decide +kernel
theorem dX7_step_81 : decode cX7_step 81 = .ok (.iaload, 1) := by decide +kernel
theorem dX7_step_82 : decode cX7_step 82 = .ok (.invokestatic 209, 3) := by decide +kernel
theorem dX7_step_85 : decode cX7_step 85 = .ok (.istore 7, 2) := by decide +kernel
theorem dX7_step_87 : decode cX7_step 87 = .ok (.iload 4, 2) := by decide +kernel
theorem dX7_step_89 : decode cX7_step 89 = .ok (.sipush 300, 3) := by decide +kernel
theorem dX7_step_92 : decode cX7_step 92 = .ok (.invokestatic 199, 3) := by decide +kernel
theorem dX7_step_95 : decode cX7_step 95 = .ok (.istore 8, 2) := by decide +kernel
theorem dX7_step_97 : decode cX7_step 97 = .ok (.iload_n 3, 1) := by decide +kernel
theorem dX7_step_98 : decode cX7_step 98 = .ok (.bipush 15, 2) := by decide +kernel
theorem dX7_step_100 : decode cX7_step 100 = .ok (.if_icmp .ge 28, 3) := by decide +kernel
theorem dX7_step_103 : decode cX7_step 103 = .ok (.aload_n 0, 1) := by decide +kernel
theorem dX7_step_104 : decode cX7_step 104 = .ok (.iload_n 1, 1) := by decide +kernel
theorem dX7_step_105 : decode cX7_step 105 = .ok (.iload_n 3, 1) := by decide +kernel
theorem dX7_step_106 : decode cX7_step 106 = .ok (.iload 4, 2) := by decide +kernel
theorem dX7_step_108 : decode cX7_step 108 = .ok (.aload_n 0, 1) := by decide +kernel
theorem dX7_step_109 : decode cX7_step 109 = .ok (.getfield 23, 3) := by decide +kernel
theorem dX7_step_112 : decode cX7_step 112 = .ok (.iload_n 2, 1) := by decide +kernel
theorem dX7_step_113 : decode cX7_step 113 = .ok (.iaload, 1) := by decide +kernel
theorem dX7_step_114 : decode cX7_step 114 = .ok (.iload 5, 2) := by decide +kernel
theorem dX7_step_116 : decode cX7_step 116 = .ok (.iload 6, 2) := by decide +kernel
theorem dX7_step_118 : decode cX7_step 118 = .ok (.iload 7, 2) := by decide +kernel
theorem dX7_step_120 : decode cX7_step 120 = .ok (.iload 8, 2) := by decide +kernel
theorem dX7_step_122 : decode cX7_step 122 = .ok (.invokevirtual 212, 3) := by decide +kernel
theorem dX7_step_125 : decode cX7_step 125 = .ok (.goto 81, 3) := by decide +kernel
theorem dX7_step_128 : decode cX7_step 128 = .ok (.iload_n 3, 1) := by decide +kernel
theorem dX7_step_129 : decode cX7_step 129 = .ok (.bipush 23, 2) := by decide +kernel
theorem dX7_step_131 : decode cX7_step 131 = .ok (.if_icmp .ge 24, 3) := by decide +kernel
theorem dX7_step_134 : decode cX7_step 134 = .ok (.aload_n 0, 1) := by decide +kernel
theorem dX7_step_135 : decode cX7_step 135 = .ok (.iload_n 1, 1) := by decide +kernel
theorem dX7_step_136 : decode cX7_step 136 = .ok (.iload_n 3, 1) := by decide +kernel
theorem dX7_step_137 : decode cX7_step 137 = .ok (.aload_n 0, 1) := by decide +kernel
theorem dX7_step_138 : decode cX7_step 138 = .ok (.getfield 23, 3) := by decide +kernel
theorem dX7_step_141 : decode cX7_step 141 = .ok (.iload_n 2, 1) := by decide +kernel
theorem dX7_step_142 : decode cX7_step 142 = .ok (.iaload, 1) := by decide +kernel
theorem dX7_step_143 : decode cX7_step 143 = .ok (.iload 5, 2) := by decide +kernel
theorem dX7_step_145 : decode cX7_step 145 = .ok (.iload 7, 2) := by decide +kernel
theorem dX7_step_147 : decode cX7_step 147 = .ok (.iload 8, 2) := by decide +kernel
theorem dX7_step_149 : decode cX7_step 149 = .ok (.invokevirtual 216, 3) := by decide +kernel
theorem dX7_step_152 : decode cX7_step 152 = .ok (.goto 54, 3) := by decide +kernel
theorem dX7_step_155 : decode cX7_step 155 = .ok (.iload_n 3, 1) := by decide +kernel
theorem dX7_step_156 : decode cX7_step 156 = .ok (.bipush 29, 2) := by decide +kernel
theorem dX7_step_158 : decode cX7_step 158 = .ok (.if_icmp .ge 30, 3) := by decide +kernel
theorem dX7_step_161 : decode cX7_step 161 = .ok (.aload_n 0, 1) := by decide +kernel
theorem dX7_step_162 : decode cX7_step 162 = .ok (.iload_n 1, 1) := by decide +kernel
theorem dX7_step_163 : decode cX7_step 163 = .ok (.iload_n 3, 1) := by decide +kernel
theorem dX7_step_164 : decode cX7_step 164 = .ok (.iload 5, 2) := by decide +kernel
theorem dX7_step_166 : decode cX7_step 166 = .ok (.iload 6, 2) := by decide +kernel
theorem dX7_step_168 : decode cX7_step 168 = .ok (.aload_n 0, 1) := by decide +kernel
theorem dX7_step_169 : decode cX7_step 169 = .ok (.getfield 26, 3) := by decide +kernel
theorem dX7_step_172 : decode cX7_step 172 = .ok (.iload_n 2, 1) := by decide +kernel
theorem dX7_step_173 : decode cX7_step 173 = .ok (.iaload, 1) := by decide +kernel
theorem dX7_step_174 : decode cX7_step 174 = .ok (.sipush 300, 3) := by decide +kernel
theorem dX7_step_177 : decode cX7_step 177 = .ok (.invokestatic 199, 3) := by decide +kernel
theorem dX7_step_180 : decode cX7_step 180 = .ok (.iload 8, 2) := by decide +kernel
theorem dX7_step_182 : decode cX7_step 182 = .ok (.invokevirtual 220, 3) := by decide +kernel
theorem dX7_step_185 : decode cX7_step 185 = .ok (.goto 21, 3) := by decide +kernel
theorem dX7_step_188 : decode cX7_step 188 = .ok (.aload_n 0, 1) := by decide +kernel
theorem dX7_step_189 : decode cX7_step 189 = .ok (.iload_n 1, 1) := by decide +kernel
theorem dX7_step_190 : decode cX7_step 190 = .ok (.iload_n 3, 1) := by decide +kernel
theorem dX7_step_191 : decode cX7_step 191 = .ok (.iload 4, 2) := by decide +kernel
theorem dX7_step_193 : decode cX7_step 193 = .ok (.aload_n 0, 1) := by decide +kernel
theorem dX7_step_194 : decode cX7_step 194 = .ok (.getfield 23, 3) := by decide +kernel
theorem dX7_step_197 : decode cX7_step 197 = .ok (.iload_n 2, 1) := by decide +kernel
theorem dX7_step_198 : decode cX7_step 198 = .ok (.iaload, 1) := by decide +kernel
theorem dX7_step_199 : decode cX7_step 199 = .ok (.iload 5, 2) := by decide +kernel
theorem dX7_step_201 : decode cX7_step 201 = .ok (.iload 6, 2) := by decide +kernel
theorem dX7_step_203 : decode cX7_step 203 = .ok (.invokevirtual 223, 3) := by decide +kernel
theorem dX7_step_206 : decode cX7_step 206 = .ok (.aload_n 0, 1) := by decide +kernel
theorem dX7_step_207 : decode cX7_step 207 = .ok (.invokevirtual 226, 3) := by decide +kernel
theorem dX7_step_210 : decode cX7_step 210 = .ok (.return_, 1) := by decide +kernel
theorem dX7_simple_0 : decode cX7_simple 0 = .ok (.iload_n 2, 1) := by decide +kernel
theorem dX7_simple_1 : decode cX7_simple 1 = .ok (.tableswitch 305 0 11 #[63, 72, 84, 101, 112, 112, 112, 127, 178, 178, 264, 294], 63) := by decide +kernel
theorem dX7_simple_64 : decode cX7_simple 64 = .ok (.aload_n 0, 1) := by decide +kernel
theorem dX7_simple_65 : decode cX7_simple 65 = .ok (.iload_n 1, 1) := by decide +kernel
theorem dX7_simple_66 : decode cX7_simple 66 = .ok (.iconst 0, 1) := by decide +kernel
theorem dX7_simple_67 : decode cX7_simple 67 = .ok (.invokevirtual 229, 3) := by decide +kernel
theorem dX7_simple_70 : decode cX7_simple 70 = .ok (.goto 290, 3) := by decide +kernel
theorem dX7_simple_73 : decode cX7_simple 73 = .ok (.aload_n 0, 1) := by decide +kernel
theorem dX7_simple_74 : decode cX7_simple 74 = .ok (.iload 5, 2) := by decide +kernel
theorem dX7_simple_76 : decode cX7_simple 76 = .ok (.iconst 0, 1) := by decide +kernel
theorem dX7_simple_77 : decode cX7_simple 77 = .ok (.iload 4, 2) := by decide +kernel
theorem dX7_simple_79 : decode cX7_simple 79 = .ok (.invokevirtual 124, 3) := by decide +kernel
theorem dX7_simple_82 : decode cX7_simple 82 = .ok (.goto 278, 3) := by decide +kernel
theorem dX7_simple_85 : decode cX7_simple 85 = .ok (.aload_n 0, 1) := by decide +kernel
theorem dX7_simple_86 : decode cX7_simple 86 = .ok (.iload 5, 2) := by decide +kernel
theorem dX7_simple_88 : decode cX7_simple 88 = .ok (.iconst 1, 1) := by decide +kernel
theorem dX7_simple_89 : decode cX7_simple 89 = .ok (.iload 4, 2) := by decide +kernel
theorem dX7_simple_91 : decode cX7_simple 91 = .ok (.bipush 100, 2) := by decide +kernel
theorem dX7_simple_93 : decode cX7_simple 93 = .ok (.invokestatic 199, 3) := by decide +kernel
theorem dX7_simple_96 : decode cX7_simple 96 = .ok (.invokevirtual 124, 3) := by decide +kernel
theorem dX7_simple_99 : decode cX7_simple 99 = .ok (.goto 261, 3) := by decide +kernel
theorem dX7_simple_102 : decode cX7_simple 102 = .ok (.aload_n 0, 1) := by decide +kernel
theorem dX7_simple_103 : decode cX7_simple 103 = .ok (.iload 5, 2) := by decide +kernel
theorem dX7_simple_105 : decode cX7_simple 105 = .ok (.iload 6, 2) := by decide +kernel
theorem dX7_simple_107 : decode cX7_simple 107 = .ok (.invokevirtual 136, 3) := by decide +kernel
theorem dX7_simple_110 : decode cX7_simple 110 = .ok (.goto 250, 3) := by decide +kernel
theorem dX7_simple_113 : decode cX7_simple 113 = .ok (.aload_n 0, 1) := by decide +kernel
theorem dX7_simple_114 : decode cX7_simple 114 = .ok (.iload_n 1, 1) := by decide +kernel
theorem dX7_simple_115 : decode cX7_simple 115 = .ok (.iload_n 2, 1) := by decide +kernel
theorem dX7_simple_116 : decode cX7_simple 116 = .ok (.iload 5, 2) := by decide +kernel
theorem dX7_simple_118 : decode cX7_simple 118 = .ok (.iload 6, 2) := by decide +kernel
theorem dX7_simple_120 : decode cX7_simple 120 = .ok (.iload 7, 2) := by decide +kernel
theorem dX7_simple_122 : decode cX7_simple 122 = .ok (.invokevirtual 232, 3) := by decide +kernel
theorem dX7_simple_125 : decode cX7_simple 125 = .ok (.goto 235, 3) := by decide +kernel
theorem dX7_simple_128 : decode cX7_simple 128 = .ok (.aload_n 0, 1) := by decide +kernel
theorem dX7_simple_129 : decode cX7_simple 129 = .ok (.iload 6, 2) := by decide +kernel
theorem dX7_simple_131 : decode cX7_simple 131 = .ok (.invokevirtual 172, 3) := by decide +kernel
theorem dX7_simple_134 : decode cX7_simple 134 = .ok (.aload_n 0, 1) := by decide +kernel
theorem dX7_simple_135 : decode cX7_simple 135 = .ok (.iload 7, 2) := by decide +kernel
theorem dX7_simple_137 : decode cX7_simple 137 = .ok (.invokevirtual 172, 3) := by decide +kernel
theorem dX7_simple_140 : decode cX7_simple 140 = .ok (.iadd, 1) := by decide +kernel
theorem dX7_simple_141 : decode cX7_simple 141 = .ok (.bipush 32, 2) := by decide +kernel
theorem dX7_simple_143 : decode cX7_simple 143 = .ok (.if_icmp .le 13, 3) := by decide +kernel
theorem dX7_simple_146 : decode cX7_simple 146 = .ok (.aload_n 0, 1) := by decide +kernel
theorem dX7_simple_147 : decode cX7_simple 147 = .ok (.iload_n 1, 1) := by decide +kernel
theorem dX7_simple_148 : decode cX7_simple 148 = .ok (.iconst 1, 1) := by decide +kernel
theorem dX7_simple_149 : decode cX7_simple 149 = .ok (.iconst 5, 1) := by decide +kernel
theorem dX7_simple_150 : decode cX7_simple 150 = .ok (.invokevirtual 193, 3) := by decide +kernel
theorem dX7_simple_153 : decode cX7_simple 153 = .ok (.goto 207, 3) := by decide +kernel
theorem dX7_simple_156 : decode cX7_simple 156 = .ok (.aload_n 0, 1) := by decide +kernel
theorem dX7_simple_157 : decode cX7_simple 157 = .ok (.sipush 2940, 3) := by decide +kernel
theorem dX7_simple_160 : decode cX7_simple 160 = .ok (.iload 6, 2) := by decide +kernel
theorem dX7_simple_162 : decode cX7_simple 162 = .ok (.iload 7, 2) := by decide +kernel
theorem dX7_simple_164 : decode cX7_simple 164 = .ok (.invokevirtual 175, 3) := by decide +kernel
theorem dX7_simple_167 : decode cX7_simple 167 = .ok (.aload_n 0, 1) := by decide +kernel
theorem dX7_simple_168 : decode cX7_simple 168 = .ok (.iload 5, 2) := by decide +kernel
theorem dX7_simple_170 : decode cX7_simple 170 = .ok (.sipush 2940, 3) := by decide +kernel
theorem dX7_simple_173 : decode cX7_simple 173 = .ok (.invokevirtual 136, 3) := by decide +kernel
theorem dX7_simple_176 : decode cX7_simple 176 = .ok (.goto 184, 3) := by decide +kernel
theorem dX7_simple_179 : decode cX7_simple 179 = .ok (.aload_n 0, 1) := by decide +kernel
theorem dX7_simple_180 : decode cX7_simple 180 = .ok (.iload_n 1, 1) := by decide +kernel
theorem dX7_simple_181 : decode cX7_simple 181 = .ok (.aload_n 0, 1) := by decide +kernel
theorem dX7_simple_182 : decode cX7_simple 182 = .ok (.iload 6, 2) := by decide +kernel
theorem dX7_simple_184 : decode cX7_simple 184 = .ok (.iconst (-1), 1) := by decide +kernel
theorem dX7_simple_185 : decode cX7_simple 185 = .ok (.invokevirtual 178, 3) := by decide +kernel
theorem dX7_simple_188 : decode cX7_simple 188 = .ok (.ifCond .ne 7, 3) := by decide +kernel
theorem dX7_simple_191 : decode cX7_simple 191 = .ok (.iconst 1, 1) := by decide +kernel
theorem dX7_simple_192 : decode cX7_simple 192 = .ok (.goto 4, 3) := by decide +kernel
theorem dX7_simple_195 : decode cX7_simple 195 = .ok (.iconst 0, 1) := by decide +kernel
theorem dX7_simple_196 : decode cX7_simple 196 = .ok (.invokevirtual 202, 3) := by decide +kernel
theorem dX7_simple_199 : decode cX7_simple 199 = .ok (.ifCond .eq 6, 3) := by decide +kernel
theorem dX7_simple_202 : decode cX7_simple 202 = .ok (.goto 158, 3) := by decide +kernel
theorem dX7_simple_205 : decode cX7_simple 205 = .ok (.aload_n 0, 1) := by decide +kernel
theorem dX7_simple_206 : decode cX7_simple 206 = .ok (.iload 6, 2) := by decide +kernel
theorem dX7_simple_208 : decode cX7_simple 208 = .ok (.iconst 1, 1) := by decide +kernel
theorem dX7_simple_209 : decode cX7_simple 209 = .ok (.invokevirtual 236, 3) := by decide +kernel
theorem dX7_simple_212 : decode cX7_simple 212 = .ok (.istore 9, 2) := by decide +kernel
theorem dX7_simple_214 : decode cX7_simple 214 = .ok (.iload_n 2, 1) := by decide +kernel
theorem dX7_simple_215 : decode cX7_simple 215 = .ok (.bipush 8, 2) := by decide +kernel
theorem dX7_simple_217 : decode cX7_simple 217 = .ok (.if_icmp .ne 18, 3) := by decide +kernel
theorem dX7_simple_220 : decode cX7_simple 220 = .ok (.aload_n 0, 1) := by decide +kernel
theorem dX7_simple_221 : decode cX7_simple 221 = .ok (.sipush 2940, 3) := by decide +kernel
theorem dX7_simple_224 : decode cX7_simple 224 = .ok (.iload 6, 2) := by decide +kernel
theorem dX7_simple_226 : decode cX7_simple 226 = .ok (.iconst 1, 1) := by decide +kernel
theorem dX7_simple_227 : decode cX7_simple 227 = .ok (.iload 9, 2) := by decide +kernel
theorem dX7_simple_229 : decode cX7_simple 229 = .ok (.invokevirtual 239, 3) := by decide +kernel
theorem dX7_simple_232 : decode cX7_simple 232 = .ok (.goto 21, 3) := by decide +kernel
theorem dX7_simple_235 : decode cX7_simple 235 = .ok (.aload_n 0, 1) := by decide +kernel
theorem dX7_simple_236 : decode cX7_simple 236 = .ok (.sipush 2940, 3) := by decide +kernel
theorem dX7_simple_239 : decode cX7_simple 239 = .ok (.iload 6, 2) := by decide +kernel
theorem dX7_simple_241 : decode cX7_simple 241 = .ok (.iload 9, 2) := by decide +kernel
theorem dX7_simple_243 : decode cX7_simple 243 = .ok (.aload_n 0, 1) := by decide +kernel
theorem dX7_simple_244 : decode cX7_simple 244 = .ok (.getfield 14, 3) := by decide +kernel
theorem dX7_simple_247 : decode cX7_simple 247 = .ok (.iload 6, 2) := by decide +kernel
theorem dX7_simple_249 : decode cX7_simple 249 = .ok (.iaload, 1) := by decide +kernel
theorem dX7_simple_250 : decode cX7_simple 250 = .ok (.invokevirtual 239, 3) := by decide +kernel
theorem dX7_simple_253 : decode cX7_simple 253 = .ok (.aload_n 0, 1) := by decide +kernel
theorem dX7_simple_254 : decode cX7_simple 254 = .ok (.iload 5, 2) := by decide +kernel
theorem dX7_simple_256 : decode cX7_simple 256 = .ok (.sipush 2940, 3) := by decide +kernel
theorem dX7_simple_259 : decode cX7_simple 259 = .ok (.invokevirtual 136, 3) := by decide +kernel
theorem dX7_simple_262 : decode cX7_simple 262 = .ok (.goto 98, 3) := by decide +kernel
theorem dX7_simple_265 : decode cX7_simple 265 = .ok (.aload_n 0, 1) := by decide +kernel
theorem dX7_simple_266 : decode cX7_simple 266 = .ok (.iload 5, 2) := by decide +kernel
theorem dX7_simple_268 : decode cX7_simple 268 = .ok (.iconst 0, 1) := by decide +kernel
theorem dX7_simple_269 : decode cX7_simple 269 = .ok (.aload_n 0, 1) := by decide +kernel
theorem dX7_simple_270 : decode cX7_simple 270 = .ok (.iload 6, 2) := by decide +kernel
theorem dX7_simple_272 : decode cX7_simple 272 = .ok (.iconst (-1), 1) := by decide +kernel
theorem dX7_simple_273 : decode cX7_simple 273 = .ok (.invokevirtual 178, 3) := by decide +kernel
theorem dX7_simple_276 : decode cX7_simple 276 = .ok (.ifCond .eq 7, 3) := by decide +kernel
theorem dX7_simple_279 : decode cX7_simple 279 = .ok (.iconst 3, 1) := by decide +kernel
theorem dX7_simple_280 : decode cX7_simple 280 = .ok (.goto 9, 3) := by decide +kernel
theorem dX7_simple_283 : decode cX7_simple 283 = .ok (.aload_n 0, 1) := by decide +kernel
theorem dX7_simple_284 : decode cX7_simple 284 = .ok (.iload 6, 2) := by decide +kernel
theorem dX7_simple_286 : decode cX7_simple 286 = .ok (.invokevirtual 106, 3) := by decide +kernel
theorem dX7_simple_289 : decode cX7_simple 289 = .ok (.invokevirtual 124, 3) := by decide +kernel
theorem dX7_simple_292 : decode cX7_simple 292 = .ok (.goto 68, 3) := by decide +kernel
theorem dX7_simple_295 : decode cX7_simple 295 = .ok (.aload_n 0, 1) := by decide +kernel
theorem dX7_simple_296 : decode cX7_simple 296 = .ok (.getfield 32, 3) := by decide +kernel
theorem dX7_simple_299 : decode cX7_simple 299 = .ok (.iload_n 1, 1) := by decide +kernel
theorem dX7_simple_300 : decode cX7_simple 300 = .ok (.iload 8, 2) := by decide +kernel
theorem dX7_simple_302 : decode cX7_simple 302 = .ok (.iastore, 1) := by decide +kernel
theorem dX7_simple_303 : decode cX7_simple 303 = .ok (.goto 57, 3) := by decide +kernel
theorem dX7_simple_306 : decode cX7_simple 306 = .ok (.aload_n 0, 1) := by decide +kernel
theorem dX7_simple_307 : decode cX7_simple 307 = .ok (.iload 6, 2) := by decide +kernel
theorem dX7_simple_309 : decode cX7_simple 309 = .ok (.iload 7, 2) := by decide +kernel
theorem dX7_simple_311 : decode cX7_simple 311 = .ok (.invokevirtual 242, 3) := by decide +kernel
theorem dX7_simple_314 : decode cX7_simple 314 = .ok (.istore 9, 2) := by decide +kernel
theorem dX7_simple_316 : decode cX7_simple 316 = .ok (.iload_n 2, 1) := by decide +kernel
theorem dX7_simple_317 : decode cX7_simple 317 = .ok (.bipush 12, 2) := by decide +kernel
theorem dX7_simple_319 : decode cX7_simple 319 = .ok (.if_icmp .ne 11, 3) := by decide +kernel
theorem dX7_simple_322 : decode cX7_simple 322 = .ok (.iload 9, 2) := by decide +kernel
theorem dX7_simple_324 : decode cX7_simple 324 = .ok (.ifCond .ne 36, 3) := by decide +kernel
theorem dX7_simple_327 : decode cX7_simple 327 = .ok (.goto 22, 3) := by decide +kernel
theorem dX7_simple_330 : decode cX7_simple 330 = .ok (.iload_n 2, 1) := by decide +kernel
theorem dX7_simple_331 : decode cX7_simple 331 = .ok (.bipush 13, 2) := by decide +kernel
theorem dX7_simple_333 : decode cX7_simple 333 = .ok (.if_icmp .ne 11, 3) := by decide +kernel
theorem dX7_simple_336 : decode cX7_simple 336 = .ok (.iload 9, 2) := by decide +kernel
theorem dX7_simple_338 : decode cX7_simple 338 = .ok (.ifCond .ge 22, 3) := by decide +kernel
theorem dX7_simple_341 : decode cX7_simple 341 = .ok (.goto 8, 3) := by decide +kernel
theorem dX7_simple_344 : decode cX7_simple 344 = .ok (.iload 9, 2) := by decide +kernel
theorem dX7_simple_346 : decode cX7_simple 346 = .ok (.ifCond .gt 14, 3) := by decide +kernel
theorem dX7_simple_349 : decode cX7_simple 349 = .ok (.aload_n 0, 1) := by decide +kernel
theorem dX7_simple_350 : decode cX7_simple 350 = .ok (.getfield 32, 3) := by decide +kernel
theorem dX7_simple_353 : decode cX7_simple 353 = .ok (.iload_n 1, 1) := by decide +kernel
theorem dX7_simple_354 : decode cX7_simple 354 = .ok (.iload 8, 2) := by decide +kernel
theorem dX7_simple_356 : decode cX7_simple 356 = .ok (.iastore, 1) := by decide +kernel
theorem dX7_simple_357 : decode cX7_simple 357 = .ok (.goto 3, 3) := by decide +kernel
theorem dX7_simple_360 : decode cX7_simple 360 = .ok (.return_, 1) := by decide +kernel
theorem dX7_calls_0 : decode cX7_calls 0 = .ok (.iload_n 2, 1) := by decide +kernel
theorem dX7_calls_1 : decode cX7_calls 1 = .ok (.tableswitch 289 15 20 #[39, 103, 156, 230, 256, 276], 39) := by decide +kernel
theorem dX7_calls_40 : decode cX7_calls 40 = .ok (.aload_n 0, 1) := by decide +kernel
theorem dX7_calls_41 : decode cX7_calls 41 = .ok (.getfield 54, 3) := by decide +kernel
theorem dX7_calls_44 : decode cX7_calls 44 = .ok (.iload_n 1, 1) := by decide +kernel
theorem dX7_calls_45 : decode cX7_calls 45 = .ok (.iaload, 1) := by decide +kernel
theorem dX7_calls_46 : decode cX7_calls 46 = .ok (.bipush 16, 2) := by decide +kernel
theorem dX7_calls_48 : decode cX7_calls 48 = .ok (.if_icmp .ne 13, 3) := by decide +kernel
theorem dX7_calls_51 : decode cX7_calls 51 = .ok (.aload_n 0, 1) := by decide +kernel
theorem dX7_calls_52 : decode cX7_calls 52 = .ok (.iload_n 1, 1) := by decide +kernel
theorem dX7_calls_53 : decode cX7_calls 53 = .ok (.iconst 1, 1) := by decide +kernel
theorem dX7_calls_54 : decode cX7_calls 54 = .ok (.iconst 5, 1) := by decide +kernel
theorem dX7_calls_55 : decode cX7_calls 55 = .ok (.invokevirtual 193, 3) := by decide +kernel
theorem dX7_calls_58 : decode cX7_calls 58 = .ok (.goto 324, 3) := by decide +kernel
theorem dX7_calls_61 : decode cX7_calls 61 = .ok (.aload_n 0, 1) := by decide +kernel
theorem dX7_calls_62 : decode cX7_calls 62 = .ok (.getfield 51, 3) := by decide +kernel
theorem dX7_calls_65 : decode cX7_calls 65 = .ok (.bipush 16, 2) := by decide +kernel
theorem dX7_calls_67 : decode cX7_calls 67 = .ok (.iload_n 1, 1) := by decide +kernel
theorem dX7_calls_68 : decode cX7_calls 68 = .ok (.imul, 1) := by decide +kernel
theorem dX7_calls_69 : decode cX7_calls 69 = .ok (.aload_n 0, 1) := by decide +kernel
theorem dX7_calls_70 : decode cX7_calls 70 = .ok (.getfield 54, 3) := by decide +kernel
theorem dX7_calls_73 : decode cX7_calls 73 = .ok (.iload_n 1, 1) := by decide +kernel
theorem dX7_calls_74 : decode cX7_calls 74 = .ok (.iaload, 1) := by decide +kernel
theorem dX7_calls_75 : decode cX7_calls 75 = .ok (.iadd, 1) := by decide +kernel
theorem dX7_calls_76 : decode cX7_calls 76 = .ok (.aload_n 0, 1) := by decide +kernel
theorem dX7_calls_77 : decode cX7_calls 77 = .ok (.getfield 32, 3) := by decide +kernel
theorem dX7_calls_80 : decode cX7_calls 80 = .ok (.iload_n 1, 1) := by decide +kernel
theorem dX7_calls_81 : decode cX7_calls 81 = .ok (.iaload, 1) := by decide +kernel
theorem dX7_calls_82 : decode cX7_calls 82 = .ok (.iastore, 1) := by decide +kernel
theorem dX7_calls_83 : decode cX7_calls 83 = .ok (.aload_n 0, 1) := by decide +kernel
theorem dX7_calls_84 : decode cX7_calls 84 = .ok (.getfield 54, 3) := by decide +kernel
theorem dX7_calls_87 : decode cX7_calls 87 = .ok (.iload_n 1, 1) := by decide +kernel
theorem dX7_calls_88 : decode cX7_calls 88 = .ok (.dup2, 1) := by decide +kernel
theorem dX7_calls_89 : decode cX7_calls 89 = .ok (.iaload, 1) := by decide +kernel
theorem dX7_calls_90 : decode cX7_calls 90 = .ok (.iconst 1, 1) := by decide +kernel
theorem dX7_calls_91 : decode cX7_calls 91 = .ok (.iadd, 1) := by decide +kernel
theorem dX7_calls_92 : decode cX7_calls 92 = .ok (.iastore, 1) := by decide +kernel
theorem dX7_calls_93 : decode cX7_calls 93 = .ok (.aload_n 0, 1) := by decide +kernel
theorem dX7_calls_94 : decode cX7_calls 94 = .ok (.getfield 32, 3) := by decide +kernel
theorem dX7_calls_97 : decode cX7_calls 97 = .ok (.iload_n 1, 1) := by decide +kernel
theorem dX7_calls_98 : decode cX7_calls 98 = .ok (.iload 6, 2) := by decide +kernel
theorem dX7_calls_100 : decode cX7_calls 100 = .ok (.iastore, 1) := by decide +kernel
theorem dX7_calls_101 : decode cX7_calls 101 = .ok (.goto 281, 3) := by decide +kernel
theorem dX7_calls_104 : decode cX7_calls 104 = .ok (.aload_n 0, 1) := by decide +kernel
theorem dX7_calls_105 : decode cX7_calls 105 = .ok (.getfield 54, 3) := by decide +kernel
theorem dX7_calls_108 : decode cX7_calls 108 = .ok (.iload_n 1, 1) := by decide +kernel
theorem dX7_calls_109 : decode cX7_calls 109 = .ok (.iaload, 1) := by decide +kernel
theorem dX7_calls_110 : decode cX7_calls 110 = .ok (.ifCond .ne 12, 3) := by decide +kernel
theorem dX7_calls_113 : decode cX7_calls 113 = .ok (.aload_n 0, 1) := by decide +kernel
theorem dX7_calls_114 : decode cX7_calls 114 = .ok (.iload_n 1, 1) := by decide +kernel
theorem dX7_calls_115 : decode cX7_calls 115 = .ok (.iconst 0, 1) := by decide +kernel
theorem dX7_calls_116 : decode cX7_calls 116 = .ok (.invokevirtual 229, 3) := by decide +kernel
theorem dX7_calls_119 : decode cX7_calls 119 = .ok (.goto 263, 3) := by decide +kernel
theorem dX7_calls_122 : decode cX7_calls 122 = .ok (.aload_n 0, 1) := by decide +kernel
theorem dX7_calls_123 : decode cX7_calls 123 = .ok (.getfield 54, 3) := by decide +kernel
theorem dX7_calls_126 : decode cX7_calls 126 = .ok (.iload_n 1, 1) := by decide +kernel
theorem dX7_calls_127 : decode cX7_calls 127 = .ok (.dup2, 1) := by decide +kernel
theorem dX7_calls_128 : decode cX7_calls 128 = .ok (.iaload, 1) := by decide +kernel
theorem dX7_calls_129 : decode cX7_calls 129 = .ok (.iconst 1, 1) := by decide +kernel
theorem dX7_calls_130 : decode cX7_calls 130 = .ok (.isub, 1) := by decide +kernel
theorem dX7_calls_131 : decode cX7_calls 131 = .ok (.iastore, 1) := by decide +kernel
theorem dX7_calls_132 : decode cX7_calls 132 = .ok (.aload_n 0, 1) := by decide +kernel
theorem dX7_calls_133 : decode cX7_calls 133 = .ok (.getfield 32, 3) := by decide +kernel
theorem dX7_calls_136 : decode cX7_calls 136 = .ok (.iload_n 1, 1) := by decide +kernel
theorem dX7_calls_137 : decode cX7_calls 137 = .ok (.aload_n 0, 1) := by decide +kernel
theorem dX7_calls_138 : decode cX7_calls 138 = .ok (.getfield 51, 3) := by decide +kernel
theorem dX7_calls_141 : decode cX7_calls 141 = .ok (.bipush 16, 2) := by decide +kernel
theorem dX7_calls_143 : decode cX7_calls 143 = .ok (.iload_n 1, 1) := by decide +kernel
theorem dX7_calls_144 : decode cX7_calls 144 = .ok (.imul, 1) := by decide +kernel
theorem dX7_calls_145 : decode cX7_calls 145 = .ok (.aload_n 0, 1) := by decide +kernel
theorem dX7_calls_146 : decode cX7_calls 146 = .ok (.getfield 54, 3) := by decide +kernel
theorem dX7_calls_149 : decode cX7_calls 149 = .ok (.iload_n 1, 1) := by decide +kernel
theorem dX7_calls_150 : decode cX7_calls 150 = .ok (.iaload, 1) := by decide +kernel
theorem dX7_calls_151 : decode cX7_calls 151 = .ok (.iadd, 1) := by decide +kernel
theorem dX7_calls_152 : decode cX7_calls 152 = .ok (.iaload, 1) := by decide +kernel
theorem dX7_calls_153 : decode cX7_calls 153 = .ok (.iastore, 1) := by decide +kernel
theorem dX7_calls_154 : decode cX7_calls 154 = .ok (.goto 228, 3) := by decide +kernel
theorem dX7_calls_157 : decode cX7_calls 157 = .ok (.aload_n 0, 1) := by decide +kernel
theorem dX7_calls_158 : decode cX7_calls 158 = .ok (.getfield 63, 3) := by decide +kernel
theorem dX7_calls_161 : decode cX7_calls 161 = .ok (.iload_n 1, 1) := by decide +kernel
theorem dX7_calls_162 : decode cX7_calls 162 = .ok (.iaload, 1) := by decide +kernel
theorem dX7_calls_163 : decode cX7_calls 163 = .ok (.bipush 8, 2) := by decide +kernel
theorem dX7_calls_165 : decode cX7_calls 165 = .ok (.if_icmp .ne 13, 3) := by decide +kernel
theorem dX7_calls_168 : decode cX7_calls 168 = .ok (.aload_n 0, 1) := by decide +kernel
theorem dX7_calls_169 : decode cX7_calls 169 = .ok (.iload_n 1, 1) := by decide +kernel
theorem dX7_calls_170 : decode cX7_calls 170 = .ok (.iconst 1, 1) := by decide +kernel
theorem dX7_calls_171 : decode cX7_calls 171 = .ok (.iconst 5, 1) := by decide +kernel
theorem dX7_calls_172 : decode cX7_calls 172 = .ok (.invokevirtual 193, 3) := by decide +kernel
theorem dX7_calls_175 : decode cX7_calls 175 = .ok (.goto 207, 3) := by decide +kernel
theorem dX7_calls_178 : decode cX7_calls 178 = .ok (.aload_n 0, 1) := by decide +kernel
theorem dX7_calls_179 : decode cX7_calls 179 = .ok (.getfield 57, 3) := by decide +kernel
theorem dX7_calls_182 : decode cX7_calls 182 = .ok (.bipush 8, 2) := by decide +kernel
theorem dX7_calls_184 : decode cX7_calls 184 = .ok (.iload_n 1, 1) := by decide +kernel
theorem dX7_calls_185 : decode cX7_calls 185 = .ok (.imul, 1) := by decide +kernel
theorem dX7_calls_186 : decode cX7_calls 186 = .ok (.aload_n 0, 1) := by decide +kernel
theorem dX7_calls_187 : decode cX7_calls 187 = .ok (.getfield 63, 3) := by decide +kernel
theorem dX7_calls_190 : decode cX7_calls 190 = .ok (.iload_n 1, 1) := by decide +kernel
theorem dX7_calls_191 : decode cX7_calls 191 = .ok (.iaload, 1) := by decide +kernel
theorem dX7_calls_192 : decode cX7_calls 192 = .ok (.iadd, 1) := by decide +kernel
theorem dX7_calls_193 : decode cX7_calls 193 = .ok (.iload 6, 2) := by decide +kernel
theorem dX7_calls_195 : decode cX7_calls 195 = .ok (.iastore, 1) := by decide +kernel
theorem dX7_calls_196 : decode cX7_calls 196 = .ok (.aload_n 0, 1) := by decide +kernel
theorem dX7_calls_197 : decode cX7_calls 197 = .ok (.getfield 60, 3) := by decide +kernel
theorem dX7_calls_200 : decode cX7_calls 200 = .ok (.bipush 8, 2) := by decide +kernel
theorem dX7_calls_202 : decode cX7_calls 202 = .ok (.iload_n 1, 1) := by decide +kernel
theorem dX7_calls_203 : decode cX7_calls 203 = .ok (.imul, 1) := by decide +kernel
theorem dX7_calls_204 : decode cX7_calls 204 = .ok (.aload_n 0, 1) := by decide +kernel
theorem dX7_calls_205 : decode cX7_calls 205 = .ok (.getfield 63, 3) := by decide +kernel
theorem dX7_calls_208 : decode cX7_calls 208 = .ok (.iload_n 1, 1) := by decide +kernel
theorem dX7_calls_209 : decode cX7_calls 209 = .ok (.iaload, 1) := by decide +kernel
theorem dX7_calls_210 : decode cX7_calls 210 = .ok (.iadd, 1) := by decide +kernel
theorem dX7_calls_211 : decode cX7_calls 211 = .ok (.aload_n 0, 1) := by decide +kernel
theorem dX7_calls_212 : decode cX7_calls 212 = .ok (.getfield 54, 3) := by decide +kernel
theorem dX7_calls_215 : decode cX7_calls 215 = .ok (.iload_n 1, 1) := by decide +kernel
theorem dX7_calls_216 : decode cX7_calls 216 = .ok (.iaload, 1) := by decide +kernel
theorem dX7_calls_217 : decode cX7_calls 217 = .ok (.iastore, 1) := by decide +kernel
theorem dX7_calls_218 : decode cX7_calls 218 = .ok (.aload_n 0, 1) := by decide +kernel
theorem dX7_calls_219 : decode cX7_calls 219 = .ok (.getfield 63, 3) := by decide +kernel
theorem dX7_calls_222 : decode cX7_calls 222 = .ok (.iload_n 1, 1) := by decide +kernel
theorem dX7_calls_223 : decode cX7_calls 223 = .ok (.dup2, 1) := by decide +kernel
theorem dX7_calls_224 : decode cX7_calls 224 = .ok (.iaload, 1) := by decide +kernel
theorem dX7_calls_225 : decode cX7_calls 225 = .ok (.iconst 1, 1) := by decide +kernel
theorem dX7_calls_226 : decode cX7_calls 226 = .ok (.iadd, 1) := by decide +kernel
theorem dX7_calls_227 : decode cX7_calls 227 = .ok (.iastore, 1) := by decide +kernel
theorem dX7_calls_228 : decode cX7_calls 228 = .ok (.goto 154, 3) := by decide +kernel
theorem dX7_calls_231 : decode cX7_calls 231 = .ok (.aload_n 0, 1) := by decide +kernel
theorem dX7_calls_232 : decode cX7_calls 232 = .ok (.getfield 63, 3) := by decide +kernel
theorem dX7_calls_235 : decode cX7_calls 235 = .ok (.iload_n 1, 1) := by decide +kernel
theorem dX7_calls_236 : decode cX7_calls 236 = .ok (.dup2, 1) := by decide +kernel
theorem dX7_calls_237 : decode cX7_calls 237 = .ok (.iaload, 1) := by decide +kernel
theorem dX7_calls_238 : decode cX7_calls 238 = .ok (.aload_n 0, 1) := by decide +kernel
theorem dX7_calls_239 : decode cX7_calls 239 = .ok (.getfield 63, 3) := by decide +kernel
theorem dX7_calls_242 : decode cX7_calls 242 = .ok (.iload_n 1, 1) := by decide +kernel
theorem dX7_calls_243 : decode cX7_calls 243 = .ok (.iaload, 1) := by decide +kernel
theorem dX7_calls_244 : decode cX7_calls 244 = .ok (.ifCond .le 7, 3) := by decide +kernel
theorem dX7_calls_247 : decode cX7_calls 247 = .ok (.iconst 1, 1) := by decide +kernel
theorem dX7_calls_248 : decode cX7_calls 248 = .ok (.goto 4, 3) := by decide +kernel
theorem dX7_calls_251 : decode cX7_calls 251 = .ok (.iconst 0, 1) := by decide +kernel
theorem dX7_calls_252 : decode cX7_calls 252 = .ok (.isub, 1) := by decide +kernel
theorem dX7_calls_253 : decode cX7_calls 253 = .ok (.iastore, 1) := by decide +kernel
theorem dX7_calls_254 : decode cX7_calls 254 = .ok (.goto 128, 3) := by decide +kernel
theorem dX7_calls_257 : decode cX7_calls 257 = .ok (.aload_n 0, 1) := by decide +kernel
theorem dX7_calls_258 : decode cX7_calls 258 = .ok (.sipush 2940, 3) := by decide +kernel
theorem dX7_calls_261 : decode cX7_calls 261 = .ok (.iload 4, 2) := by decide +kernel
theorem dX7_calls_263 : decode cX7_calls 263 = .ok (.invokevirtual 136, 3) := by decide +kernel
theorem dX7_calls_266 : decode cX7_calls 266 = .ok (.aload_n 0, 1) := by decide +kernel
theorem dX7_calls_267 : decode cX7_calls 267 = .ok (.iload_n 1, 1) := by decide +kernel
theorem dX7_calls_268 : decode cX7_calls 268 = .ok (.sipush 2940, 3) := by decide +kernel
theorem dX7_calls_271 : decode cX7_calls 271 = .ok (.invokevirtual 196, 3) := by decide +kernel
theorem dX7_calls_274 : decode cX7_calls 274 = .ok (.goto 108, 3) := by decide +kernel
theorem dX7_calls_277 : decode cX7_calls 277 = .ok (.aload_n 0, 1) := by decide +kernel
theorem dX7_calls_278 : decode cX7_calls 278 = .ok (.iload 4, 2) := by decide +kernel
theorem dX7_calls_280 : decode cX7_calls 280 = .ok (.iconst 2, 1) := by decide +kernel
theorem dX7_calls_281 : decode cX7_calls 281 = .ok (.iload_n 1, 1) := by decide +kernel
theorem dX7_calls_282 : decode cX7_calls 282 = .ok (.iconst 1, 1) := by decide +kernel
theorem dX7_calls_283 : decode cX7_calls 283 = .ok (.iadd, 1) := by decide +kernel
theorem dX7_calls_284 : decode cX7_calls 284 = .ok (.invokevirtual 124, 3) := by decide +kernel
theorem dX7_calls_287 : decode cX7_calls 287 = .ok (.goto 95, 3) := by decide +kernel
theorem dX7_calls_290 : decode cX7_calls 290 = .ok (.aload_n 0, 1) := by decide +kernel
theorem dX7_calls_291 : decode cX7_calls 291 = .ok (.getfield 121, 3) := by decide +kernel
theorem dX7_calls_294 : decode cX7_calls 294 = .ok (.bipush 60, 2) := by decide +kernel
theorem dX7_calls_296 : decode cX7_calls 296 = .ok (.if_icmp .ne 13, 3) := by decide +kernel
theorem dX7_calls_299 : decode cX7_calls 299 = .ok (.aload_n 0, 1) := by decide +kernel
theorem dX7_calls_300 : decode cX7_calls 300 = .ok (.iload_n 1, 1) := by decide +kernel
theorem dX7_calls_301 : decode cX7_calls 301 = .ok (.iconst 1, 1) := by decide +kernel
theorem dX7_calls_302 : decode cX7_calls 302 = .ok (.iconst 5, 1) := by decide +kernel
theorem dX7_calls_303 : decode cX7_calls 303 = .ok (.invokevirtual 193, 3) := by decide +kernel
theorem dX7_calls_306 : decode cX7_calls 306 = .ok (.goto 76, 3) := by decide +kernel
theorem dX7_calls_309 : decode cX7_calls 309 = .ok (.aload_n 0, 1) := by decide +kernel
theorem dX7_calls_310 : decode cX7_calls 310 = .ok (.iload_n 3, 1) := by decide +kernel
theorem dX7_calls_311 : decode cX7_calls 311 = .ok (.sipush 300, 3) := by decide +kernel
theorem dX7_calls_314 : decode cX7_calls 314 = .ok (.invokestatic 199, 3) := by decide +kernel
theorem dX7_calls_317 : decode cX7_calls 317 = .ok (.aload_n 0, 1) := by decide +kernel
theorem dX7_calls_318 : decode cX7_calls 318 = .ok (.getfield 35, 3) := by decide +kernel
theorem dX7_calls_321 : decode cX7_calls 321 = .ok (.iload_n 1, 1) := by decide +kernel
theorem dX7_calls_322 : decode cX7_calls 322 = .ok (.iaload, 1) := by decide +kernel
theorem dX7_calls_323 : decode cX7_calls 323 = .ok (.invokevirtual 132, 3) := by decide +kernel
theorem dX7_calls_326 : decode cX7_calls 326 = .ok (.istore 7, 2) := by decide +kernel
theorem dX7_calls_328 : decode cX7_calls 328 = .ok (.aload_n 0, 1) := by decide +kernel
theorem dX7_calls_329 : decode cX7_calls 329 = .ok (.bipush 8, 2) := by decide +kernel
theorem dX7_calls_331 : decode cX7_calls 331 = .ok (.iload 7, 2) := by decide +kernel
theorem dX7_calls_333 : decode cX7_calls 333 = .ok (.imul, 1) := by decide +kernel
theorem dX7_calls_334 : decode cX7_calls 334 = .ok (.iconst 2, 1) := by decide +kernel
theorem dX7_calls_335 : decode cX7_calls 335 = .ok (.iload_n 1, 1) := by decide +kernel
theorem dX7_calls_336 : decode cX7_calls 336 = .ok (.iconst 1, 1) := by decide +kernel
theorem dX7_calls_337 : decode cX7_calls 337 = .ok (.iadd, 1) := by decide +kernel
theorem dX7_calls_338 : decode cX7_calls 338 = .ok (.invokevirtual 124, 3) := by decide +kernel
theorem dX7_calls_341 : decode cX7_calls 341 = .ok (.aload_n 0, 1) := by decide +kernel
theorem dX7_calls_342 : decode cX7_calls 342 = .ok (.bipush 8, 2) := by decide +kernel
theorem dX7_calls_344 : decode cX7_calls 344 = .ok (.iload 7, 2) := by decide +kernel
theorem dX7_calls_346 : decode cX7_calls 346 = .ok (.imul, 1) := by decide +kernel
theorem dX7_calls_347 : decode cX7_calls 347 = .ok (.iconst 1, 1) := by decide +kernel
theorem dX7_calls_348 : decode cX7_calls 348 = .ok (.iadd, 1) := by decide +kernel
theorem dX7_calls_349 : decode cX7_calls 349 = .ok (.iload 5, 2) := by decide +kernel
theorem dX7_calls_351 : decode cX7_calls 351 = .ok (.invokevirtual 136, 3) := by decide +kernel
theorem dX7_calls_354 : decode cX7_calls 354 = .ok (.iload_n 2, 1) := by decide +kernel
theorem dX7_calls_355 : decode cX7_calls 355 = .ok (.bipush 22, 2) := by decide +kernel
theorem dX7_calls_357 : decode cX7_calls 357 = .ok (.if_icmp .ne 11, 3) := by decide +kernel
theorem dX7_calls_360 : decode cX7_calls 360 = .ok (.aload_n 0, 1) := by decide +kernel
theorem dX7_calls_361 : decode cX7_calls 361 = .ok (.iload_n 1, 1) := by decide +kernel
theorem dX7_calls_362 : decode cX7_calls 362 = .ok (.iload 7, 2) := by decide +kernel
theorem dX7_calls_364 : decode cX7_calls 364 = .ok (.iconst 1, 1) := by decide +kernel
theorem dX7_calls_365 : decode cX7_calls 365 = .ok (.invokevirtual 160, 3) := by decide +kernel
theorem dX7_calls_368 : decode cX7_calls 368 = .ok (.aload_n 0, 1) := by decide +kernel
theorem dX7_calls_369 : decode cX7_calls 369 = .ok (.iload 4, 2) := by decide +kernel
theorem dX7_calls_371 : decode cX7_calls 371 = .ok (.iconst 2, 1) := by decide +kernel
theorem dX7_calls_372 : decode cX7_calls 372 = .ok (.iload 7, 2) := by decide +kernel
theorem dX7_calls_374 : decode cX7_calls 374 = .ok (.iconst 1, 1) := by decide +kernel
theorem dX7_calls_375 : decode cX7_calls 375 = .ok (.iadd, 1) := by decide +kernel
theorem dX7_calls_376 : decode cX7_calls 376 = .ok (.invokevirtual 124, 3) := by decide +kernel
theorem dX7_calls_379 : decode cX7_calls 379 = .ok (.goto 3, 3) := by decide +kernel
theorem dX7_calls_382 : decode cX7_calls 382 = .ok (.return_, 1) := by decide +kernel
theorem dX7_mails_0 : decode cX7_mails 0 = .ok (.aload_n 0, 1) := by decide +kernel
theorem dX7_mails_1 : decode cX7_mails 1 = .ok (.getfield 48, 3) := by decide +kernel
theorem dX7_mails_4 : decode cX7_mails 4 = .ok (.iload_n 1, 1) := by decide +kernel
theorem dX7_mails_5 : decode cX7_mails 5 = .ok (.iaload, 1) := by decide +kernel
theorem dX7_mails_6 : decode cX7_mails 6 = .ok (.aload_n 0, 1) := by decide +kernel
theorem dX7_mails_7 : decode cX7_mails 7 = .ok (.getfield 45, 3) := by decide +kernel
theorem dX7_mails_10 : decode cX7_mails 10 = .ok (.iload_n 1, 1) := by decide +kernel
theorem dX7_mails_11 : decode cX7_mails 11 = .ok (.iaload, 1) := by decide +kernel
theorem dX7_mails_12 : decode cX7_mails 12 = .ok (.if_icmp .ge 7, 3) := by decide +kernel
theorem dX7_mails_15 : decode cX7_mails 15 = .ok (.iconst 1, 1) := by decide +kernel
theorem dX7_mails_16 : decode cX7_mails 16 = .ok (.goto 4, 3) := by decide +kernel
theorem dX7_mails_19 : decode cX7_mails 19 = .ok (.iconst 0, 1) := by decide +kernel
theorem dX7_mails_20 : decode cX7_mails 20 = .ok (.istore 7, 2) := by decide +kernel
theorem dX7_mails_22 : decode cX7_mails 22 = .ok (.sipush 480, 3) := by decide +kernel
theorem dX7_mails_25 : decode cX7_mails 25 = .ok (.bipush 40, 2) := by decide +kernel
theorem dX7_mails_27 : decode cX7_mails 27 = .ok (.iload_n 1, 1) := by decide +kernel
theorem dX7_mails_28 : decode cX7_mails 28 = .ok (.imul, 1) := by decide +kernel
theorem dX7_mails_29 : decode cX7_mails 29 = .ok (.iadd, 1) := by decide +kernel
theorem dX7_mails_30 : decode cX7_mails 30 = .ok (.aload_n 0, 1) := by decide +kernel
theorem dX7_mails_31 : decode cX7_mails 31 = .ok (.getfield 48, 3) := by decide +kernel
theorem dX7_mails_34 : decode cX7_mails 34 = .ok (.iload_n 1, 1) := by decide +kernel
theorem dX7_mails_35 : decode cX7_mails 35 = .ok (.iaload, 1) := by decide +kernel
theorem dX7_mails_36 : decode cX7_mails 36 = .ok (.iadd, 1) := by decide +kernel
theorem dX7_mails_37 : decode cX7_mails 37 = .ok (.istore 8, 2) := by decide +kernel
theorem dX7_mails_39 : decode cX7_mails 39 = .ok (.iload_n 2, 1) := by decide +kernel
theorem dX7_mails_40 : decode cX7_mails 40 = .ok (.tableswitch 277 23 27 #[36, 118, 145, 229, 251], 36) := by decide +kernel
theorem dX7_mails_76 : decode cX7_mails 76 = .ok (.aload_n 0, 1) := by decide +kernel
theorem dX7_mails_77 : decode cX7_mails 77 = .ok (.iload_n 1, 1) := by decide +kernel
theorem dX7_mails_78 : decode cX7_mails 78 = .ok (.aload_n 0, 1) := by decide +kernel
theorem dX7_mails_79 : decode cX7_mails 79 = .ok (.iload_n 3, 1) := by decide +kernel
theorem dX7_mails_80 : decode cX7_mails 80 = .ok (.iconst 2, 1) := by decide +kernel
theorem dX7_mails_81 : decode cX7_mails 81 = .ok (.invokevirtual 178, 3) := by decide +kernel
theorem dX7_mails_84 : decode cX7_mails 84 = .ok (.ifCond .ne 16, 3) := by decide +kernel
theorem dX7_mails_87 : decode cX7_mails 87 = .ok (.aload_n 0, 1) := by decide +kernel
theorem dX7_mails_88 : decode cX7_mails 88 = .ok (.iload_n 3, 1) := by decide +kernel
theorem dX7_mails_89 : decode cX7_mails 89 = .ok (.iconst 1, 1) := by decide +kernel
theorem dX7_mails_90 : decode cX7_mails 90 = .ok (.invokevirtual 178, 3) := by decide +kernel
theorem dX7_mails_93 : decode cX7_mails 93 = .ok (.ifCond .ne 7, 3) := by decide +kernel
theorem dX7_mails_96 : decode cX7_mails 96 = .ok (.iconst 1, 1) := by decide +kernel
theorem dX7_mails_97 : decode cX7_mails 97 = .ok (.goto 4, 3) := by decide +kernel
theorem dX7_mails_100 : decode cX7_mails 100 = .ok (.iconst 0, 1) := by decide +kernel
theorem dX7_mails_101 : decode cX7_mails 101 = .ok (.invokevirtual 202, 3) := by decide +kernel
theorem dX7_mails_104 : decode cX7_mails 104 = .ok (.ifCond .eq 6, 3) := by decide +kernel
theorem dX7_mails_107 : decode cX7_mails 107 = .ok (.goto 344, 3) := by decide +kernel
theorem dX7_mails_110 : decode cX7_mails 110 = .ok (.aload_n 0, 1) := by decide +kernel
theorem dX7_mails_111 : decode cX7_mails 111 = .ok (.iload_n 3, 1) := by decide +kernel
theorem dX7_mails_112 : decode cX7_mails 112 = .ok (.iconst 2, 1) := by decide +kernel
theorem dX7_mails_113 : decode cX7_mails 113 = .ok (.invokevirtual 178, 3) := by decide +kernel
theorem dX7_mails_116 : decode cX7_mails 116 = .ok (.ifCond .eq 13, 3) := by decide +kernel
theorem dX7_mails_119 : decode cX7_mails 119 = .ok (.aload_n 0, 1) := by decide +kernel
theorem dX7_mails_120 : decode cX7_mails 120 = .ok (.iload_n 3, 1) := by decide +kernel
theorem dX7_mails_121 : decode cX7_mails 121 = .ok (.invokevirtual 181, 3) := by decide +kernel
theorem dX7_mails_124 : decode cX7_mails 124 = .ok (.iconst 1, 1) := by decide +kernel
theorem dX7_mails_125 : decode cX7_mails 125 = .ok (.isub, 1) := by decide +kernel
theorem dX7_mails_126 : decode cX7_mails 126 = .ok (.goto 12, 3) := by decide +kernel
theorem dX7_mails_129 : decode cX7_mails 129 = .ok (.aload_n 0, 1) := by decide +kernel
theorem dX7_mails_130 : decode cX7_mails 130 = .ok (.aload_n 0, 1) := by decide +kernel
theorem dX7_mails_131 : decode cX7_mails 131 = .ok (.iload_n 3, 1) := by decide +kernel
theorem dX7_mails_132 : decode cX7_mails 132 = .ok (.invokevirtual 181, 3) := by decide +kernel
theorem dX7_mails_135 : decode cX7_mails 135 = .ok (.invokevirtual 245, 3) := by decide +kernel
theorem dX7_mails_138 : decode cX7_mails 138 = .ok (.istore 9, 2) := by decide +kernel
theorem dX7_mails_140 : decode cX7_mails 140 = .ok (.iload 9, 2) := by decide +kernel
theorem dX7_mails_142 : decode cX7_mails 142 = .ok (.iconst (-1), 1) := by decide +kernel
theorem dX7_mails_143 : decode cX7_mails 143 = .ok (.if_icmp .eq 308, 3) := by decide +kernel
theorem dX7_mails_146 : decode cX7_mails 146 = .ok (.aload_n 0, 1) := by decide +kernel
theorem dX7_mails_147 : decode cX7_mails 147 = .ok (.iload 9, 2) := by decide +kernel
theorem dX7_mails_149 : decode cX7_mails 149 = .ok (.iload 4, 2) := by decide +kernel
theorem dX7_mails_151 : decode cX7_mails 151 = .ok (.invokevirtual 147, 3) := by decide +kernel
theorem dX7_mails_154 : decode cX7_mails 154 = .ok (.pop, 1) := by decide +kernel
theorem dX7_mails_155 : decode cX7_mails 155 = .ok (.goto 296, 3) := by decide +kernel
theorem dX7_mails_158 : decode cX7_mails 158 = .ok (.iload 7, 2) := by decide +kernel
theorem dX7_mails_160 : decode cX7_mails 160 = .ok (.ifCond .eq 14, 3) := by decide +kernel
theorem dX7_mails_163 : decode cX7_mails 163 = .ok (.aload_n 0, 1) := by decide +kernel
theorem dX7_mails_164 : decode cX7_mails 164 = .ok (.iload 4, 2) := by decide +kernel
theorem dX7_mails_166 : decode cX7_mails 166 = .ok (.iload 8, 2) := by decide +kernel
theorem dX7_mails_168 : decode cX7_mails 168 = .ok (.invokevirtual 136, 3) := by decide +kernel
theorem dX7_mails_171 : decode cX7_mails 171 = .ok (.goto 280, 3) := by decide +kernel
theorem dX7_mails_174 : decode cX7_mails 174 = .ok (.aload_n 0, 1) := by decide +kernel
theorem dX7_mails_175 : decode cX7_mails 175 = .ok (.getfield 32, 3) := by decide +kernel
theorem dX7_mails_178 : decode cX7_mails 178 = .ok (.iload_n 1, 1) := by decide +kernel
theorem dX7_mails_179 : decode cX7_mails 179 = .ok (.iload 6, 2) := by decide +kernel
theorem dX7_mails_181 : decode cX7_mails 181 = .ok (.iastore, 1) := by decide +kernel
theorem dX7_mails_182 : decode cX7_mails 182 = .ok (.goto 269, 3) := by decide +kernel
theorem dX7_mails_185 : decode cX7_mails 185 = .ok (.aload_n 0, 1) := by decide +kernel
theorem dX7_mails_186 : decode cX7_mails 186 = .ok (.getfield 48, 3) := by decide +kernel
theorem dX7_mails_189 : decode cX7_mails 189 = .ok (.iload_n 1, 1) := by decide +kernel
theorem dX7_mails_190 : decode cX7_mails 190 = .ok (.iaload, 1) := by decide +kernel
theorem dX7_mails_191 : decode cX7_mails 191 = .ok (.istore 9, 2) := by decide +kernel
theorem dX7_mails_193 : decode cX7_mails 193 = .ok (.iload 9, 2) := by decide +kernel
theorem dX7_mails_195 : decode cX7_mails 195 = .ok (.iconst 1, 1) := by decide +kernel
theorem dX7_mails_196 : decode cX7_mails 196 = .ok (.iadd, 1) := by decide +kernel
theorem dX7_mails_197 : decode cX7_mails 197 = .ok (.aload_n 0, 1) := by decide +kernel
theorem dX7_mails_198 : decode cX7_mails 198 = .ok (.getfield 45, 3) := by decide +kernel
theorem dX7_mails_201 : decode cX7_mails 201 = .ok (.iload_n 1, 1) := by decide +kernel
theorem dX7_mails_202 : decode cX7_mails 202 = .ok (.iaload, 1) := by decide +kernel
theorem dX7_mails_203 : decode cX7_mails 203 = .ok (.if_icmp .ge 37, 3) := by decide +kernel
theorem dX7_mails_206 : decode cX7_mails 206 = .ok (.aload_n 0, 1) := by decide +kernel
theorem dX7_mails_207 : decode cX7_mails 207 = .ok (.sipush 480, 3) := by decide +kernel
theorem dX7_mails_210 : decode cX7_mails 210 = .ok (.bipush 40, 2) := by decide +kernel
theorem dX7_mails_212 : decode cX7_mails 212 = .ok (.iload_n 1, 1) := by decide +kernel
theorem dX7_mails_213 : decode cX7_mails 213 = .ok (.imul, 1) := by decide +kernel
theorem dX7_mails_214 : decode cX7_mails 214 = .ok (.iadd, 1) := by decide +kernel
theorem dX7_mails_215 : decode cX7_mails 215 = .ok (.iload 9, 2) := by decide +kernel
theorem dX7_mails_217 : decode cX7_mails 217 = .ok (.iadd, 1) := by decide +kernel
theorem dX7_mails_218 : decode cX7_mails 218 = .ok (.sipush 480, 3) := by decide +kernel
theorem dX7_mails_221 : decode cX7_mails 221 = .ok (.bipush 40, 2) := by decide +kernel
theorem dX7_mails_223 : decode cX7_mails 223 = .ok (.iload_n 1, 1) := by decide +kernel
theorem dX7_mails_224 : decode cX7_mails 224 = .ok (.imul, 1) := by decide +kernel
theorem dX7_mails_225 : decode cX7_mails 225 = .ok (.iadd, 1) := by decide +kernel
theorem dX7_mails_226 : decode cX7_mails 226 = .ok (.iload 9, 2) := by decide +kernel
theorem dX7_mails_228 : decode cX7_mails 228 = .ok (.iadd, 1) := by decide +kernel
theorem dX7_mails_229 : decode cX7_mails 229 = .ok (.iconst 1, 1) := by decide +kernel
theorem dX7_mails_230 : decode cX7_mails 230 = .ok (.iadd, 1) := by decide +kernel
theorem dX7_mails_231 : decode cX7_mails 231 = .ok (.invokevirtual 136, 3) := by decide +kernel
theorem dX7_mails_234 : decode cX7_mails 234 = .ok (.iinc 9 1, 3) := by decide +kernel
theorem dX7_mails_237 : decode cX7_mails 237 = .ok (.goto (-44), 3) := by decide +kernel
theorem dX7_mails_240 : decode cX7_mails 240 = .ok (.aload_n 0, 1) := by decide +kernel
theorem dX7_mails_241 : decode cX7_mails 241 = .ok (.getfield 45, 3) := by decide +kernel
theorem dX7_mails_244 : decode cX7_mails 244 = .ok (.iload_n 1, 1) := by decide +kernel
theorem dX7_mails_245 : decode cX7_mails 245 = .ok (.dup2, 1) := by decide +kernel
theorem dX7_mails_246 : decode cX7_mails 246 = .ok (.iaload, 1) := by decide +kernel
theorem dX7_mails_247 : decode cX7_mails 247 = .ok (.iload 7, 2) := by decide +kernel
theorem dX7_mails_249 : decode cX7_mails 249 = .ok (.ifCond .eq 7, 3) := by decide +kernel
theorem dX7_mails_252 : decode cX7_mails 252 = .ok (.iconst 1, 1) := by decide +kernel
theorem dX7_mails_253 : decode cX7_mails 253 = .ok (.goto 4, 3) := by decide +kernel
theorem dX7_mails_256 : decode cX7_mails 256 = .ok (.iconst 0, 1) := by decide +kernel
theorem dX7_mails_257 : decode cX7_mails 257 = .ok (.isub, 1) := by decide +kernel
theorem dX7_mails_258 : decode cX7_mails 258 = .ok (.iastore, 1) := by decide +kernel
theorem dX7_mails_259 : decode cX7_mails 259 = .ok (.aload_n 0, 1) := by decide +kernel
theorem dX7_mails_260 : decode cX7_mails 260 = .ok (.getfield 48, 3) := by decide +kernel
theorem dX7_mails_263 : decode cX7_mails 263 = .ok (.iload_n 1, 1) := by decide +kernel
theorem dX7_mails_264 : decode cX7_mails 264 = .ok (.iconst 0, 1) := by decide +kernel
theorem dX7_mails_265 : decode cX7_mails 265 = .ok (.iastore, 1) := by decide +kernel
theorem dX7_mails_266 : decode cX7_mails 266 = .ok (.goto 185, 3) := by decide +kernel
theorem dX7_mails_269 : decode cX7_mails 269 = .ok (.aload_n 0, 1) := by decide +kernel
theorem dX7_mails_270 : decode cX7_mails 270 = .ok (.getfield 48, 3) := by decide +kernel
theorem dX7_mails_273 : decode cX7_mails 273 = .ok (.iload_n 1, 1) := by decide +kernel
theorem dX7_mails_274 : decode cX7_mails 274 = .ok (.dup2, 1) := by decide +kernel
theorem dX7_mails_275 : decode cX7_mails 275 = .ok (.iaload, 1) := by decide +kernel
theorem dX7_mails_276 : decode cX7_mails 276 = .ok (.iload 7, 2) := by decide +kernel
theorem dX7_mails_278 : decode cX7_mails 278 = .ok (.ifCond .eq 7, 3) := by decide +kernel
theorem dX7_mails_281 : decode cX7_mails 281 = .ok (.iconst 1, 1) := by decide +kernel
theorem dX7_mails_282 : decode cX7_mails 282 = .ok (.goto 4, 3) := by decide +kernel
theorem dX7_mails_285 : decode cX7_mails 285 = .ok (.iconst 0, 1) := by decide +kernel
theorem dX7_mails_286 : decode cX7_mails 286 = .ok (.iadd, 1) := by decide +kernel
theorem dX7_mails_287 : decode cX7_mails 287 = .ok (.iastore, 1) := by decide +kernel
theorem dX7_mails_288 : decode cX7_mails 288 = .ok (.goto 163, 3) := by decide +kernel
theorem dX7_mails_291 : decode cX7_mails 291 = .ok (.iload 7, 2) := by decide +kernel
theorem dX7_mails_293 : decode cX7_mails 293 = .ok (.ifCond .eq 14, 3) := by decide +kernel
theorem dX7_mails_296 : decode cX7_mails 296 = .ok (.aload_n 0, 1) := by decide +kernel
theorem dX7_mails_297 : decode cX7_mails 297 = .ok (.getfield 32, 3) := by decide +kernel
theorem dX7_mails_300 : decode cX7_mails 300 = .ok (.iload_n 1, 1) := by decide +kernel
theorem dX7_mails_301 : decode cX7_mails 301 = .ok (.iload 6, 2) := by decide +kernel
theorem dX7_mails_303 : decode cX7_mails 303 = .ok (.iastore, 1) := by decide +kernel
theorem dX7_mails_304 : decode cX7_mails 304 = .ok (.goto 147, 3) := by decide +kernel
theorem dX7_mails_307 : decode cX7_mails 307 = .ok (.aload_n 0, 1) := by decide +kernel
theorem dX7_mails_308 : decode cX7_mails 308 = .ok (.iload_n 1, 1) := by decide +kernel
theorem dX7_mails_309 : decode cX7_mails 309 = .ok (.iload 6, 2) := by decide +kernel
theorem dX7_mails_311 : decode cX7_mails 311 = .ok (.invokevirtual 248, 3) := by decide +kernel
theorem dX7_mails_314 : decode cX7_mails 314 = .ok (.goto 137, 3) := by decide +kernel
theorem dX7_mails_317 : decode cX7_mails 317 = .ok (.iload 7, 2) := by decide +kernel
theorem dX7_mails_319 : decode cX7_mails 319 = .ok (.ifCond .eq 14, 3) := by decide +kernel
theorem dX7_mails_322 : decode cX7_mails 322 = .ok (.aload_n 0, 1) := by decide +kernel
theorem dX7_mails_323 : decode cX7_mails 323 = .ok (.getfield 32, 3) := by decide +kernel
theorem dX7_mails_326 : decode cX7_mails 326 = .ok (.iload_n 1, 1) := by decide +kernel
theorem dX7_mails_327 : decode cX7_mails 327 = .ok (.iload 6, 2) := by decide +kernel
theorem dX7_mails_329 : decode cX7_mails 329 = .ok (.iastore, 1) := by decide +kernel
theorem dX7_mails_330 : decode cX7_mails 330 = .ok (.goto 121, 3) := by decide +kernel
theorem dX7_mails_333 : decode cX7_mails 333 = .ok (.aload_n 0, 1) := by decide +kernel
theorem dX7_mails_334 : decode cX7_mails 334 = .ok (.iload_n 1, 1) := by decide +kernel
theorem dX7_mails_335 : decode cX7_mails 335 = .ok (.aload_n 0, 1) := by decide +kernel
theorem dX7_mails_336 : decode cX7_mails 336 = .ok (.iload 4, 2) := by decide +kernel
theorem dX7_mails_338 : decode cX7_mails 338 = .ok (.iconst 0, 1) := by decide +kernel
theorem dX7_mails_339 : decode cX7_mails 339 = .ok (.invokevirtual 178, 3) := by decide +kernel
theorem dX7_mails_342 : decode cX7_mails 342 = .ok (.ifCond .ne 7, 3) := by decide +kernel
theorem dX7_mails_345 : decode cX7_mails 345 = .ok (.iconst 1, 1) := by decide +kernel
theorem dX7_mails_346 : decode cX7_mails 346 = .ok (.goto 4, 3) := by decide +kernel
theorem dX7_mails_349 : decode cX7_mails 349 = .ok (.iconst 0, 1) := by decide +kernel
theorem dX7_mails_350 : decode cX7_mails 350 = .ok (.invokevirtual 202, 3) := by decide +kernel
theorem dX7_mails_353 : decode cX7_mails 353 = .ok (.ifCond .eq 6, 3) := by decide +kernel
theorem dX7_mails_356 : decode cX7_mails 356 = .ok (.goto 95, 3) := by decide +kernel
theorem dX7_mails_359 : decode cX7_mails 359 = .ok (.aload_n 0, 1) := by decide +kernel
theorem dX7_mails_360 : decode cX7_mails 360 = .ok (.iload 4, 2) := by decide +kernel
theorem dX7_mails_362 : decode cX7_mails 362 = .ok (.invokevirtual 181, 3) := by decide +kernel
theorem dX7_mails_365 : decode cX7_mails 365 = .ok (.iconst 1, 1) := by decide +kernel
theorem dX7_mails_366 : decode cX7_mails 366 = .ok (.if_icmp .ge 21, 3) := by decide +kernel
theorem dX7_mails_369 : decode cX7_mails 369 = .ok (.aload_n 0, 1) := by decide +kernel
theorem dX7_mails_370 : decode cX7_mails 370 = .ok (.getfield 32, 3) := by decide +kernel
theorem dX7_mails_373 : decode cX7_mails 373 = .ok (.iload_n 1, 1) := by decide +kernel
theorem dX7_mails_374 : decode cX7_mails 374 = .ok (.iload 5, 2) := by decide +kernel
theorem dX7_mails_376 : decode cX7_mails 376 = .ok (.iastore, 1) := by decide +kernel
theorem dX7_mails_377 : decode cX7_mails 377 = .ok (.aload_n 0, 1) := by decide +kernel
theorem dX7_mails_378 : decode cX7_mails 378 = .ok (.getfield 48, 3) := by decide +kernel
theorem dX7_mails_381 : decode cX7_mails 381 = .ok (.iload_n 1, 1) := by decide +kernel
theorem dX7_mails_382 : decode cX7_mails 382 = .ok (.iconst 0, 1) := by decide +kernel
theorem dX7_mails_383 : decode cX7_mails 383 = .ok (.iastore, 1) := by decide +kernel
theorem dX7_mails_384 : decode cX7_mails 384 = .ok (.goto 67, 3) := by decide +kernel
theorem dX7_mails_387 : decode cX7_mails 387 = .ok (.aload_n 0, 1) := by decide +kernel
theorem dX7_mails_388 : decode cX7_mails 388 = .ok (.iload_n 1, 1) := by decide +kernel
theorem dX7_mails_389 : decode cX7_mails 389 = .ok (.iload 6, 2) := by decide +kernel
theorem dX7_mails_391 : decode cX7_mails 391 = .ok (.invokevirtual 248, 3) := by decide +kernel
theorem dX7_mails_394 : decode cX7_mails 394 = .ok (.aload_n 0, 1) := by decide +kernel
theorem dX7_mails_395 : decode cX7_mails 395 = .ok (.getfield 72, 3) := by decide +kernel
theorem dX7_mails_398 : decode cX7_mails 398 = .ok (.iload_n 1, 1) := by decide +kernel
theorem dX7_mails_399 : decode cX7_mails 399 = .ok (.iload 5, 2) := by decide +kernel
theorem dX7_mails_401 : decode cX7_mails 401 = .ok (.iastore, 1) := by decide +kernel
theorem dX7_mails_402 : decode cX7_mails 402 = .ok (.aload_n 0, 1) := by decide +kernel
theorem dX7_mails_403 : decode cX7_mails 403 = .ok (.getfield 251, 3) := by decide +kernel
theorem dX7_mails_406 : decode cX7_mails 406 = .ok (.i2l, 1) := by decide +kernel
theorem dX7_mails_407 : decode cX7_mails 407 = .ok (.aload_n 0, 1) := by decide +kernel
theorem dX7_mails_408 : decode cX7_mails 408 = .ok (.iload 4, 2) := by decide +kernel
theorem dX7_mails_410 : decode cX7_mails 410 = .ok (.invokevirtual 181, 3) := by decide +kernel
theorem dX7_mails_413 : decode cX7_mails 413 = .ok (.i2l, 1) := by decide +kernel
theorem dX7_mails_414 : decode cX7_mails 414 = .ok (.ladd, 1) := by decide +kernel
theorem dX7_mails_415 : decode cX7_mails 415 = .ok (.lstore 9, 2) := by decide +kernel
theorem dX7_mails_417 : decode cX7_mails 417 = .ok (.aload_n 0, 1) := by decide +kernel
theorem dX7_mails_418 : decode cX7_mails 418 = .ok (.getfield 75, 3) := by decide +kernel
theorem dX7_mails_421 : decode cX7_mails 421 = .ok (.iload_n 1, 1) := by decide +kernel
theorem dX7_mails_422 : decode cX7_mails 422 = .ok (.lload 9, 2) := by decide +kernel
theorem dX7_mails_424 : decode cX7_mails 424 = .ok (.ldc2_w 254, 3) := by decide +kernel
theorem dX7_mails_427 : decode cX7_mails 427 = .ok (.lcmp, 1) := by decide +kernel
theorem dX7_mails_428 : decode cX7_mails 428 = .ok (.ifCond .le 9, 3) := by decide +kernel
theorem dX7_mails_431 : decode cX7_mails 431 = .ok (.ldc_w 256, 3) := by decide +kernel
theorem dX7_mails_434 : decode cX7_mails 434 = .ok (.goto 6, 3) := by decide +kernel
theorem dX7_mails_437 : decode cX7_mails 437 = .ok (.lload 9, 2) := by decide +kernel
theorem dX7_mails_439 : decode cX7_mails 439 = .ok (.l2i, 1) := by decide +kernel
theorem dX7_mails_440 : decode cX7_mails 440 = .ok (.iastore, 1) := by decide +kernel
theorem dX7_mails_441 : decode cX7_mails 441 = .ok (.aload_n 0, 1) := by decide +kernel
theorem dX7_mails_442 : decode cX7_mails 442 = .ok (.getfield 78, 3) := by decide +kernel
theorem dX7_mails_445 : decode cX7_mails 445 = .ok (.iload_n 1, 1) := by decide +kernel
theorem dX7_mails_446 : decode cX7_mails 446 = .ok (.iconst 1, 1) := by decide +kernel
theorem dX7_mails_447 : decode cX7_mails 447 = .ok (.bastore, 1) := by decide +kernel
theorem dX7_mails_448 : decode cX7_mails 448 = .ok (.goto 3, 3) := by decide +kernel
theorem dX7_mails_451 : decode cX7_mails 451 = .ok (.return_, 1) := by decide +kernel
theorem dX7_others_0 : decode cX7_others 0 = .ok (.iload_n 2, 1) := by decide +kernel
theorem dX7_others_1 : decode cX7_others 1 = .ok (.tableswitch 486 29 35 #[43, 43, 150, 311, 366, 384, 439], 43) := by decide +kernel
theorem dX7_others_44 : decode cX7_others 44 = .ok (.aload_n 0, 1) := by decide +kernel
theorem dX7_others_45 : decode cX7_others 45 = .ok (.iload_n 1, 1) := by decide +kernel
theorem dX7_others_46 : decode cX7_others 46 = .ok (.aload_n 0, 1) := by decide +kernel
theorem dX7_others_47 : decode cX7_others 47 = .ok (.iload 5, 2) := by decide +kernel
theorem dX7_others_49 : decode cX7_others 49 = .ok (.iconst 2, 1) := by decide +kernel
theorem dX7_others_50 : decode cX7_others 50 = .ok (.invokevirtual 178, 3) := by decide +kernel
theorem dX7_others_53 : decode cX7_others 53 = .ok (.ifCond .ne 7, 3) := by decide +kernel
theorem dX7_others_56 : decode cX7_others 56 = .ok (.iconst 1, 1) := by decide +kernel
theorem dX7_others_57 : decode cX7_others 57 = .ok (.goto 4, 3) := by decide +kernel
theorem dX7_others_60 : decode cX7_others 60 = .ok (.iconst 0, 1) := by decide +kernel
theorem dX7_others_61 : decode cX7_others 61 = .ok (.invokevirtual 202, 3) := by decide +kernel
theorem dX7_others_64 : decode cX7_others 64 = .ok (.ifCond .eq 6, 3) := by decide +kernel
theorem dX7_others_67 : decode cX7_others 67 = .ok (.goto 483, 3) := by decide +kernel
theorem dX7_others_70 : decode cX7_others 70 = .ok (.aload_n 0, 1) := by decide +kernel
theorem dX7_others_71 : decode cX7_others 71 = .ok (.iload 5, 2) := by decide +kernel
theorem dX7_others_73 : decode cX7_others 73 = .ok (.invokevirtual 181, 3) := by decide +kernel
theorem dX7_others_76 : decode cX7_others 76 = .ok (.iconst 1, 1) := by decide +kernel
theorem dX7_others_77 : decode cX7_others 77 = .ok (.isub, 1) := by decide +kernel
theorem dX7_others_78 : decode cX7_others 78 = .ok (.istore 7, 2) := by decide +kernel
theorem dX7_others_80 : decode cX7_others 80 = .ok (.iload 7, 2) := by decide +kernel
theorem dX7_others_82 : decode cX7_others 82 = .ok (.iload_n 1, 1) := by decide +kernel
theorem dX7_others_83 : decode cX7_others 83 = .ok (.if_icmp .ne 6, 3) := by decide +kernel
theorem dX7_others_86 : decode cX7_others 86 = .ok (.goto 464, 3) := by decide +kernel
theorem dX7_others_89 : decode cX7_others 89 = .ok (.iload_n 2, 1) := by decide +kernel
theorem dX7_others_90 : decode cX7_others 90 = .ok (.bipush 30, 2) := by decide +kernel
theorem dX7_others_92 : decode cX7_others 92 = .ok (.if_icmp .ne 14, 3) := by decide +kernel
theorem dX7_others_95 : decode cX7_others 95 = .ok (.aload_n 0, 1) := by decide +kernel
theorem dX7_others_96 : decode cX7_others 96 = .ok (.iload_n 1, 1) := by decide +kernel
theorem dX7_others_97 : decode cX7_others 97 = .ok (.iload 7, 2) := by decide +kernel
theorem dX7_others_99 : decode cX7_others 99 = .ok (.iconst 0, 1) := by decide +kernel
theorem dX7_others_100 : decode cX7_others 100 = .ok (.invokevirtual 160, 3) := by decide +kernel
theorem dX7_others_103 : decode cX7_others 103 = .ok (.goto 447, 3) := by decide +kernel
theorem dX7_others_106 : decode cX7_others 106 = .ok (.aload_n 0, 1) := by decide +kernel
theorem dX7_others_107 : decode cX7_others 107 = .ok (.getfield 29, 3) := by decide +kernel
theorem dX7_others_110 : decode cX7_others 110 = .ok (.iload 7, 2) := by decide +kernel
theorem dX7_others_112 : decode cX7_others 112 = .ok (.iaload, 1) := by decide +kernel
theorem dX7_others_113 : decode cX7_others 113 = .ok (.iconst 2, 1) := by decide +kernel
theorem dX7_others_114 : decode cX7_others 114 = .ok (.if_icmp .eq 14, 3) := by decide +kernel
theorem dX7_others_117 : decode cX7_others 117 = .ok (.aload_n 0, 1) := by decide +kernel
theorem dX7_others_118 : decode cX7_others 118 = .ok (.iload_n 1, 1) := by decide +kernel
theorem dX7_others_119 : decode cX7_others 119 = .ok (.iload 7, 2) := by decide +kernel
theorem dX7_others_121 : decode cX7_others 121 = .ok (.iconst 1, 1) := by decide +kernel
theorem dX7_others_122 : decode cX7_others 122 = .ok (.invokevirtual 160, 3) := by decide +kernel
theorem dX7_others_125 : decode cX7_others 125 = .ok (.goto 425, 3) := by decide +kernel
theorem dX7_others_128 : decode cX7_others 128 = .ok (.aload_n 0, 1) := by decide +kernel
theorem dX7_others_129 : decode cX7_others 129 = .ok (.sipush 2944, 3) := by decide +kernel
theorem dX7_others_132 : decode cX7_others 132 = .ok (.iconst 1, 1) := by decide +kernel
theorem dX7_others_133 : decode cX7_others 133 = .ok (.iconst 3, 1) := by decide +kernel
theorem dX7_others_134 : decode cX7_others 134 = .ok (.invokevirtual 124, 3) := by decide +kernel
theorem dX7_others_137 : decode cX7_others 137 = .ok (.aload_n 0, 1) := by decide +kernel
theorem dX7_others_138 : decode cX7_others 138 = .ok (.iload_n 1, 1) := by decide +kernel
theorem dX7_others_139 : decode cX7_others 139 = .ok (.iload 7, 2) := by decide +kernel
theorem dX7_others_141 : decode cX7_others 141 = .ok (.sipush 2944, 3) := by decide +kernel
theorem dX7_others_144 : decode cX7_others 144 = .ok (.iconst 0, 1) := by decide +kernel
theorem dX7_others_145 : decode cX7_others 145 = .ok (.invokevirtual 164, 3) := by decide +kernel
theorem dX7_others_148 : decode cX7_others 148 = .ok (.goto 402, 3) := by decide +kernel
theorem dX7_others_151 : decode cX7_others 151 = .ok (.aload_n 0, 1) := by decide +kernel
theorem dX7_others_152 : decode cX7_others 152 = .ok (.iload_n 1, 1) := by decide +kernel
theorem dX7_others_153 : decode cX7_others 153 = .ok (.aload_n 0, 1) := by decide +kernel
theorem dX7_others_154 : decode cX7_others 154 = .ok (.iload 6, 2) := by decide +kernel
theorem dX7_others_156 : decode cX7_others 156 = .ok (.iconst 2, 1) := by decide +kernel
theorem dX7_others_157 : decode cX7_others 157 = .ok (.invokevirtual 178, 3) := by decide +kernel
theorem dX7_others_160 : decode cX7_others 160 = .ok (.ifCond .ne 7, 3) := by decide +kernel
theorem dX7_others_163 : decode cX7_others 163 = .ok (.iconst 1, 1) := by decide +kernel
theorem dX7_others_164 : decode cX7_others 164 = .ok (.goto 4, 3) := by decide +kernel
theorem dX7_others_167 : decode cX7_others 167 = .ok (.iconst 0, 1) := by decide +kernel
theorem dX7_others_168 : decode cX7_others 168 = .ok (.invokevirtual 202, 3) := by decide +kernel
theorem dX7_others_171 : decode cX7_others 171 = .ok (.ifCond .eq 6, 3) := by decide +kernel
theorem dX7_others_174 : decode cX7_others 174 = .ok (.goto 376, 3) := by decide +kernel
theorem dX7_others_177 : decode cX7_others 177 = .ok (.aload_n 0, 1) := by decide +kernel
theorem dX7_others_178 : decode cX7_others 178 = .ok (.iload 6, 2) := by decide +kernel
theorem dX7_others_180 : decode cX7_others 180 = .ok (.invokevirtual 181, 3) := by decide +kernel
theorem dX7_others_183 : decode cX7_others 183 = .ok (.iconst 1, 1) := by decide +kernel
theorem dX7_others_184 : decode cX7_others 184 = .ok (.isub, 1) := by decide +kernel
theorem dX7_others_185 : decode cX7_others 185 = .ok (.istore 7, 2) := by decide +kernel
theorem dX7_others_187 : decode cX7_others 187 = .ok (.aload_n 0, 1) := by decide +kernel
theorem dX7_others_188 : decode cX7_others 188 = .ok (.getfield 151, 3) := by decide +kernel
theorem dX7_others_191 : decode cX7_others 191 = .ok (.sipush 200, 3) := by decide +kernel
theorem dX7_others_194 : decode cX7_others 194 = .ok (.if_icmp .ne 13, 3) := by decide +kernel
theorem dX7_others_197 : decode cX7_others 197 = .ok (.aload_n 0, 1) := by decide +kernel
theorem dX7_others_198 : decode cX7_others 198 = .ok (.iload_n 1, 1) := by decide +kernel
theorem dX7_others_199 : decode cX7_others 199 = .ok (.iconst 1, 1) := by decide +kernel
theorem dX7_others_200 : decode cX7_others 200 = .ok (.iconst 5, 1) := by decide +kernel
theorem dX7_others_201 : decode cX7_others 201 = .ok (.invokevirtual 193, 3) := by decide +kernel
theorem dX7_others_204 : decode cX7_others 204 = .ok (.goto 346, 3) := by decide +kernel
theorem dX7_others_207 : decode cX7_others 207 = .ok (.aload_n 0, 1) := by decide +kernel
theorem dX7_others_208 : decode cX7_others 208 = .ok (.dup, 1) := by decide +kernel
theorem dX7_others_209 : decode cX7_others 209 = .ok (.getfield 257, 3) := by decide +kernel
theorem dX7_others_212 : decode cX7_others 212 = .ok (.iconst 1, 1) := by decide +kernel
theorem dX7_others_213 : decode cX7_others 213 = .ok (.iadd, 1) := by decide +kernel
theorem dX7_others_214 : decode cX7_others 214 = .ok (.putfield 257, 3) := by decide +kernel
theorem dX7_others_217 : decode cX7_others 217 = .ok (.aload_n 0, 1) := by decide +kernel
theorem dX7_others_218 : decode cX7_others 218 = .ok (.iload 5, 2) := by decide +kernel
theorem dX7_others_220 : decode cX7_others 220 = .ok (.iconst 0, 1) := by decide +kernel
theorem dX7_others_221 : decode cX7_others 221 = .ok (.aload_n 0, 1) := by decide +kernel
theorem dX7_others_222 : decode cX7_others 222 = .ok (.getfield 257, 3) := by decide +kernel
theorem dX7_others_225 : decode cX7_others 225 = .ok (.invokevirtual 124, 3) := by decide +kernel
theorem dX7_others_228 : decode cX7_others 228 = .ok (.aload_n 0, 1) := by decide +kernel
theorem dX7_others_229 : decode cX7_others 229 = .ok (.getfield 29, 3) := by decide +kernel
theorem dX7_others_232 : decode cX7_others 232 = .ok (.iload 7, 2) := by decide +kernel
theorem dX7_others_234 : decode cX7_others 234 = .ok (.iaload, 1) := by decide +kernel
theorem dX7_others_235 : decode cX7_others 235 = .ok (.iconst 2, 1) := by decide +kernel
theorem dX7_others_236 : decode cX7_others 236 = .ok (.if_icmp .eq 50, 3) := by decide +kernel
theorem dX7_others_239 : decode cX7_others 239 = .ok (.aload_n 0, 1) := by decide +kernel
theorem dX7_others_240 : decode cX7_others 240 = .ok (.getfield 87, 3) := by decide +kernel
theorem dX7_others_243 : decode cX7_others 243 = .ok (.aload_n 0, 1) := by decide +kernel
theorem dX7_others_244 : decode cX7_others 244 = .ok (.getfield 151, 3) := by decide +kernel
theorem dX7_others_247 : decode cX7_others 247 = .ok (.iload_n 1, 1) := by decide +kernel
theorem dX7_others_248 : decode cX7_others 248 = .ok (.iastore, 1) := by decide +kernel
theorem dX7_others_249 : decode cX7_others 249 = .ok (.aload_n 0, 1) := by decide +kernel
theorem dX7_others_250 : decode cX7_others 250 = .ok (.getfield 90, 3) := by decide +kernel
theorem dX7_others_253 : decode cX7_others 253 = .ok (.aload_n 0, 1) := by decide +kernel
theorem dX7_others_254 : decode cX7_others 254 = .ok (.getfield 151, 3) := by decide +kernel
theorem dX7_others_257 : decode cX7_others 257 = .ok (.iload 7, 2) := by decide +kernel
theorem dX7_others_259 : decode cX7_others 259 = .ok (.iastore, 1) := by decide +kernel
theorem dX7_others_260 : decode cX7_others 260 = .ok (.aload_n 0, 1) := by decide +kernel
theorem dX7_others_261 : decode cX7_others 261 = .ok (.getfield 93, 3) := by decide +kernel
theorem dX7_others_264 : decode cX7_others 264 = .ok (.aload_n 0, 1) := by decide +kernel
theorem dX7_others_265 : decode cX7_others 265 = .ok (.getfield 151, 3) := by decide +kernel
theorem dX7_others_268 : decode cX7_others 268 = .ok (.aload_n 0, 1) := by decide +kernel
theorem dX7_others_269 : decode cX7_others 269 = .ok (.getfield 257, 3) := by decide +kernel
theorem dX7_others_272 : decode cX7_others 272 = .ok (.iastore, 1) := by decide +kernel
theorem dX7_others_273 : decode cX7_others 273 = .ok (.aload_n 0, 1) := by decide +kernel
theorem dX7_others_274 : decode cX7_others 274 = .ok (.dup, 1) := by decide +kernel
theorem dX7_others_275 : decode cX7_others 275 = .ok (.getfield 151, 3) := by decide +kernel
theorem dX7_others_278 : decode cX7_others 278 = .ok (.iconst 1, 1) := by decide +kernel
theorem dX7_others_279 : decode cX7_others 279 = .ok (.iadd, 1) := by decide +kernel
theorem dX7_others_280 : decode cX7_others 280 = .ok (.putfield 151, 3) := by decide +kernel
theorem dX7_others_283 : decode cX7_others 283 = .ok (.goto 267, 3) := by decide +kernel
theorem dX7_others_286 : decode cX7_others 286 = .ok (.aload_n 0, 1) := by decide +kernel
theorem dX7_others_287 : decode cX7_others 287 = .ok (.sipush 2944, 3) := by decide +kernel
theorem dX7_others_290 : decode cX7_others 290 = .ok (.iconst 1, 1) := by decide +kernel
theorem dX7_others_291 : decode cX7_others 291 = .ok (.iconst 3, 1) := by decide +kernel
theorem dX7_others_292 : decode cX7_others 292 = .ok (.invokevirtual 124, 3) := by decide +kernel
theorem dX7_others_295 : decode cX7_others 295 = .ok (.aload_n 0, 1) := by decide +kernel
theorem dX7_others_296 : decode cX7_others 296 = .ok (.iload_n 1, 1) := by decide +kernel
theorem dX7_others_297 : decode cX7_others 297 = .ok (.aload_n 0, 1) := by decide +kernel
theorem dX7_others_298 : decode cX7_others 298 = .ok (.getfield 257, 3) := by decide +kernel
theorem dX7_others_301 : decode cX7_others 301 = .ok (.iload 7, 2) := by decide +kernel
theorem dX7_others_303 : decode cX7_others 303 = .ok (.sipush 2944, 3) := by decide +kernel
theorem dX7_others_306 : decode cX7_others 306 = .ok (.invokevirtual 168, 3) := by decide +kernel
theorem dX7_others_309 : decode cX7_others 309 = .ok (.goto 241, 3) := by decide +kernel
theorem dX7_others_312 : decode cX7_others 312 = .ok (.aload_n 0, 1) := by decide +kernel
theorem dX7_others_313 : decode cX7_others 313 = .ok (.iload_n 1, 1) := by decide +kernel
theorem dX7_others_314 : decode cX7_others 314 = .ok (.aload_n 0, 1) := by decide +kernel
theorem dX7_others_315 : decode cX7_others 315 = .ok (.iload 5, 2) := by decide +kernel
theorem dX7_others_317 : decode cX7_others 317 = .ok (.iconst 2, 1) := by decide +kernel
theorem dX7_others_318 : decode cX7_others 318 = .ok (.invokevirtual 178, 3) := by decide +kernel
theorem dX7_others_321 : decode cX7_others 321 = .ok (.ifCond .ne 7, 3) := by decide +kernel
theorem dX7_others_324 : decode cX7_others 324 = .ok (.iconst 1, 1) := by decide +kernel
theorem dX7_others_325 : decode cX7_others 325 = .ok (.goto 4, 3) := by decide +kernel
theorem dX7_others_328 : decode cX7_others 328 = .ok (.iconst 0, 1) := by decide +kernel
theorem dX7_others_329 : decode cX7_others 329 = .ok (.invokevirtual 202, 3) := by decide +kernel
theorem dX7_others_332 : decode cX7_others 332 = .ok (.ifCond .eq 6, 3) := by decide +kernel
theorem dX7_others_335 : decode cX7_others 335 = .ok (.goto 215, 3) := by decide +kernel
theorem dX7_others_338 : decode cX7_others 338 = .ok (.aload_n 0, 1) := by decide +kernel
theorem dX7_others_339 : decode cX7_others 339 = .ok (.sipush 2944, 3) := by decide +kernel
theorem dX7_others_342 : decode cX7_others 342 = .ok (.iload 6, 2) := by decide +kernel
theorem dX7_others_344 : decode cX7_others 344 = .ok (.invokevirtual 136, 3) := by decide +kernel
theorem dX7_others_347 : decode cX7_others 347 = .ok (.aload_n 0, 1) := by decide +kernel
theorem dX7_others_348 : decode cX7_others 348 = .ok (.aload_n 0, 1) := by decide +kernel
theorem dX7_others_349 : decode cX7_others 349 = .ok (.iload 5, 2) := by decide +kernel
theorem dX7_others_351 : decode cX7_others 351 = .ok (.invokevirtual 181, 3) := by decide +kernel
theorem dX7_others_354 : decode cX7_others 354 = .ok (.iconst 1, 1) := by decide +kernel
theorem dX7_others_355 : decode cX7_others 355 = .ok (.isub, 1) := by decide +kernel
theorem dX7_others_356 : decode cX7_others 356 = .ok (.iload_n 1, 1) := by decide +kernel
theorem dX7_others_357 : decode cX7_others 357 = .ok (.sipush 2944, 3) := by decide +kernel
theorem dX7_others_360 : decode cX7_others 360 = .ok (.iconst 1, 1) := by decide +kernel
theorem dX7_others_361 : decode cX7_others 361 = .ok (.invokevirtual 164, 3) := by decide +kernel
theorem dX7_others_364 : decode cX7_others 364 = .ok (.goto 186, 3) := by decide +kernel
theorem dX7_others_367 : decode cX7_others 367 = .ok (.aload_n 0, 1) := by decide +kernel
theorem dX7_others_368 : decode cX7_others 368 = .ok (.getfield 41, 3) := by decide +kernel
theorem dX7_others_371 : decode cX7_others 371 = .ok (.iload_n 1, 1) := by decide +kernel
theorem dX7_others_372 : decode cX7_others 372 = .ok (.iload_n 3, 1) := by decide +kernel
theorem dX7_others_373 : decode cX7_others 373 = .ok (.ifCond .eq 7, 3) := by decide +kernel
theorem dX7_others_376 : decode cX7_others 376 = .ok (.iconst 1, 1) := by decide +kernel
theorem dX7_others_377 : decode cX7_others 377 = .ok (.goto 4, 3) := by decide +kernel
end
section
theorem dX7_others_380 : decode cX7_others 380 = .ok (.iconst 0, 1) := by decide +kernel
theorem dX7_others_381 : decode cX7_others 381 = .ok (.bastore, 1) := by decide +kernel
theorem dX7_others_382 : decode cX7_others 382 = .ok (.goto 168, 3) := by decide +kernel
theorem dX7_others_385 : decode cX7_others 385 = .ok (.iload_n 3, 1) := by decide +kernel
theorem dX7_others_386 : decode cX7_others 386 = .ok (.bipush 100, 2) := by decide +kernel
theorem dX7_others_388 : decode cX7_others 388 = .ok (.invokestatic 199, 3) := by decide +kernel
theorem dX7_others_391 : decode cX7_others 391 = .ok (.istore 7, 2) := by decide +kernel
theorem dX7_others_393 : decode cX7_others 393 = .ok (.aload_n 0, 1) := by decide +kernel
theorem dX7_others_394 : decode cX7_others 394 = .ok (.iload_n 1, 1) := by decide +kernel
theorem dX7_others_395 : decode cX7_others 395 = .ok (.aload_n 0, 1) := by decide +kernel
theorem dX7_others_396 : decode cX7_others 396 = .ok (.getfield 38, 3) := by decide +kernel
theorem dX7_others_399 : decode cX7_others 399 = .ok (.iload_n 1, 1) := by decide +kernel
theorem dX7_others_400 : decode cX7_others 400 = .ok (.iaload, 1) := by decide +kernel
theorem dX7_others_401 : decode cX7_others 401 = .ok (.iconst (-1), 1) := by decide +kernel
theorem dX7_others_402 : decode cX7_others 402 = .ok (.if_icmp .ne 13, 3) := by decide +kernel
theorem dX7_others_405 : decode cX7_others 405 = .ok (.aload_n 0, 1) := by decide +kernel
theorem dX7_others_406 : decode cX7_others 406 = .ok (.iload 7, 2) := by decide +kernel
theorem dX7_others_408 : decode cX7_others 408 = .ok (.invokevirtual 245, 3) := by decide +kernel
theorem dX7_others_411 : decode cX7_others 411 = .ok (.iconst (-1), 1) := by decide +kernel
theorem dX7_others_412 : decode cX7_others 412 = .ok (.if_icmp .eq 7, 3) := by decide +kernel
theorem dX7_others_415 : decode cX7_others 415 = .ok (.iconst 1, 1) := by decide +kernel
theorem dX7_others_416 : decode cX7_others 416 = .ok (.goto 4, 3) := by decide +kernel
theorem dX7_others_419 : decode cX7_others 419 = .ok (.iconst 0, 1) := by decide +kernel
theorem dX7_others_420 : decode cX7_others 420 = .ok (.invokevirtual 202, 3) := by decide +kernel
theorem dX7_others_423 : decode cX7_others 423 = .ok (.ifCond .eq 6, 3) := by decide +kernel
theorem dX7_others_426 : decode cX7_others 426 = .ok (.goto 124, 3) := by decide +kernel
theorem dX7_others_429 : decode cX7_others 429 = .ok (.aload_n 0, 1) := by decide +kernel
theorem dX7_others_430 : decode cX7_others 430 = .ok (.getfield 38, 3) := by decide +kernel
theorem dX7_others_433 : decode cX7_others 433 = .ok (.iload_n 1, 1) := by decide +kernel
theorem dX7_others_434 : decode cX7_others 434 = .ok (.iload 7, 2) := by decide +kernel
theorem dX7_others_436 : decode cX7_others 436 = .ok (.iastore, 1) := by decide +kernel
theorem dX7_others_437 : decode cX7_others 437 = .ok (.goto 113, 3) := by decide +kernel
theorem dX7_others_440 : decode cX7_others 440 = .ok (.aload_n 0, 1) := by decide +kernel
theorem dX7_others_441 : decode cX7_others 441 = .ok (.iload 4, 2) := by decide +kernel
theorem dX7_others_443 : decode cX7_others 443 = .ok (.bipush 100, 2) := by decide +kernel
theorem dX7_others_445 : decode cX7_others 445 = .ok (.invokestatic 199, 3) := by decide +kernel
theorem dX7_others_448 : decode cX7_others 448 = .ok (.invokevirtual 245, 3) := by decide +kernel
theorem dX7_others_451 : decode cX7_others 451 = .ok (.istore 7, 2) := by decide +kernel
theorem dX7_others_453 : decode cX7_others 453 = .ok (.aload_n 0, 1) := by decide +kernel
theorem dX7_others_454 : decode cX7_others 454 = .ok (.iload 5, 2) := by decide +kernel
theorem dX7_others_456 : decode cX7_others 456 = .ok (.iload 7, 2) := by decide +kernel
theorem dX7_others_458 : decode cX7_others 458 = .ok (.iconst (-1), 1) := by decide +kernel
theorem dX7_others_459 : decode cX7_others 459 = .ok (.if_icmp .ne 7, 3) := by decide +kernel
theorem dX7_others_462 : decode cX7_others 462 = .ok (.iconst 1, 1) := by decide +kernel
theorem dX7_others_463 : decode cX7_others 463 = .ok (.goto 4, 3) := by decide +kernel
theorem dX7_others_466 : decode cX7_others 466 = .ok (.iconst 2, 1) := by decide +kernel
theorem dX7_others_467 : decode cX7_others 467 = .ok (.iload 7, 2) := by decide +kernel
theorem dX7_others_469 : decode cX7_others 469 = .ok (.iconst (-1), 1) := by decide +kernel
theorem dX7_others_470 : decode cX7_others 470 = .ok (.if_icmp .ne 7, 3) := by decide +kernel
theorem dX7_others_473 : decode cX7_others 473 = .ok (.iconst 3, 1) := by decide +kernel
theorem dX7_others_474 : decode cX7_others 474 = .ok (.goto 7, 3) := by decide +kernel
theorem dX7_others_477 : decode cX7_others 477 = .ok (.iload 7, 2) := by decide +kernel
theorem dX7_others_479 : decode cX7_others 479 = .ok (.iconst 1, 1) := by decide +kernel
theorem dX7_others_480 : decode cX7_others 480 = .ok (.iadd, 1) := by decide +kernel
theorem dX7_others_481 : decode cX7_others 481 = .ok (.invokevirtual 124, 3) := by decide +kernel
theorem dX7_others_484 : decode cX7_others 484 = .ok (.goto 66, 3) := by decide +kernel
theorem dX7_others_487 : decode cX7_others 487 = .ok (.iconst 0, 1) := by decide +kernel
theorem dX7_others_488 : decode cX7_others 488 = .ok (.istore 7, 2) := by decide +kernel
theorem dX7_others_490 : decode cX7_others 490 = .ok (.iload 7, 2) := by decide +kernel
theorem dX7_others_492 : decode cX7_others 492 = .ok (.aload_n 0, 1) := by decide +kernel
theorem dX7_others_493 : decode cX7_others 493 = .ok (.getfield 14, 3) := by decide +kernel
theorem dX7_others_496 : decode cX7_others 496 = .ok (.iload 5, 2) := by decide +kernel
theorem dX7_others_498 : decode cX7_others 498 = .ok (.iaload, 1) := by decide +kernel
theorem dX7_others_499 : decode cX7_others 499 = .ok (.if_icmp .ge 51, 3) := by decide +kernel
theorem dX7_others_502 : decode cX7_others 502 = .ok (.aload_n 0, 1) := by decide +kernel
theorem dX7_others_503 : decode cX7_others 503 = .ok (.getfield 260, 3) := by decide +kernel
theorem dX7_others_506 : decode cX7_others 506 = .ok (.sipush 600, 3) := by decide +kernel
theorem dX7_others_509 : decode cX7_others 509 = .ok (.if_icmp .ge 25, 3) := by decide +kernel
theorem dX7_others_512 : decode cX7_others 512 = .ok (.aload_n 0, 1) := by decide +kernel
theorem dX7_others_513 : decode cX7_others 513 = .ok (.getfield 99, 3) := by decide +kernel
theorem dX7_others_516 : decode cX7_others 516 = .ok (.aload_n 0, 1) := by decide +kernel
theorem dX7_others_517 : decode cX7_others 517 = .ok (.getfield 260, 3) := by decide +kernel
theorem dX7_others_520 : decode cX7_others 520 = .ok (.aload_n 0, 1) := by decide +kernel
theorem dX7_others_521 : decode cX7_others 521 = .ok (.getfield 8, 3) := by decide +kernel
theorem dX7_others_524 : decode cX7_others 524 = .ok (.bipush 95, 2) := by decide +kernel
theorem dX7_others_526 : decode cX7_others 526 = .ok (.iload 5, 2) := by decide +kernel
theorem dX7_others_528 : decode cX7_others 528 = .ok (.imul, 1) := by decide +kernel
theorem dX7_others_529 : decode cX7_others 529 = .ok (.iload 7, 2) := by decide +kernel
theorem dX7_others_531 : decode cX7_others 531 = .ok (.iadd, 1) := by decide +kernel
theorem dX7_others_532 : decode cX7_others 532 = .ok (.iaload, 1) := by decide +kernel
theorem dX7_others_533 : decode cX7_others 533 = .ok (.iastore, 1) := by decide +kernel
theorem dX7_others_534 : decode cX7_others 534 = .ok (.aload_n 0, 1) := by decide +kernel
theorem dX7_others_535 : decode cX7_others 535 = .ok (.dup, 1) := by decide +kernel
theorem dX7_others_536 : decode cX7_others 536 = .ok (.getfield 260, 3) := by decide +kernel
theorem dX7_others_539 : decode cX7_others 539 = .ok (.iconst 1, 1) := by decide +kernel
theorem dX7_others_540 : decode cX7_others 540 = .ok (.iadd, 1) := by decide +kernel
theorem dX7_others_541 : decode cX7_others 541 = .ok (.putfield 260, 3) := by decide +kernel
theorem dX7_others_544 : decode cX7_others 544 = .ok (.iinc 7 1, 3) := by decide +kernel
theorem dX7_others_547 : decode cX7_others 547 = .ok (.goto (-57), 3) := by decide +kernel
theorem dX7_others_550 : decode cX7_others 550 = .ok (.return_, 1) := by decide +kernel
theorem dX7_nextReady_0 : decode cX7_nextReady 0 = .ok (.iconst (-1), 1) := by decide +kernel
theorem dX7_nextReady_1 : decode cX7_nextReady 1 = .ok (.istore_n 2, 1) := by decide +kernel
theorem dX7_nextReady_2 : decode cX7_nextReady 2 = .ok (.iconst 0, 1) := by decide +kernel
theorem dX7_nextReady_3 : decode cX7_nextReady 3 = .ok (.istore_n 3, 1) := by decide +kernel
theorem dX7_nextReady_4 : decode cX7_nextReady 4 = .ok (.iload_n 3, 1) := by decide +kernel
theorem dX7_nextReady_5 : decode cX7_nextReady 5 = .ok (.aload_n 0, 1) := by decide +kernel
theorem dX7_nextReady_6 : decode cX7_nextReady 6 = .ok (.getfield 121, 3) := by decide +kernel
theorem dX7_nextReady_9 : decode cX7_nextReady 9 = .ok (.if_icmp .ge 143, 3) := by decide +kernel
theorem dX7_nextReady_12 : decode cX7_nextReady 12 = .ok (.aload_n 0, 1) := by decide +kernel
theorem dX7_nextReady_13 : decode cX7_nextReady 13 = .ok (.getfield 29, 3) := by decide +kernel
theorem dX7_nextReady_16 : decode cX7_nextReady 16 = .ok (.iload_n 3, 1) := by decide +kernel
theorem dX7_nextReady_17 : decode cX7_nextReady 17 = .ok (.iaload, 1) := by decide +kernel
theorem dX7_nextReady_18 : decode cX7_nextReady 18 = .ok (.ifCond .eq 6, 3) := by decide +kernel
theorem dX7_nextReady_21 : decode cX7_nextReady 21 = .ok (.goto 125, 3) := by decide +kernel
theorem dX7_nextReady_24 : decode cX7_nextReady 24 = .ok (.iload_n 2, 1) := by decide +kernel
theorem dX7_nextReady_25 : decode cX7_nextReady 25 = .ok (.iconst (-1), 1) := by decide +kernel
theorem dX7_nextReady_26 : decode cX7_nextReady 26 = .ok (.if_icmp .ne 7, 3) := by decide +kernel
theorem dX7_nextReady_29 : decode cX7_nextReady 29 = .ok (.iconst 1, 1) := by decide +kernel
theorem dX7_nextReady_30 : decode cX7_nextReady 30 = .ok (.goto 4, 3) := by decide +kernel
theorem dX7_nextReady_33 : decode cX7_nextReady 33 = .ok (.iconst 0, 1) := by decide +kernel
theorem dX7_nextReady_34 : decode cX7_nextReady 34 = .ok (.istore 4, 2) := by decide +kernel
theorem dX7_nextReady_36 : decode cX7_nextReady 36 = .ok (.iload 4, 2) := by decide +kernel
theorem dX7_nextReady_38 : decode cX7_nextReady 38 = .ok (.ifCond .ne 70, 3) := by decide +kernel
theorem dX7_nextReady_41 : decode cX7_nextReady 41 = .ok (.aload_n 0, 1) := by decide +kernel
theorem dX7_nextReady_42 : decode cX7_nextReady 42 = .ok (.getfield 35, 3) := by decide +kernel
theorem dX7_nextReady_45 : decode cX7_nextReady 45 = .ok (.iload_n 3, 1) := by decide +kernel
theorem dX7_nextReady_46 : decode cX7_nextReady 46 = .ok (.iaload, 1) := by decide +kernel
theorem dX7_nextReady_47 : decode cX7_nextReady 47 = .ok (.aload_n 0, 1) := by decide +kernel
theorem dX7_nextReady_48 : decode cX7_nextReady 48 = .ok (.getfield 35, 3) := by decide +kernel
theorem dX7_nextReady_51 : decode cX7_nextReady 51 = .ok (.iload_n 2, 1) := by decide +kernel
theorem dX7_nextReady_52 : decode cX7_nextReady 52 = .ok (.iaload, 1) := by decide +kernel
theorem dX7_nextReady_53 : decode cX7_nextReady 53 = .ok (.if_icmp .eq 55, 3) := by decide +kernel
theorem dX7_nextReady_56 : decode cX7_nextReady 56 = .ok (.iload_n 1, 1) := by decide +kernel
theorem dX7_nextReady_57 : decode cX7_nextReady 57 = .ok (.ifCond .eq 26, 3) := by decide +kernel
theorem dX7_nextReady_60 : decode cX7_nextReady 60 = .ok (.aload_n 0, 1) := by decide +kernel
theorem dX7_nextReady_61 : decode cX7_nextReady 61 = .ok (.getfield 35, 3) := by decide +kernel
theorem dX7_nextReady_64 : decode cX7_nextReady 64 = .ok (.iload_n 3, 1) := by decide +kernel
theorem dX7_nextReady_65 : decode cX7_nextReady 65 = .ok (.iaload, 1) := by decide +kernel
theorem dX7_nextReady_66 : decode cX7_nextReady 66 = .ok (.aload_n 0, 1) := by decide +kernel
theorem dX7_nextReady_67 : decode cX7_nextReady 67 = .ok (.getfield 35, 3) := by decide +kernel
theorem dX7_nextReady_70 : decode cX7_nextReady 70 = .ok (.iload_n 2, 1) := by decide +kernel
theorem dX7_nextReady_71 : decode cX7_nextReady 71 = .ok (.iaload, 1) := by decide +kernel
theorem dX7_nextReady_72 : decode cX7_nextReady 72 = .ok (.if_icmp .le 7, 3) := by decide +kernel
theorem dX7_nextReady_75 : decode cX7_nextReady 75 = .ok (.iconst 1, 1) := by decide +kernel
theorem dX7_nextReady_76 : decode cX7_nextReady 76 = .ok (.goto 27, 3) := by decide +kernel
theorem dX7_nextReady_79 : decode cX7_nextReady 79 = .ok (.iconst 0, 1) := by decide +kernel
theorem dX7_nextReady_80 : decode cX7_nextReady 80 = .ok (.goto 23, 3) := by decide +kernel
theorem dX7_nextReady_83 : decode cX7_nextReady 83 = .ok (.aload_n 0, 1) := by decide +kernel
theorem dX7_nextReady_84 : decode cX7_nextReady 84 = .ok (.getfield 35, 3) := by decide +kernel
theorem dX7_nextReady_87 : decode cX7_nextReady 87 = .ok (.iload_n 3, 1) := by decide +kernel
theorem dX7_nextReady_88 : decode cX7_nextReady 88 = .ok (.iaload, 1) := by decide +kernel
theorem dX7_nextReady_89 : decode cX7_nextReady 89 = .ok (.aload_n 0, 1) := by decide +kernel
theorem dX7_nextReady_90 : decode cX7_nextReady 90 = .ok (.getfield 35, 3) := by decide +kernel
theorem dX7_nextReady_93 : decode cX7_nextReady 93 = .ok (.iload_n 2, 1) := by decide +kernel
theorem dX7_nextReady_94 : decode cX7_nextReady 94 = .ok (.iaload, 1) := by decide +kernel
theorem dX7_nextReady_95 : decode cX7_nextReady 95 = .ok (.if_icmp .ge 7, 3) := by decide +kernel
theorem dX7_nextReady_98 : decode cX7_nextReady 98 = .ok (.iconst 1, 1) := by decide +kernel
theorem dX7_nextReady_99 : decode cX7_nextReady 99 = .ok (.goto 4, 3) := by decide +kernel
theorem dX7_nextReady_102 : decode cX7_nextReady 102 = .ok (.iconst 0, 1) := by decide +kernel
theorem dX7_nextReady_103 : decode cX7_nextReady 103 = .ok (.istore 4, 2) := by decide +kernel
theorem dX7_nextReady_105 : decode cX7_nextReady 105 = .ok (.goto 30, 3) := by decide +kernel
theorem dX7_nextReady_108 : decode cX7_nextReady 108 = .ok (.iload 4, 2) := by decide +kernel
theorem dX7_nextReady_110 : decode cX7_nextReady 110 = .ok (.ifCond .ne 25, 3) := by decide +kernel
theorem dX7_nextReady_113 : decode cX7_nextReady 113 = .ok (.aload_n 0, 1) := by decide +kernel
theorem dX7_nextReady_114 : decode cX7_nextReady 114 = .ok (.getfield 81, 3) := by decide +kernel
theorem dX7_nextReady_117 : decode cX7_nextReady 117 = .ok (.iload_n 3, 1) := by decide +kernel
theorem dX7_nextReady_118 : decode cX7_nextReady 118 = .ok (.iaload, 1) := by decide +kernel
theorem dX7_nextReady_119 : decode cX7_nextReady 119 = .ok (.aload_n 0, 1) := by decide +kernel
theorem dX7_nextReady_120 : decode cX7_nextReady 120 = .ok (.getfield 81, 3) := by decide +kernel
theorem dX7_nextReady_123 : decode cX7_nextReady 123 = .ok (.iload_n 2, 1) := by decide +kernel
theorem dX7_nextReady_124 : decode cX7_nextReady 124 = .ok (.iaload, 1) := by decide +kernel
theorem dX7_nextReady_125 : decode cX7_nextReady 125 = .ok (.if_icmp .ge 7, 3) := by decide +kernel
theorem dX7_nextReady_128 : decode cX7_nextReady 128 = .ok (.iconst 1, 1) := by decide +kernel
theorem dX7_nextReady_129 : decode cX7_nextReady 129 = .ok (.goto 4, 3) := by decide +kernel
theorem dX7_nextReady_132 : decode cX7_nextReady 132 = .ok (.iconst 0, 1) := by decide +kernel
theorem dX7_nextReady_133 : decode cX7_nextReady 133 = .ok (.istore 4, 2) := by decide +kernel
theorem dX7_nextReady_135 : decode cX7_nextReady 135 = .ok (.iload 4, 2) := by decide +kernel
theorem dX7_nextReady_137 : decode cX7_nextReady 137 = .ok (.ifCond .eq 7, 3) := by decide +kernel
theorem dX7_nextReady_140 : decode cX7_nextReady 140 = .ok (.iload_n 3, 1) := by decide +kernel
theorem dX7_nextReady_141 : decode cX7_nextReady 141 = .ok (.goto 4, 3) := by decide +kernel
theorem dX7_nextReady_144 : decode cX7_nextReady 144 = .ok (.iload_n 2, 1) := by decide +kernel
theorem dX7_nextReady_145 : decode cX7_nextReady 145 = .ok (.istore_n 2, 1) := by decide +kernel
theorem dX7_nextReady_146 : decode cX7_nextReady 146 = .ok (.iinc 3 1, 3) := by decide +kernel
theorem dX7_nextReady_149 : decode cX7_nextReady 149 = .ok (.goto (-145), 3) := by decide +kernel
theorem dX7_nextReady_152 : decode cX7_nextReady 152 = .ok (.iload_n 2, 1) := by decide +kernel
theorem dX7_nextReady_153 : decode cX7_nextReady 153 = .ok (.ireturn, 1) := by decide +kernel
theorem dX7_run_0 : decode cX7_run 0 = .ok (.aload_n 0, 1) := by decide +kernel
theorem dX7_run_1 : decode cX7_run 1 = .ok (.iload_n 1, 1) := by decide +kernel
theorem dX7_run_2 : decode cX7_run 2 = .ok (.iconst 0, 1) := by decide +kernel
theorem dX7_run_3 : decode cX7_run 3 = .ok (.bipush 60, 2) := by decide +kernel
theorem dX7_run_5 : decode cX7_run 5 = .ok (.invokestatic 110, 3) := by decide +kernel
theorem dX7_run_8 : decode cX7_run 8 = .ok (.ifCond .ne 7, 3) := by decide +kernel
theorem dX7_run_11 : decode cX7_run 11 = .ok (.iconst 1, 1) := by decide +kernel
theorem dX7_run_12 : decode cX7_run 12 = .ok (.goto 4, 3) := by decide +kernel
theorem dX7_run_15 : decode cX7_run 15 = .ok (.iconst 0, 1) := by decide +kernel
theorem dX7_run_16 : decode cX7_run 16 = .ok (.iconst 1, 1) := by decide +kernel
theorem dX7_run_17 : decode cX7_run 17 = .ok (.invokevirtual 114, 3) := by decide +kernel
theorem dX7_run_20 : decode cX7_run 20 = .ok (.ifCond .eq 5, 3) := by decide +kernel
theorem dX7_run_23 : decode cX7_run 23 = .ok (.iconst 0, 1) := by decide +kernel
theorem dX7_run_24 : decode cX7_run 24 = .ok (.ireturn, 1) := by decide +kernel
theorem dX7_run_25 : decode cX7_run 25 = .ok (.iconst 0, 1) := by decide +kernel
theorem dX7_run_26 : decode cX7_run 26 = .ok (.istore_n 2, 1) := by decide +kernel
theorem dX7_run_27 : decode cX7_run 27 = .ok (.iload_n 2, 1) := by decide +kernel
theorem dX7_run_28 : decode cX7_run 28 = .ok (.iload_n 1, 1) := by decide +kernel
theorem dX7_run_29 : decode cX7_run 29 = .ok (.if_icmp .ge 127, 3) := by decide +kernel
theorem dX7_run_32 : decode cX7_run 32 = .ok (.aload_n 0, 1) := by decide +kernel
theorem dX7_run_33 : decode cX7_run 33 = .ok (.aload_n 0, 1) := by decide +kernel
theorem dX7_run_34 : decode cX7_run 34 = .ok (.getfield 263, 3) := by decide +kernel
theorem dX7_run_37 : decode cX7_run 37 = .ok (.iconst 1, 1) := by decide +kernel
theorem dX7_run_38 : decode cX7_run 38 = .ok (.iadd, 1) := by decide +kernel
theorem dX7_run_39 : decode cX7_run 39 = .ok (.bipush 8, 2) := by decide +kernel
theorem dX7_run_41 : decode cX7_run 41 = .ok (.irem, 1) := by decide +kernel
theorem dX7_run_42 : decode cX7_run 42 = .ok (.ifCond .ne 7, 3) := by decide +kernel
theorem dX7_run_45 : decode cX7_run 45 = .ok (.iconst 1, 1) := by decide +kernel
theorem dX7_run_46 : decode cX7_run 46 = .ok (.goto 4, 3) := by decide +kernel
theorem dX7_run_49 : decode cX7_run 49 = .ok (.iconst 0, 1) := by decide +kernel
theorem dX7_run_50 : decode cX7_run 50 = .ok (.invokevirtual 266, 3) := by decide +kernel
theorem dX7_run_53 : decode cX7_run 53 = .ok (.istore_n 3, 1) := by decide +kernel
theorem dX7_run_54 : decode cX7_run 54 = .ok (.iload_n 3, 1) := by decide +kernel
theorem dX7_run_55 : decode cX7_run 55 = .ok (.iconst (-1), 1) := by decide +kernel
theorem dX7_run_56 : decode cX7_run 56 = .ok (.if_icmp .ne 6, 3) := by decide +kernel
theorem dX7_run_59 : decode cX7_run 59 = .ok (.goto 97, 3) := by decide +kernel
theorem dX7_run_62 : decode cX7_run 62 = .ok (.aload_n 0, 1) := by decide +kernel
theorem dX7_run_63 : decode cX7_run 63 = .ok (.dup, 1) := by decide +kernel
theorem dX7_run_64 : decode cX7_run 64 = .ok (.getfield 263, 3) := by decide +kernel
theorem dX7_run_67 : decode cX7_run 67 = .ok (.iconst 1, 1) := by decide +kernel
theorem dX7_run_68 : decode cX7_run 68 = .ok (.iadd, 1) := by decide +kernel
theorem dX7_run_69 : decode cX7_run 69 = .ok (.putfield 263, 3) := by decide +kernel
theorem dX7_run_72 : decode cX7_run 72 = .ok (.iinc 2 1, 3) := by decide +kernel
theorem dX7_run_75 : decode cX7_run 75 = .ok (.iconst 1, 1) := by decide +kernel
theorem dX7_run_76 : decode cX7_run 76 = .ok (.istore 4, 2) := by decide +kernel
theorem dX7_run_78 : decode cX7_run 78 = .ok (.iconst 0, 1) := by decide +kernel
theorem dX7_run_79 : decode cX7_run 79 = .ok (.istore 5, 2) := by decide +kernel
theorem dX7_run_81 : decode cX7_run 81 = .ok (.iload 5, 2) := by decide +kernel
theorem dX7_run_83 : decode cX7_run 83 = .ok (.bipush 12, 2) := by decide +kernel
theorem dX7_run_85 : decode cX7_run 85 = .ok (.if_icmp .ge 54, 3) := by decide +kernel
theorem dX7_run_88 : decode cX7_run 88 = .ok (.iload 4, 2) := by decide +kernel
theorem dX7_run_90 : decode cX7_run 90 = .ok (.ifCond .eq 49, 3) := by decide +kernel
theorem dX7_run_93 : decode cX7_run 93 = .ok (.aload_n 0, 1) := by decide +kernel
theorem dX7_run_94 : decode cX7_run 94 = .ok (.getfield 81, 3) := by decide +kernel
theorem dX7_run_97 : decode cX7_run 97 = .ok (.iload_n 3, 1) := by decide +kernel
theorem dX7_run_98 : decode cX7_run 98 = .ok (.iaload, 1) := by decide +kernel
theorem dX7_run_99 : decode cX7_run 99 = .ok (.istore 6, 2) := by decide +kernel
theorem dX7_run_101 : decode cX7_run 101 = .ok (.aload_n 0, 1) := by decide +kernel
theorem dX7_run_102 : decode cX7_run 102 = .ok (.iload_n 3, 1) := by decide +kernel
theorem dX7_run_103 : decode cX7_run 103 = .ok (.invokevirtual 270, 3) := by decide +kernel
theorem dX7_run_106 : decode cX7_run 106 = .ok (.aload_n 0, 1) := by decide +kernel
theorem dX7_run_107 : decode cX7_run 107 = .ok (.getfield 29, 3) := by decide +kernel
theorem dX7_run_110 : decode cX7_run 110 = .ok (.iload_n 3, 1) := by decide +kernel
theorem dX7_run_111 : decode cX7_run 111 = .ok (.iaload, 1) := by decide +kernel
theorem dX7_run_112 : decode cX7_run 112 = .ok (.ifCond .ne 18, 3) := by decide +kernel
theorem dX7_run_115 : decode cX7_run 115 = .ok (.aload_n 0, 1) := by decide +kernel
theorem dX7_run_116 : decode cX7_run 116 = .ok (.getfield 81, 3) := by decide +kernel
theorem dX7_run_119 : decode cX7_run 119 = .ok (.iload_n 3, 1) := by decide +kernel
theorem dX7_run_120 : decode cX7_run 120 = .ok (.iaload, 1) := by decide +kernel
theorem dX7_run_121 : decode cX7_run 121 = .ok (.iload 6, 2) := by decide +kernel
theorem dX7_run_123 : decode cX7_run 123 = .ok (.if_icmp .ne 7, 3) := by decide +kernel
theorem dX7_run_126 : decode cX7_run 126 = .ok (.iconst 1, 1) := by decide +kernel
theorem dX7_run_127 : decode cX7_run 127 = .ok (.goto 4, 3) := by decide +kernel
theorem dX7_run_130 : decode cX7_run 130 = .ok (.iconst 0, 1) := by decide +kernel
theorem dX7_run_131 : decode cX7_run 131 = .ok (.istore 4, 2) := by decide +kernel
theorem dX7_run_133 : decode cX7_run 133 = .ok (.iinc 5 1, 3) := by decide +kernel
theorem dX7_run_136 : decode cX7_run 136 = .ok (.goto (-55), 3) := by decide +kernel
theorem dX7_run_139 : decode cX7_run 139 = .ok (.aload_n 0, 1) := by decide +kernel
theorem dX7_run_140 : decode cX7_run 140 = .ok (.getfield 29, 3) := by decide +kernel
theorem dX7_run_143 : decode cX7_run 143 = .ok (.iload_n 3, 1) := by decide +kernel
theorem dX7_run_144 : decode cX7_run 144 = .ok (.iaload, 1) := by decide +kernel
theorem dX7_run_145 : decode cX7_run 145 = .ok (.ifCond .ne 8, 3) := by decide +kernel
theorem dX7_run_148 : decode cX7_run 148 = .ok (.aload_n 0, 1) := by decide +kernel
theorem dX7_run_149 : decode cX7_run 149 = .ok (.iload_n 3, 1) := by decide +kernel
theorem dX7_run_150 : decode cX7_run 150 = .ok (.invokevirtual 128, 3) := by decide +kernel
theorem dX7_run_153 : decode cX7_run 153 = .ok (.goto (-126), 3) := by decide +kernel
theorem dX7_run_156 : decode cX7_run 156 = .ok (.iload_n 2, 1) := by decide +kernel
theorem dX7_run_157 : decode cX7_run 157 = .ok (.ireturn, 1) := by decide +kernel
theorem dX7_pass_0 : decode cX7_pass 0 = .ok (.aload_n 0, 1) := by decide +kernel
theorem dX7_pass_1 : decode cX7_pass 1 = .ok (.iload_n 1, 1) := by decide +kernel
theorem dX7_pass_2 : decode cX7_pass 2 = .ok (.iconst 0, 1) := by decide +kernel
theorem dX7_pass_3 : decode cX7_pass 3 = .ok (.sipush 10000, 3) := by decide +kernel
theorem dX7_pass_6 : decode cX7_pass 6 = .ok (.invokestatic 110, 3) := by decide +kernel
theorem dX7_pass_9 : decode cX7_pass 9 = .ok (.ifCond .ne 7, 3) := by decide +kernel
theorem dX7_pass_12 : decode cX7_pass 12 = .ok (.iconst 1, 1) := by decide +kernel
theorem dX7_pass_13 : decode cX7_pass 13 = .ok (.goto 4, 3) := by decide +kernel
theorem dX7_pass_16 : decode cX7_pass 16 = .ok (.iconst 0, 1) := by decide +kernel
theorem dX7_pass_17 : decode cX7_pass 17 = .ok (.iconst 1, 1) := by decide +kernel
theorem dX7_pass_18 : decode cX7_pass 18 = .ok (.invokevirtual 114, 3) := by decide +kernel
theorem dX7_pass_21 : decode cX7_pass 21 = .ok (.ifCond .eq 5, 3) := by decide +kernel
theorem dX7_pass_24 : decode cX7_pass 24 = .ok (.iconst 0, 1) := by decide +kernel
theorem dX7_pass_25 : decode cX7_pass 25 = .ok (.ireturn, 1) := by decide +kernel
theorem dX7_pass_26 : decode cX7_pass 26 = .ok (.aload_n 0, 1) := by decide +kernel
theorem dX7_pass_27 : decode cX7_pass 27 = .ok (.dup, 1) := by decide +kernel
theorem dX7_pass_28 : decode cX7_pass 28 = .ok (.getfield 251, 3) := by decide +kernel
theorem dX7_pass_31 : decode cX7_pass 31 = .ok (.iload_n 1, 1) := by decide +kernel
theorem dX7_pass_32 : decode cX7_pass 32 = .ok (.iadd, 1) := by decide +kernel
theorem dX7_pass_33 : decode cX7_pass 33 = .ok (.putfield 251, 3) := by decide +kernel
theorem dX7_pass_36 : decode cX7_pass 36 = .ok (.iconst 0, 1) := by decide +kernel
theorem dX7_pass_37 : decode cX7_pass 37 = .ok (.istore_n 2, 1) := by decide +kernel
theorem dX7_pass_38 : decode cX7_pass 38 = .ok (.iconst (-1), 1) := by decide +kernel
theorem dX7_pass_39 : decode cX7_pass 39 = .ok (.istore_n 3, 1) := by decide +kernel
theorem dX7_pass_40 : decode cX7_pass 40 = .ok (.iconst 0, 1) := by decide +kernel
theorem dX7_pass_41 : decode cX7_pass 41 = .ok (.istore 4, 2) := by decide +kernel
theorem dX7_pass_43 : decode cX7_pass 43 = .ok (.iload 4, 2) := by decide +kernel
theorem dX7_pass_45 : decode cX7_pass 45 = .ok (.aload_n 0, 1) := by decide +kernel
theorem dX7_pass_46 : decode cX7_pass 46 = .ok (.getfield 121, 3) := by decide +kernel
theorem dX7_pass_49 : decode cX7_pass 49 = .ok (.if_icmp .ge 68, 3) := by decide +kernel
theorem dX7_pass_52 : decode cX7_pass 52 = .ok (.aload_n 0, 1) := by decide +kernel
theorem dX7_pass_53 : decode cX7_pass 53 = .ok (.getfield 29, 3) := by decide +kernel
theorem dX7_pass_56 : decode cX7_pass 56 = .ok (.iload 4, 2) := by decide +kernel
theorem dX7_pass_58 : decode cX7_pass 58 = .ok (.iaload, 1) := by decide +kernel
theorem dX7_pass_59 : decode cX7_pass 59 = .ok (.iconst 1, 1) := by decide +kernel
theorem dX7_pass_60 : decode cX7_pass 60 = .ok (.if_icmp .ne 51, 3) := by decide +kernel
theorem dX7_pass_63 : decode cX7_pass 63 = .ok (.aload_n 0, 1) := by decide +kernel
theorem dX7_pass_64 : decode cX7_pass 64 = .ok (.getfield 78, 3) := by decide +kernel
theorem dX7_pass_67 : decode cX7_pass 67 = .ok (.iload 4, 2) := by decide +kernel
theorem dX7_pass_69 : decode cX7_pass 69 = .ok (.baload, 1) := by decide +kernel
theorem dX7_pass_70 : decode cX7_pass 70 = .ok (.ifCond .eq 41, 3) := by decide +kernel
theorem dX7_pass_73 : decode cX7_pass 73 = .ok (.aload_n 0, 1) := by decide +kernel
theorem dX7_pass_74 : decode cX7_pass 74 = .ok (.getfield 75, 3) := by decide +kernel
theorem dX7_pass_77 : decode cX7_pass 77 = .ok (.iload 4, 2) := by decide +kernel
theorem dX7_pass_79 : decode cX7_pass 79 = .ok (.iaload, 1) := by decide +kernel
theorem dX7_pass_80 : decode cX7_pass 80 = .ok (.aload_n 0, 1) := by decide +kernel
theorem dX7_pass_81 : decode cX7_pass 81 = .ok (.getfield 251, 3) := by decide +kernel
theorem dX7_pass_84 : decode cX7_pass 84 = .ok (.if_icmp .gt 27, 3) := by decide +kernel
theorem dX7_pass_87 : decode cX7_pass 87 = .ok (.iload_n 3, 1) := by decide +kernel
theorem dX7_pass_88 : decode cX7_pass 88 = .ok (.iconst (-1), 1) := by decide +kernel
theorem dX7_pass_89 : decode cX7_pass 89 = .ok (.if_icmp .eq 19, 3) := by decide +kernel
theorem dX7_pass_92 : decode cX7_pass 92 = .ok (.aload_n 0, 1) := by decide +kernel
theorem dX7_pass_93 : decode cX7_pass 93 = .ok (.getfield 75, 3) := by decide +kernel
theorem dX7_pass_96 : decode cX7_pass 96 = .ok (.iload 4, 2) := by decide +kernel
theorem dX7_pass_98 : decode cX7_pass 98 = .ok (.iaload, 1) := by decide +kernel
theorem dX7_pass_99 : decode cX7_pass 99 = .ok (.aload_n 0, 1) := by decide +kernel
theorem dX7_pass_100 : decode cX7_pass 100 = .ok (.getfield 75, 3) := by decide +kernel
theorem dX7_pass_103 : decode cX7_pass 103 = .ok (.iload_n 3, 1) := by decide +kernel
theorem dX7_pass_104 : decode cX7_pass 104 = .ok (.iaload, 1) := by decide +kernel
theorem dX7_pass_105 : decode cX7_pass 105 = .ok (.if_icmp .ge 6, 3) := by decide +kernel
theorem dX7_pass_108 : decode cX7_pass 108 = .ok (.iload 4, 2) := by decide +kernel
theorem dX7_pass_110 : decode cX7_pass 110 = .ok (.istore_n 3, 1) := by decide +kernel
theorem dX7_pass_111 : decode cX7_pass 111 = .ok (.iinc 4 1, 3) := by decide +kernel
theorem dX7_pass_114 : decode cX7_pass 114 = .ok (.goto (-71), 3) := by decide +kernel
theorem dX7_pass_117 : decode cX7_pass 117 = .ok (.iload_n 3, 1) := by decide +kernel
theorem dX7_pass_118 : decode cX7_pass 118 = .ok (.iconst (-1), 1) := by decide +kernel
theorem dX7_pass_119 : decode cX7_pass 119 = .ok (.if_icmp .ne 5, 3) := by decide +kernel
theorem dX7_pass_122 : decode cX7_pass 122 = .ok (.iload_n 2, 1) := by decide +kernel
theorem dX7_pass_123 : decode cX7_pass 123 = .ok (.ireturn, 1) := by decide +kernel
theorem dX7_pass_124 : decode cX7_pass 124 = .ok (.aload_n 0, 1) := by decide +kernel
theorem dX7_pass_125 : decode cX7_pass 125 = .ok (.getfield 78, 3) := by decide +kernel
theorem dX7_pass_128 : decode cX7_pass 128 = .ok (.iload_n 3, 1) := by decide +kernel
theorem dX7_pass_129 : decode cX7_pass 129 = .ok (.iconst 0, 1) := by decide +kernel
theorem dX7_pass_130 : decode cX7_pass 130 = .ok (.bastore, 1) := by decide +kernel
theorem dX7_pass_131 : decode cX7_pass 131 = .ok (.aload_n 0, 1) := by decide +kernel
theorem dX7_pass_132 : decode cX7_pass 132 = .ok (.getfield 32, 3) := by decide +kernel
theorem dX7_pass_135 : decode cX7_pass 135 = .ok (.iload_n 3, 1) := by decide +kernel
theorem dX7_pass_136 : decode cX7_pass 136 = .ok (.aload_n 0, 1) := by decide +kernel
theorem dX7_pass_137 : decode cX7_pass 137 = .ok (.getfield 72, 3) := by decide +kernel
theorem dX7_pass_140 : decode cX7_pass 140 = .ok (.iload_n 3, 1) := by decide +kernel
theorem dX7_pass_141 : decode cX7_pass 141 = .ok (.iaload, 1) := by decide +kernel
theorem dX7_pass_142 : decode cX7_pass 142 = .ok (.iastore, 1) := by decide +kernel
theorem dX7_pass_143 : decode cX7_pass 143 = .ok (.aload_n 0, 1) := by decide +kernel
theorem dX7_pass_144 : decode cX7_pass 144 = .ok (.getfield 48, 3) := by decide +kernel
theorem dX7_pass_147 : decode cX7_pass 147 = .ok (.iload_n 3, 1) := by decide +kernel
theorem dX7_pass_148 : decode cX7_pass 148 = .ok (.iconst 0, 1) := by decide +kernel
theorem dX7_pass_149 : decode cX7_pass 149 = .ok (.iastore, 1) := by decide +kernel
theorem dX7_pass_150 : decode cX7_pass 150 = .ok (.aload_n 0, 1) := by decide +kernel
theorem dX7_pass_151 : decode cX7_pass 151 = .ok (.iload_n 3, 1) := by decide +kernel
theorem dX7_pass_152 : decode cX7_pass 152 = .ok (.invokevirtual 128, 3) := by decide +kernel
theorem dX7_pass_155 : decode cX7_pass 155 = .ok (.iinc 2 1, 3) := by decide +kernel
theorem dX7_pass_158 : decode cX7_pass 158 = .ok (.goto (-120), 3) := by decide +kernel
theorem dX7_out_0 : decode cX7_out 0 = .ok (.aload_n 0, 1) := by decide +kernel
theorem dX7_out_1 : decode cX7_out 1 = .ok (.iconst 0, 1) := by decide +kernel
theorem dX7_out_2 : decode cX7_out 2 = .ok (.putfield 102, 3) := by decide +kernel
theorem dX7_out_5 : decode cX7_out 5 = .ok (.iload_n 1, 1) := by decide +kernel
theorem dX7_out_6 : decode cX7_out 6 = .ok (.ifCond .lt 27, 3) := by decide +kernel
theorem dX7_out_9 : decode cX7_out 9 = .ok (.iload_n 1, 1) := by decide +kernel
theorem dX7_out_10 : decode cX7_out 10 = .ok (.aload_n 0, 1) := by decide +kernel
theorem dX7_out_11 : decode cX7_out 11 = .ok (.getfield 260, 3) := by decide +kernel
theorem dX7_out_14 : decode cX7_out 14 = .ok (.if_icmp .ge 19, 3) := by decide +kernel
theorem dX7_out_17 : decode cX7_out 17 = .ok (.iload_n 1, 1) := by decide +kernel
theorem dX7_out_18 : decode cX7_out 18 = .ok (.sipush 600, 3) := by decide +kernel
theorem dX7_out_21 : decode cX7_out 21 = .ok (.if_icmp .ge 12, 3) := by decide +kernel
theorem dX7_out_24 : decode cX7_out 24 = .ok (.aload_n 0, 1) := by decide +kernel
theorem dX7_out_25 : decode cX7_out 25 = .ok (.getfield 99, 3) := by decide +kernel
theorem dX7_out_28 : decode cX7_out 28 = .ok (.iload_n 1, 1) := by decide +kernel
theorem dX7_out_29 : decode cX7_out 29 = .ok (.iaload, 1) := by decide +kernel
theorem dX7_out_30 : decode cX7_out 30 = .ok (.goto 4, 3) := by decide +kernel
theorem dX7_out_33 : decode cX7_out 33 = .ok (.iconst (-1), 1) := by decide +kernel
theorem dX7_out_34 : decode cX7_out 34 = .ok (.ireturn, 1) := by decide +kernel
theorem dX7_process_0 : decode cX7_process 0 = .ok (.aload_n 0, 1) := by decide +kernel
theorem dX7_process_1 : decode cX7_process 1 = .ok (.aload_n 0, 1) := by decide +kernel
theorem dX7_process_2 : decode cX7_process 2 = .ok (.iload_n 1, 1) := by decide +kernel
theorem dX7_process_3 : decode cX7_process 3 = .ok (.invokevirtual 143, 3) := by decide +kernel
theorem dX7_process_6 : decode cX7_process 6 = .ok (.ifCond .eq 13, 3) := by decide +kernel
theorem dX7_process_9 : decode cX7_process 9 = .ok (.iload_n 2, 1) := by decide +kernel
theorem dX7_process_10 : decode cX7_process 10 = .ok (.iconst 0, 1) := by decide +kernel
theorem dX7_process_11 : decode cX7_process 11 = .ok (.bipush 10, 2) := by decide +kernel
theorem dX7_process_13 : decode cX7_process 13 = .ok (.invokestatic 110, 3) := by decide +kernel
theorem dX7_process_16 : decode cX7_process 16 = .ok (.ifCond .ne 7, 3) := by decide +kernel
theorem dX7_process_19 : decode cX7_process 19 = .ok (.iconst 1, 1) := by decide +kernel
theorem dX7_process_20 : decode cX7_process 20 = .ok (.goto 4, 3) := by decide +kernel
theorem dX7_process_23 : decode cX7_process 23 = .ok (.iconst 0, 1) := by decide +kernel
theorem dX7_process_24 : decode cX7_process 24 = .ok (.iconst 1, 1) := by decide +kernel
theorem dX7_process_25 : decode cX7_process 25 = .ok (.invokevirtual 114, 3) := by decide +kernel
theorem dX7_process_28 : decode cX7_process 28 = .ok (.ifCond .eq 5, 3) := by decide +kernel
theorem dX7_process_31 : decode cX7_process 31 = .ok (.iconst 0, 1) := by decide +kernel
theorem dX7_process_32 : decode cX7_process 32 = .ok (.ireturn, 1) := by decide +kernel
theorem dX7_process_33 : decode cX7_process 33 = .ok (.iload_n 1, 1) := by decide +kernel
theorem dX7_process_34 : decode cX7_process 34 = .ok (.iconst 1, 1) := by decide +kernel
theorem dX7_process_35 : decode cX7_process 35 = .ok (.isub, 1) := by decide +kernel
theorem dX7_process_36 : decode cX7_process 36 = .ok (.istore_n 3, 1) := by decide +kernel
theorem dX7_process_37 : decode cX7_process 37 = .ok (.iconst 0, 1) := by decide +kernel
theorem dX7_process_38 : decode cX7_process 38 = .ok (.istore 4, 2) := by decide +kernel
theorem dX7_process_40 : decode cX7_process 40 = .ok (.iconst 0, 1) := by decide +kernel
theorem dX7_process_41 : decode cX7_process 41 = .ok (.istore 5, 2) := by decide +kernel
theorem dX7_process_43 : decode cX7_process 43 = .ok (.iload 5, 2) := by decide +kernel
theorem dX7_process_45 : decode cX7_process 45 = .ok (.aload_n 0, 1) := by decide +kernel
theorem dX7_process_46 : decode cX7_process 46 = .ok (.getfield 121, 3) := by decide +kernel
theorem dX7_process_49 : decode cX7_process 49 = .ok (.if_icmp .ge 34, 3) := by decide +kernel
theorem dX7_process_52 : decode cX7_process 52 = .ok (.iload 4, 2) := by decide +kernel
theorem dX7_process_54 : decode cX7_process 54 = .ok (.aload_n 0, 1) := by decide +kernel
theorem dX7_process_55 : decode cX7_process 55 = .ok (.getfield 84, 3) := by decide +kernel
theorem dX7_process_58 : decode cX7_process 58 = .ok (.bipush 60, 2) := by decide +kernel
theorem dX7_process_60 : decode cX7_process 60 = .ok (.iload_n 3, 1) := by decide +kernel
theorem dX7_process_61 : decode cX7_process 61 = .ok (.imul, 1) := by decide +kernel
theorem dX7_process_62 : decode cX7_process 62 = .ok (.iload 5, 2) := by decide +kernel
theorem dX7_process_64 : decode cX7_process 64 = .ok (.iadd, 1) := by decide +kernel
theorem dX7_process_65 : decode cX7_process 65 = .ok (.baload, 1) := by decide +kernel
theorem dX7_process_66 : decode cX7_process 66 = .ok (.ifCond .eq 7, 3) := by decide +kernel
theorem dX7_process_69 : decode cX7_process 69 = .ok (.iconst 1, 1) := by decide +kernel
theorem dX7_process_70 : decode cX7_process 70 = .ok (.goto 4, 3) := by decide +kernel
theorem dX7_process_73 : decode cX7_process 73 = .ok (.iconst 0, 1) := by decide +kernel
theorem dX7_process_74 : decode cX7_process 74 = .ok (.iadd, 1) := by decide +kernel
theorem dX7_process_75 : decode cX7_process 75 = .ok (.istore 4, 2) := by decide +kernel
theorem dX7_process_77 : decode cX7_process 77 = .ok (.iinc 5 1, 3) := by decide +kernel
theorem dX7_process_80 : decode cX7_process 80 = .ok (.goto (-37), 3) := by decide +kernel
theorem dX7_process_83 : decode cX7_process 83 = .ok (.iload_n 2, 1) := by decide +kernel
theorem dX7_process_84 : decode cX7_process 84 = .ok (.tableswitch 130 0 9 #[56, 63, 70, 77, 84, 99, 106, 113, 116, 123], 56) := by decide +kernel
theorem dX7_process_140 : decode cX7_process 140 = .ok (.aload_n 0, 1) := by decide +kernel
theorem dX7_process_141 : decode cX7_process 141 = .ok (.getfield 29, 3) := by decide +kernel
theorem dX7_process_144 : decode cX7_process 144 = .ok (.iload_n 3, 1) := by decide +kernel
theorem dX7_process_145 : decode cX7_process 145 = .ok (.iaload, 1) := by decide +kernel
theorem dX7_process_146 : decode cX7_process 146 = .ok (.ireturn, 1) := by decide +kernel
theorem dX7_process_147 : decode cX7_process 147 = .ok (.aload_n 0, 1) := by decide +kernel
theorem dX7_process_148 : decode cX7_process 148 = .ok (.getfield 32, 3) := by decide +kernel
theorem dX7_process_151 : decode cX7_process 151 = .ok (.iload_n 3, 1) := by decide +kernel
theorem dX7_process_152 : decode cX7_process 152 = .ok (.iaload, 1) := by decide +kernel
theorem dX7_process_153 : decode cX7_process 153 = .ok (.ireturn, 1) := by decide +kernel
theorem dX7_process_154 : decode cX7_process 154 = .ok (.aload_n 0, 1) := by decide +kernel
theorem dX7_process_155 : decode cX7_process 155 = .ok (.getfield 35, 3) := by decide +kernel
theorem dX7_process_158 : decode cX7_process 158 = .ok (.iload_n 3, 1) := by decide +kernel
theorem dX7_process_159 : decode cX7_process 159 = .ok (.iaload, 1) := by decide +kernel
theorem dX7_process_160 : decode cX7_process 160 = .ok (.ireturn, 1) := by decide +kernel
theorem dX7_process_161 : decode cX7_process 161 = .ok (.aload_n 0, 1) := by decide +kernel
theorem dX7_process_162 : decode cX7_process 162 = .ok (.getfield 38, 3) := by decide +kernel
theorem dX7_process_165 : decode cX7_process 165 = .ok (.iload_n 3, 1) := by decide +kernel
theorem dX7_process_166 : decode cX7_process 166 = .ok (.iaload, 1) := by decide +kernel
theorem dX7_process_167 : decode cX7_process 167 = .ok (.ireturn, 1) := by decide +kernel
theorem dX7_process_168 : decode cX7_process 168 = .ok (.aload_n 0, 1) := by decide +kernel
theorem dX7_process_169 : decode cX7_process 169 = .ok (.getfield 41, 3) := by decide +kernel
theorem dX7_process_172 : decode cX7_process 172 = .ok (.iload_n 3, 1) := by decide +kernel
theorem dX7_process_173 : decode cX7_process 173 = .ok (.baload, 1) := by decide +kernel
theorem dX7_process_174 : decode cX7_process 174 = .ok (.ifCond .eq 7, 3) := by decide +kernel
theorem dX7_process_177 : decode cX7_process 177 = .ok (.iconst 1, 1) := by decide +kernel
theorem dX7_process_178 : decode cX7_process 178 = .ok (.goto 4, 3) := by decide +kernel
theorem dX7_process_181 : decode cX7_process 181 = .ok (.iconst 0, 1) := by decide +kernel
theorem dX7_process_182 : decode cX7_process 182 = .ok (.ireturn, 1) := by decide +kernel
theorem dX7_process_183 : decode cX7_process 183 = .ok (.aload_n 0, 1) := by decide +kernel
theorem dX7_process_184 : decode cX7_process 184 = .ok (.getfield 45, 3) := by decide +kernel
theorem dX7_process_187 : decode cX7_process 187 = .ok (.iload_n 3, 1) := by decide +kernel
theorem dX7_process_188 : decode cX7_process 188 = .ok (.iaload, 1) := by decide +kernel
theorem dX7_process_189 : decode cX7_process 189 = .ok (.ireturn, 1) := by decide +kernel
theorem dX7_process_190 : decode cX7_process 190 = .ok (.aload_n 0, 1) := by decide +kernel
theorem dX7_process_191 : decode cX7_process 191 = .ok (.getfield 48, 3) := by decide +kernel
theorem dX7_process_194 : decode cX7_process 194 = .ok (.iload_n 3, 1) := by decide +kernel
theorem dX7_process_195 : decode cX7_process 195 = .ok (.iaload, 1) := by decide +kernel
theorem dX7_process_196 : decode cX7_process 196 = .ok (.ireturn, 1) := by decide +kernel
theorem dX7_process_197 : decode cX7_process 197 = .ok (.iload 4, 2) := by decide +kernel
theorem dX7_process_199 : decode cX7_process 199 = .ok (.ireturn, 1) := by decide +kernel
theorem dX7_process_200 : decode cX7_process 200 = .ok (.aload_n 0, 1) := by decide +kernel
theorem dX7_process_201 : decode cX7_process 201 = .ok (.getfield 54, 3) := by decide +kernel
theorem dX7_process_204 : decode cX7_process 204 = .ok (.iload_n 3, 1) := by decide +kernel
theorem dX7_process_205 : decode cX7_process 205 = .ok (.iaload, 1) := by decide +kernel
theorem dX7_process_206 : decode cX7_process 206 = .ok (.ireturn, 1) := by decide +kernel
theorem dX7_process_207 : decode cX7_process 207 = .ok (.aload_n 0, 1) := by decide +kernel
theorem dX7_process_208 : decode cX7_process 208 = .ok (.getfield 63, 3) := by decide +kernel
theorem dX7_process_211 : decode cX7_process 211 = .ok (.iload_n 3, 1) := by decide +kernel
theorem dX7_process_212 : decode cX7_process 212 = .ok (.iaload, 1) := by decide +kernel
theorem dX7_process_213 : decode cX7_process 213 = .ok (.ireturn, 1) := by decide +kernel
theorem dX7_process_214 : decode cX7_process 214 = .ok (.aload_n 0, 1) := by decide +kernel
theorem dX7_process_215 : decode cX7_process 215 = .ok (.getfield 66, 3) := by decide +kernel
theorem dX7_process_218 : decode cX7_process 218 = .ok (.iload_n 3, 1) := by decide +kernel
theorem dX7_process_219 : decode cX7_process 219 = .ok (.iaload, 1) := by decide +kernel
theorem dX7_process_220 : decode cX7_process 220 = .ok (.ireturn, 1) := by decide +kernel
theorem dX7_numberOf_0 : decode cX7_numberOf 0 = .ok (.iload_n 2, 1) := by decide +kernel
theorem dX7_numberOf_1 : decode cX7_numberOf 1 = .ok (.ifCond .lt 27, 3) := by decide +kernel
theorem dX7_numberOf_4 : decode cX7_numberOf 4 = .ok (.iload_n 2, 1) := by decide +kernel
theorem dX7_numberOf_5 : decode cX7_numberOf 5 = .ok (.aload_n 0, 1) := by decide +kernel
theorem dX7_numberOf_6 : decode cX7_numberOf 6 = .ok (.getfield 14, 3) := by decide +kernel
theorem dX7_numberOf_9 : decode cX7_numberOf 9 = .ok (.iload_n 1, 1) := by decide +kernel
theorem dX7_numberOf_10 : decode cX7_numberOf 10 = .ok (.iaload, 1) := by decide +kernel
theorem dX7_numberOf_11 : decode cX7_numberOf 11 = .ok (.if_icmp .ge 17, 3) := by decide +kernel
theorem dX7_numberOf_14 : decode cX7_numberOf 14 = .ok (.aload_n 0, 1) := by decide +kernel
theorem dX7_numberOf_15 : decode cX7_numberOf 15 = .ok (.getfield 8, 3) := by decide +kernel
theorem dX7_numberOf_18 : decode cX7_numberOf 18 = .ok (.bipush 95, 2) := by decide +kernel
theorem dX7_numberOf_20 : decode cX7_numberOf 20 = .ok (.iload_n 1, 1) := by decide +kernel
theorem dX7_numberOf_21 : decode cX7_numberOf 21 = .ok (.imul, 1) := by decide +kernel
theorem dX7_numberOf_22 : decode cX7_numberOf 22 = .ok (.iload_n 2, 1) := by decide +kernel
theorem dX7_numberOf_23 : decode cX7_numberOf 23 = .ok (.iadd, 1) := by decide +kernel
theorem dX7_numberOf_24 : decode cX7_numberOf 24 = .ok (.iaload, 1) := by decide +kernel
theorem dX7_numberOf_25 : decode cX7_numberOf 25 = .ok (.goto 4, 3) := by decide +kernel
theorem dX7_numberOf_28 : decode cX7_numberOf 28 = .ok (.iconst (-1), 1) := by decide +kernel
theorem dX7_numberOf_29 : decode cX7_numberOf 29 = .ok (.ireturn, 1) := by decide +kernel
theorem dX7_register_0 : decode cX7_register 0 = .ok (.aload_n 0, 1) := by decide +kernel
theorem dX7_register_1 : decode cX7_register 1 = .ok (.aload_n 0, 1) := by decide +kernel
theorem dX7_register_2 : decode cX7_register 2 = .ok (.iload_n 1, 1) := by decide +kernel
theorem dX7_register_3 : decode cX7_register 3 = .ok (.invokevirtual 143, 3) := by decide +kernel
theorem dX7_register_6 : decode cX7_register 6 = .ok (.ifCond .eq 13, 3) := by decide +kernel
theorem dX7_register_9 : decode cX7_register 9 = .ok (.iload_n 2, 1) := by decide +kernel
theorem dX7_register_10 : decode cX7_register 10 = .ok (.iconst 0, 1) := by decide +kernel
theorem dX7_register_11 : decode cX7_register 11 = .ok (.bipush 8, 2) := by decide +kernel
theorem dX7_register_13 : decode cX7_register 13 = .ok (.invokestatic 110, 3) := by decide +kernel
theorem dX7_register_16 : decode cX7_register 16 = .ok (.ifCond .ne 7, 3) := by decide +kernel
theorem dX7_register_19 : decode cX7_register 19 = .ok (.iconst 1, 1) := by decide +kernel
theorem dX7_register_20 : decode cX7_register 20 = .ok (.goto 4, 3) := by decide +kernel
theorem dX7_register_23 : decode cX7_register 23 = .ok (.iconst 0, 1) := by decide +kernel
theorem dX7_register_24 : decode cX7_register 24 = .ok (.iconst 1, 1) := by decide +kernel
theorem dX7_register_25 : decode cX7_register 25 = .ok (.invokevirtual 114, 3) := by decide +kernel
theorem dX7_register_28 : decode cX7_register 28 = .ok (.ifCond .eq 5, 3) := by decide +kernel
theorem dX7_register_31 : decode cX7_register 31 = .ok (.iconst 0, 1) := by decide +kernel
theorem dX7_register_32 : decode cX7_register 32 = .ok (.ireturn, 1) := by decide +kernel
theorem dX7_register_33 : decode cX7_register 33 = .ok (.iload_n 2, 1) := by decide +kernel
theorem dX7_register_34 : decode cX7_register 34 = .ok (.bipush 8, 2) := by decide +kernel
theorem dX7_register_36 : decode cX7_register 36 = .ok (.if_icmp .ge 17, 3) := by decide +kernel
theorem dX7_register_39 : decode cX7_register 39 = .ok (.aload_n 0, 1) := by decide +kernel
theorem dX7_register_40 : decode cX7_register 40 = .ok (.bipush 8, 2) := by decide +kernel
theorem dX7_register_42 : decode cX7_register 42 = .ok (.iload_n 1, 1) := by decide +kernel
theorem dX7_register_43 : decode cX7_register 43 = .ok (.iconst 1, 1) := by decide +kernel
theorem dX7_register_44 : decode cX7_register 44 = .ok (.isub, 1) := by decide +kernel
theorem dX7_register_45 : decode cX7_register 45 = .ok (.imul, 1) := by decide +kernel
theorem dX7_register_46 : decode cX7_register 46 = .ok (.iload_n 2, 1) := by decide +kernel
theorem dX7_register_47 : decode cX7_register 47 = .ok (.iadd, 1) := by decide +kernel
theorem dX7_register_48 : decode cX7_register 48 = .ok (.iload_n 3, 1) := by decide +kernel
theorem dX7_register_49 : decode cX7_register 49 = .ok (.invokevirtual 273, 3) := by decide +kernel
theorem dX7_register_52 : decode cX7_register 52 = .ok (.ireturn, 1) := by decide +kernel
theorem dX7_register_53 : decode cX7_register 53 = .ok (.aload_n 0, 1) := by decide +kernel
theorem dX7_register_54 : decode cX7_register 54 = .ok (.getfield 29, 3) := by decide +kernel
theorem dX7_register_57 : decode cX7_register 57 = .ok (.iload_n 1, 1) := by decide +kernel
theorem dX7_register_58 : decode cX7_register 58 = .ok (.iconst 1, 1) := by decide +kernel
theorem dX7_register_59 : decode cX7_register 59 = .ok (.isub, 1) := by decide +kernel
theorem dX7_register_60 : decode cX7_register 60 = .ok (.iaload, 1) := by decide +kernel
theorem dX7_register_61 : decode cX7_register 61 = .ok (.iconst 2, 1) := by decide +kernel
theorem dX7_register_62 : decode cX7_register 62 = .ok (.if_icmp .ne 18, 3) := by decide +kernel
theorem dX7_register_65 : decode cX7_register 65 = .ok (.aload_n 0, 1) := by decide +kernel
theorem dX7_register_66 : decode cX7_register 66 = .ok (.sipush 2880, 3) := by decide +kernel
theorem dX7_register_69 : decode cX7_register 69 = .ok (.iload_n 1, 1) := by decide +kernel
theorem dX7_register_70 : decode cX7_register 70 = .ok (.iadd, 1) := by decide +kernel
theorem dX7_register_71 : decode cX7_register 71 = .ok (.iconst 1, 1) := by decide +kernel
theorem dX7_register_72 : decode cX7_register 72 = .ok (.isub, 1) := by decide +kernel
theorem dX7_register_73 : decode cX7_register 73 = .ok (.iload_n 3, 1) := by decide +kernel
theorem dX7_register_74 : decode cX7_register 74 = .ok (.invokevirtual 273, 3) := by decide +kernel
theorem dX7_register_77 : decode cX7_register 77 = .ok (.goto 4, 3) := by decide +kernel
theorem dX7_register_80 : decode cX7_register 80 = .ok (.iconst (-1), 1) := by decide +kernel
theorem dX7_register_81 : decode cX7_register 81 = .ok (.ireturn, 1) := by decide +kernel
theorem dX7_message_0 : decode cX7_message 0 = .ok (.aload_n 0, 1) := by decide +kernel
theorem dX7_message_1 : decode cX7_message 1 = .ok (.aload_n 0, 1) := by decide +kernel
theorem dX7_message_2 : decode cX7_message 2 = .ok (.iload_n 1, 1) := by decide +kernel
theorem dX7_message_3 : decode cX7_message 3 = .ok (.invokevirtual 143, 3) := by decide +kernel
theorem dX7_message_6 : decode cX7_message 6 = .ok (.ifCond .ne 7, 3) := by decide +kernel
theorem dX7_message_9 : decode cX7_message 9 = .ok (.iconst 1, 1) := by decide +kernel
theorem dX7_message_10 : decode cX7_message 10 = .ok (.goto 4, 3) := by decide +kernel
theorem dX7_message_13 : decode cX7_message 13 = .ok (.iconst 0, 1) := by decide +kernel
theorem dX7_message_14 : decode cX7_message 14 = .ok (.iconst 1, 1) := by decide +kernel
theorem dX7_message_15 : decode cX7_message 15 = .ok (.invokevirtual 114, 3) := by decide +kernel
theorem dX7_message_18 : decode cX7_message 18 = .ok (.ifCond .eq 5, 3) := by decide +kernel
theorem dX7_message_21 : decode cX7_message 21 = .ok (.iconst 0, 1) := by decide +kernel
theorem dX7_message_22 : decode cX7_message 22 = .ok (.ireturn, 1) := by decide +kernel
theorem dX7_message_23 : decode cX7_message 23 = .ok (.iload_n 2, 1) := by decide +kernel
theorem dX7_message_24 : decode cX7_message 24 = .ok (.iconst 0, 1) := by decide +kernel
theorem dX7_message_25 : decode cX7_message 25 = .ok (.aload_n 0, 1) := by decide +kernel
theorem dX7_message_26 : decode cX7_message 26 = .ok (.getfield 45, 3) := by decide +kernel
theorem dX7_message_29 : decode cX7_message 29 = .ok (.iload_n 1, 1) := by decide +kernel
theorem dX7_message_30 : decode cX7_message 30 = .ok (.iconst 1, 1) := by decide +kernel
theorem dX7_message_31 : decode cX7_message 31 = .ok (.isub, 1) := by decide +kernel
theorem dX7_message_32 : decode cX7_message 32 = .ok (.iaload, 1) := by decide +kernel
theorem dX7_message_33 : decode cX7_message 33 = .ok (.iconst 1, 1) := by decide +kernel
theorem dX7_message_34 : decode cX7_message 34 = .ok (.isub, 1) := by decide +kernel
theorem dX7_message_35 : decode cX7_message 35 = .ok (.invokestatic 110, 3) := by decide +kernel
theorem dX7_message_38 : decode cX7_message 38 = .ok (.ifCond .eq 23, 3) := by decide +kernel
theorem dX7_message_41 : decode cX7_message 41 = .ok (.aload_n 0, 1) := by decide +kernel
theorem dX7_message_42 : decode cX7_message 42 = .ok (.sipush 480, 3) := by decide +kernel
theorem dX7_message_45 : decode cX7_message 45 = .ok (.bipush 40, 2) := by decide +kernel
theorem dX7_message_47 : decode cX7_message 47 = .ok (.iload_n 1, 1) := by decide +kernel
theorem dX7_message_48 : decode cX7_message 48 = .ok (.iconst 1, 1) := by decide +kernel
theorem dX7_message_49 : decode cX7_message 49 = .ok (.isub, 1) := by decide +kernel
theorem dX7_message_50 : decode cX7_message 50 = .ok (.imul, 1) := by decide +kernel
theorem dX7_message_51 : decode cX7_message 51 = .ok (.iadd, 1) := by decide +kernel
theorem dX7_message_52 : decode cX7_message 52 = .ok (.iload_n 2, 1) := by decide +kernel
theorem dX7_message_53 : decode cX7_message 53 = .ok (.iadd, 1) := by decide +kernel
theorem dX7_message_54 : decode cX7_message 54 = .ok (.iload_n 3, 1) := by decide +kernel
theorem dX7_message_55 : decode cX7_message 55 = .ok (.invokevirtual 273, 3) := by decide +kernel
theorem dX7_message_58 : decode cX7_message 58 = .ok (.goto 4, 3) := by decide +kernel
theorem dX7_message_61 : decode cX7_message 61 = .ok (.iconst (-1), 1) := by decide +kernel
theorem dX7_message_62 : decode cX7_message 62 = .ok (.ireturn, 1) := by decide +kernel
theorem dX7_total_0 : decode cX7_total 0 = .ok (.aload_n 0, 1) := by decide +kernel
theorem dX7_total_1 : decode cX7_total 1 = .ok (.iload_n 1, 1) := by decide +kernel
theorem dX7_total_2 : decode cX7_total 2 = .ok (.iconst 0, 1) := by decide +kernel
theorem dX7_total_3 : decode cX7_total 3 = .ok (.bipush 8, 2) := by decide +kernel
theorem dX7_total_5 : decode cX7_total 5 = .ok (.invokestatic 110, 3) := by decide +kernel
theorem dX7_total_8 : decode cX7_total 8 = .ok (.ifCond .ne 7, 3) := by decide +kernel
theorem dX7_total_11 : decode cX7_total 11 = .ok (.iconst 1, 1) := by decide +kernel
theorem dX7_total_12 : decode cX7_total 12 = .ok (.goto 4, 3) := by decide +kernel
theorem dX7_total_15 : decode cX7_total 15 = .ok (.iconst 0, 1) := by decide +kernel
theorem dX7_total_16 : decode cX7_total 16 = .ok (.iconst 1, 1) := by decide +kernel
theorem dX7_total_17 : decode cX7_total 17 = .ok (.invokevirtual 114, 3) := by decide +kernel
theorem dX7_total_20 : decode cX7_total 20 = .ok (.ifCond .eq 5, 3) := by decide +kernel
theorem dX7_total_23 : decode cX7_total 23 = .ok (.iconst 0, 1) := by decide +kernel
theorem dX7_total_24 : decode cX7_total 24 = .ok (.ireturn, 1) := by decide +kernel
theorem dX7_total_25 : decode cX7_total 25 = .ok (.iconst 0, 1) := by decide +kernel
theorem dX7_total_26 : decode cX7_total 26 = .ok (.istore_n 2, 1) := by decide +kernel
theorem dX7_total_27 : decode cX7_total 27 = .ok (.iconst 0, 1) := by decide +kernel
theorem dX7_total_28 : decode cX7_total 28 = .ok (.istore_n 3, 1) := by decide +kernel
theorem dX7_total_29 : decode cX7_total 29 = .ok (.iconst 0, 1) := by decide +kernel
theorem dX7_total_30 : decode cX7_total 30 = .ok (.istore 4, 2) := by decide +kernel
theorem dX7_total_32 : decode cX7_total 32 = .ok (.iload 4, 2) := by decide +kernel
theorem dX7_total_34 : decode cX7_total 34 = .ok (.aload_n 0, 1) := by decide +kernel
theorem dX7_total_35 : decode cX7_total 35 = .ok (.getfield 121, 3) := by decide +kernel
theorem dX7_total_38 : decode cX7_total 38 = .ok (.if_icmp .ge 46, 3) := by decide +kernel
theorem dX7_total_41 : decode cX7_total 41 = .ok (.iload_n 2, 1) := by decide +kernel
theorem dX7_total_42 : decode cX7_total 42 = .ok (.aload_n 0, 1) := by decide +kernel
theorem dX7_total_43 : decode cX7_total 43 = .ok (.getfield 29, 3) := by decide +kernel
theorem dX7_total_46 : decode cX7_total 46 = .ok (.iload 4, 2) := by decide +kernel
theorem dX7_total_48 : decode cX7_total 48 = .ok (.iaload, 1) := by decide +kernel
theorem dX7_total_49 : decode cX7_total 49 = .ok (.iconst 2, 1) := by decide +kernel
theorem dX7_total_50 : decode cX7_total 50 = .ok (.if_icmp .ne 7, 3) := by decide +kernel
theorem dX7_total_53 : decode cX7_total 53 = .ok (.iconst 0, 1) := by decide +kernel
theorem dX7_total_54 : decode cX7_total 54 = .ok (.goto 4, 3) := by decide +kernel
theorem dX7_total_57 : decode cX7_total 57 = .ok (.iconst 1, 1) := by decide +kernel
theorem dX7_total_58 : decode cX7_total 58 = .ok (.iadd, 1) := by decide +kernel
theorem dX7_total_59 : decode cX7_total 59 = .ok (.istore_n 2, 1) := by decide +kernel
theorem dX7_total_60 : decode cX7_total 60 = .ok (.iload_n 3, 1) := by decide +kernel
theorem dX7_total_61 : decode cX7_total 61 = .ok (.aload_n 0, 1) := by decide +kernel
theorem dX7_total_62 : decode cX7_total 62 = .ok (.getfield 29, 3) := by decide +kernel
theorem dX7_total_65 : decode cX7_total 65 = .ok (.iload 4, 2) := by decide +kernel
theorem dX7_total_67 : decode cX7_total 67 = .ok (.iaload, 1) := by decide +kernel
theorem dX7_total_68 : decode cX7_total 68 = .ok (.ifCond .ne 7, 3) := by decide +kernel
theorem dX7_total_71 : decode cX7_total 71 = .ok (.iconst 1, 1) := by decide +kernel
theorem dX7_total_72 : decode cX7_total 72 = .ok (.goto 4, 3) := by decide +kernel
theorem dX7_total_75 : decode cX7_total 75 = .ok (.iconst 0, 1) := by decide +kernel
theorem dX7_total_76 : decode cX7_total 76 = .ok (.iadd, 1) := by decide +kernel
theorem dX7_total_77 : decode cX7_total 77 = .ok (.istore_n 3, 1) := by decide +kernel
theorem dX7_total_78 : decode cX7_total 78 = .ok (.iinc 4 1, 3) := by decide +kernel
theorem dX7_total_81 : decode cX7_total 81 = .ok (.goto (-49), 3) := by decide +kernel
theorem dX7_total_84 : decode cX7_total 84 = .ok (.iload_n 1, 1) := by decide +kernel
theorem dX7_total_85 : decode cX7_total 85 = .ok (.tableswitch 81 0 7 #[47, 52, 54, 56, 61, 66, 71, 76], 47) := by decide +kernel
theorem dX7_total_132 : decode cX7_total 132 = .ok (.aload_n 0, 1) := by decide +kernel
theorem dX7_total_133 : decode cX7_total 133 = .ok (.getfield 121, 3) := by decide +kernel
theorem dX7_total_136 : decode cX7_total 136 = .ok (.ireturn, 1) := by decide +kernel
theorem dX7_total_137 : decode cX7_total 137 = .ok (.iload_n 2, 1) := by decide +kernel
theorem dX7_total_138 : decode cX7_total 138 = .ok (.ireturn, 1) := by decide +kernel
theorem dX7_total_139 : decode cX7_total 139 = .ok (.iload_n 3, 1) := by decide +kernel
theorem dX7_total_140 : decode cX7_total 140 = .ok (.ireturn, 1) := by decide +kernel
theorem dX7_total_141 : decode cX7_total 141 = .ok (.aload_n 0, 1) := by decide +kernel
theorem dX7_total_142 : decode cX7_total 142 = .ok (.getfield 263, 3) := by decide +kernel
theorem dX7_total_145 : decode cX7_total 145 = .ok (.ireturn, 1) := by decide +kernel
theorem dX7_total_146 : decode cX7_total 146 = .ok (.aload_n 0, 1) := by decide +kernel
theorem dX7_total_147 : decode cX7_total 147 = .ok (.getfield 206, 3) := by decide +kernel
theorem dX7_total_150 : decode cX7_total 150 = .ok (.ireturn, 1) := by decide +kernel
theorem dX7_total_151 : decode cX7_total 151 = .ok (.aload_n 0, 1) := by decide +kernel
theorem dX7_total_152 : decode cX7_total 152 = .ok (.getfield 251, 3) := by decide +kernel
theorem dX7_total_155 : decode cX7_total 155 = .ok (.ireturn, 1) := by decide +kernel
theorem dX7_total_156 : decode cX7_total 156 = .ok (.aload_n 0, 1) := by decide +kernel
theorem dX7_total_157 : decode cX7_total 157 = .ok (.getfield 260, 3) := by decide +kernel
theorem dX7_total_160 : decode cX7_total 160 = .ok (.ireturn, 1) := by decide +kernel
theorem dX7_total_161 : decode cX7_total 161 = .ok (.aload_n 0, 1) := by decide +kernel
theorem dX7_total_162 : decode cX7_total 162 = .ok (.getfield 257, 3) := by decide +kernel
theorem dX7_total_165 : decode cX7_total 165 = .ok (.ireturn, 1) := by decide +kernel
theorem dX7_total_166 : decode cX7_total 166 = .ok (.aload_n 0, 1) := by decide +kernel
theorem dX7_total_167 : decode cX7_total 167 = .ok (.getfield 140, 3) := by decide +kernel
theorem dX7_total_170 : decode cX7_total 170 = .ok (.ireturn, 1) := by decide +kernel
theorem dJ13_bitCount_95d88_0 : decode cJ13_bitCount_95d88 0 = .ok (.lload_n 0, 1) := by decide +kernel
theorem dJ13_bitCount_95d88_1 : decode cJ13_bitCount_95d88 1 = .ok (.lload_n 0, 1) := by decide +kernel
theorem dJ13_bitCount_95d88_2 : decode cJ13_bitCount_95d88 2 = .ok (.iconst 1, 1) := by decide +kernel
theorem dJ13_bitCount_95d88_3 : decode cJ13_bitCount_95d88 3 = .ok (.lushr, 1) := by decide +kernel
theorem dJ13_bitCount_95d88_4 : decode cJ13_bitCount_95d88 4 = .ok (.ldc2_w 314, 3) := by decide +kernel
theorem dJ13_bitCount_95d88_7 : decode cJ13_bitCount_95d88 7 = .ok (.land, 1) := by decide +kernel
theorem dJ13_bitCount_95d88_8 : decode cJ13_bitCount_95d88 8 = .ok (.lsub, 1) := by decide +kernel
theorem dJ13_bitCount_95d88_9 : decode cJ13_bitCount_95d88 9 = .ok (.lstore_n 0, 1) := by decide +kernel
theorem dJ13_bitCount_95d88_10 : decode cJ13_bitCount_95d88 10 = .ok (.lload_n 0, 1) := by decide +kernel
theorem dJ13_bitCount_95d88_11 : decode cJ13_bitCount_95d88 11 = .ok (.ldc2_w 316, 3) := by decide +kernel
theorem dJ13_bitCount_95d88_14 : decode cJ13_bitCount_95d88 14 = .ok (.land, 1) := by decide +kernel
theorem dJ13_bitCount_95d88_15 : decode cJ13_bitCount_95d88 15 = .ok (.lload_n 0, 1) := by decide +kernel
theorem dJ13_bitCount_95d88_16 : decode cJ13_bitCount_95d88 16 = .ok (.iconst 2, 1) := by decide +kernel
theorem dJ13_bitCount_95d88_17 : decode cJ13_bitCount_95d88 17 = .ok (.lushr, 1) := by decide +kernel
theorem dJ13_bitCount_95d88_18 : decode cJ13_bitCount_95d88 18 = .ok (.ldc2_w 316, 3) := by decide +kernel
theorem dJ13_bitCount_95d88_21 : decode cJ13_bitCount_95d88 21 = .ok (.land, 1) := by decide +kernel
theorem dJ13_bitCount_95d88_22 : decode cJ13_bitCount_95d88 22 = .ok (.ladd, 1) := by decide +kernel
theorem dJ13_bitCount_95d88_23 : decode cJ13_bitCount_95d88 23 = .ok (.lstore_n 0, 1) := by decide +kernel
theorem dJ13_bitCount_95d88_24 : decode cJ13_bitCount_95d88 24 = .ok (.lload_n 0, 1) := by decide +kernel
theorem dJ13_bitCount_95d88_25 : decode cJ13_bitCount_95d88 25 = .ok (.lload_n 0, 1) := by decide +kernel
theorem dJ13_bitCount_95d88_26 : decode cJ13_bitCount_95d88 26 = .ok (.iconst 4, 1) := by decide +kernel
theorem dJ13_bitCount_95d88_27 : decode cJ13_bitCount_95d88 27 = .ok (.lushr, 1) := by decide +kernel
theorem dJ13_bitCount_95d88_28 : decode cJ13_bitCount_95d88 28 = .ok (.ladd, 1) := by decide +kernel
theorem dJ13_bitCount_95d88_29 : decode cJ13_bitCount_95d88 29 = .ok (.ldc2_w 318, 3) := by decide +kernel
theorem dJ13_bitCount_95d88_32 : decode cJ13_bitCount_95d88 32 = .ok (.land, 1) := by decide +kernel
theorem dJ13_bitCount_95d88_33 : decode cJ13_bitCount_95d88 33 = .ok (.lstore_n 0, 1) := by decide +kernel
theorem dJ13_bitCount_95d88_34 : decode cJ13_bitCount_95d88 34 = .ok (.lload_n 0, 1) := by decide +kernel
theorem dJ13_bitCount_95d88_35 : decode cJ13_bitCount_95d88 35 = .ok (.lload_n 0, 1) := by decide +kernel
theorem dJ13_bitCount_95d88_36 : decode cJ13_bitCount_95d88 36 = .ok (.bipush 8, 2) := by decide +kernel
theorem dJ13_bitCount_95d88_38 : decode cJ13_bitCount_95d88 38 = .ok (.lushr, 1) := by decide +kernel
theorem dJ13_bitCount_95d88_39 : decode cJ13_bitCount_95d88 39 = .ok (.ladd, 1) := by decide +kernel
theorem dJ13_bitCount_95d88_40 : decode cJ13_bitCount_95d88 40 = .ok (.lstore_n 0, 1) := by decide +kernel
theorem dJ13_bitCount_95d88_41 : decode cJ13_bitCount_95d88 41 = .ok (.lload_n 0, 1) := by decide +kernel
theorem dJ13_bitCount_95d88_42 : decode cJ13_bitCount_95d88 42 = .ok (.lload_n 0, 1) := by decide +kernel
theorem dJ13_bitCount_95d88_43 : decode cJ13_bitCount_95d88 43 = .ok (.bipush 16, 2) := by decide +kernel
theorem dJ13_bitCount_95d88_45 : decode cJ13_bitCount_95d88 45 = .ok (.lushr, 1) := by decide +kernel
theorem dJ13_bitCount_95d88_46 : decode cJ13_bitCount_95d88 46 = .ok (.ladd, 1) := by decide +kernel
theorem dJ13_bitCount_95d88_47 : decode cJ13_bitCount_95d88 47 = .ok (.lstore_n 0, 1) := by decide +kernel
theorem dJ13_bitCount_95d88_48 : decode cJ13_bitCount_95d88 48 = .ok (.lload_n 0, 1) := by decide +kernel
theorem dJ13_bitCount_95d88_49 : decode cJ13_bitCount_95d88 49 = .ok (.lload_n 0, 1) := by decide +kernel
theorem dJ13_bitCount_95d88_50 : decode cJ13_bitCount_95d88 50 = .ok (.bipush 32, 2) := by decide +kernel
theorem dJ13_bitCount_95d88_52 : decode cJ13_bitCount_95d88 52 = .ok (.lushr, 1) := by decide +kernel
theorem dJ13_bitCount_95d88_53 : decode cJ13_bitCount_95d88 53 = .ok (.ladd, 1) := by decide +kernel
theorem dJ13_bitCount_95d88_54 : decode cJ13_bitCount_95d88 54 = .ok (.lstore_n 0, 1) := by decide +kernel
theorem dJ13_bitCount_95d88_55 : decode cJ13_bitCount_95d88 55 = .ok (.lload_n 0, 1) := by decide +kernel
theorem dJ13_bitCount_95d88_56 : decode cJ13_bitCount_95d88 56 = .ok (.l2i, 1) := by decide +kernel
theorem dJ13_bitCount_95d88_57 : decode cJ13_bitCount_95d88 57 = .ok (.bipush 127, 2) := by decide +kernel
theorem dJ13_bitCount_95d88_59 : decode cJ13_bitCount_95d88 59 = .ok (.iand, 1) := by decide +kernel
theorem dJ13_bitCount_95d88_60 : decode cJ13_bitCount_95d88 60 = .ok (.ireturn, 1) := by decide +kernel
theorem dJ9_floorMod_7cf53_0 : decode cJ9_floorMod_7cf53 0 = .ok (.iload_n 0, 1) := by decide +kernel
theorem dJ9_floorMod_7cf53_1 : decode cJ9_floorMod_7cf53 1 = .ok (.iload_n 1, 1) := by decide +kernel
theorem dJ9_floorMod_7cf53_2 : decode cJ9_floorMod_7cf53 2 = .ok (.irem, 1) := by decide +kernel
theorem dJ9_floorMod_7cf53_3 : decode cJ9_floorMod_7cf53 3 = .ok (.istore_n 2, 1) := by decide +kernel
theorem dJ9_floorMod_7cf53_4 : decode cJ9_floorMod_7cf53 4 = .ok (.iload_n 0, 1) := by decide +kernel
theorem dJ9_floorMod_7cf53_5 : decode cJ9_floorMod_7cf53 5 = .ok (.iload_n 1, 1) := by decide +kernel
theorem dJ9_floorMod_7cf53_6 : decode cJ9_floorMod_7cf53 6 = .ok (.ixor, 1) := by decide +kernel
theorem dJ9_floorMod_7cf53_7 : decode cJ9_floorMod_7cf53 7 = .ok (.ifCond .ge 11, 3) := by decide +kernel
theorem dJ9_floorMod_7cf53_10 : decode cJ9_floorMod_7cf53 10 = .ok (.iload_n 2, 1) := by decide +kernel
theorem dJ9_floorMod_7cf53_11 : decode cJ9_floorMod_7cf53 11 = .ok (.ifCond .eq 7, 3) := by decide +kernel
theorem dJ9_floorMod_7cf53_14 : decode cJ9_floorMod_7cf53 14 = .ok (.iload_n 2, 1) := by decide +kernel
theorem dJ9_floorMod_7cf53_15 : decode cJ9_floorMod_7cf53 15 = .ok (.iload_n 1, 1) := by decide +kernel
theorem dJ9_floorMod_7cf53_16 : decode cJ9_floorMod_7cf53 16 = .ok (.iadd, 1) := by decide +kernel
theorem dJ9_floorMod_7cf53_17 : decode cJ9_floorMod_7cf53 17 = .ok (.ireturn, 1) := by decide +kernel
theorem dJ9_floorMod_7cf53_18 : decode cJ9_floorMod_7cf53 18 = .ok (.iload_n 2, 1) := by decide +kernel
theorem dJ9_floorMod_7cf53_19 : decode cJ9_floorMod_7cf53 19 = .ok (.ireturn, 1) := by decide +kernel
theorem dJ9_min_7cf53_0 : decode cJ9_min_7cf53 0 = .ok (.iload_n 0, 1) := by decide +kernel
theorem dJ9_min_7cf53_1 : decode cJ9_min_7cf53 1 = .ok (.iload_n 1, 1) := by decide +kernel
theorem dJ9_min_7cf53_2 : decode cJ9_min_7cf53 2 = .ok (.if_icmp .gt 7, 3) := by decide +kernel
theorem dJ9_min_7cf53_5 : decode cJ9_min_7cf53 5 = .ok (.iload_n 0, 1) := by decide +kernel
theorem dJ9_min_7cf53_6 : decode cJ9_min_7cf53 6 = .ok (.goto 4, 3) := by decide +kernel
theorem dJ9_min_7cf53_9 : decode cJ9_min_7cf53 9 = .ok (.iload_n 1, 1) := by decide +kernel
theorem dJ9_min_7cf53_10 : decode cJ9_min_7cf53 10 = .ok (.ireturn, 1) := by decide +kernel
theorem dL_word_0 : decode cL_word 0 = .ok (.aload_n 0, 1) := by decide +kernel
theorem dL_word_1 : decode cL_word 1 = .ok (.iload_n 1, 1) := by decide +kernel
theorem dL_word_2 : decode cL_word 2 = .ok (.iload_n 2, 1) := by decide +kernel
theorem dL_word_3 : decode cL_word 3 = .ok (.iload_n 3, 1) := by decide +kernel
theorem dL_word_4 : decode cL_word 4 = .ok (.iload 4, 2) := by decide +kernel
theorem dL_word_6 : decode cL_word 6 = .ok (.iload 5, 2) := by decide +kernel
theorem dL_word_8 : decode cL_word 8 = .ok (.invokevirtual 7, 3) := by decide +kernel
theorem dL_word_11 : decode cL_word 11 = .ok (.goto 7, 3) := by decide +kernel
theorem dL_word_14 : decode cL_word 14 = .ok (.astore 6, 2) := by decide +kernel
theorem dL_word_16 : decode cL_word 16 = .ok (.iconst 1, 1) := by decide +kernel
theorem dL_word_17 : decode cL_word 17 = .ok (.ireturn, 1) := by decide +kernel
theorem dL_word_18 : decode cL_word 18 = .ok (.iconst 0, 1) := by decide +kernel
theorem dL_word_19 : decode cL_word 19 = .ok (.ireturn, 1) := by decide +kernel
theorem dL_start_0 : decode cL_start 0 = .ok (.aload_n 3, 1) := by decide +kernel
theorem dL_start_1 : decode cL_start 1 = .ok (.iconst 0, 1) := by decide +kernel
theorem dL_start_2 : decode cL_start 2 = .ok (.aload_n 0, 1) := by decide +kernel
theorem dL_start_3 : decode cL_start 3 = .ok (.iload_n 1, 1) := by decide +kernel
theorem dL_start_4 : decode cL_start 4 = .ok (.iload_n 2, 1) := by decide +kernel
theorem dL_start_5 : decode cL_start 5 = .ok (.invokevirtual 15, 3) := by decide +kernel
theorem dL_start_8 : decode cL_start 8 = .ok (.i2l, 1) := by decide +kernel
theorem dL_start_9 : decode cL_start 9 = .ok (.lastore, 1) := by decide +kernel
theorem dL_start_10 : decode cL_start 10 = .ok (.goto 11, 3) := by decide +kernel
theorem dL_start_13 : decode cL_start 13 = .ok (.astore 4, 2) := by decide +kernel
theorem dL_start_15 : decode cL_start 15 = .ok (.iconst 1, 1) := by decide +kernel
theorem dL_start_16 : decode cL_start 16 = .ok (.ireturn, 1) := by decide +kernel
theorem dL_start_17 : decode cL_start 17 = .ok (.astore 4, 2) := by decide +kernel
theorem dL_start_19 : decode cL_start 19 = .ok (.iconst 2, 1) := by decide +kernel
theorem dL_start_20 : decode cL_start 20 = .ok (.ireturn, 1) := by decide +kernel
theorem dL_start_21 : decode cL_start 21 = .ok (.iconst 0, 1) := by decide +kernel
theorem dL_start_22 : decode cL_start 22 = .ok (.ireturn, 1) := by decide +kernel
theorem dL_send_0 : decode cL_send 0 = .ok (.aload_n 3, 1) := by decide +kernel
theorem dL_send_1 : decode cL_send 1 = .ok (.iconst 0, 1) := by decide +kernel
theorem dL_send_2 : decode cL_send 2 = .ok (.aload_n 0, 1) := by decide +kernel
theorem dL_send_3 : decode cL_send 3 = .ok (.iload_n 1, 1) := by decide +kernel
theorem dL_send_4 : decode cL_send 4 = .ok (.iload_n 2, 1) := by decide +kernel
theorem dL_send_5 : decode cL_send 5 = .ok (.invokevirtual 21, 3) := by decide +kernel
theorem dL_send_8 : decode cL_send 8 = .ok (.ifCond .eq 7, 3) := by decide +kernel
theorem dL_send_11 : decode cL_send 11 = .ok (.lconst 1, 1) := by decide +kernel
theorem dL_send_12 : decode cL_send 12 = .ok (.goto 4, 3) := by decide +kernel
theorem dL_send_15 : decode cL_send 15 = .ok (.lconst 0, 1) := by decide +kernel
theorem dL_send_16 : decode cL_send 16 = .ok (.lastore, 1) := by decide +kernel
theorem dL_send_17 : decode cL_send 17 = .ok (.goto 7, 3) := by decide +kernel
theorem dL_send_20 : decode cL_send 20 = .ok (.astore 4, 2) := by decide +kernel
theorem dL_send_22 : decode cL_send 22 = .ok (.iconst 1, 1) := by decide +kernel
theorem dL_send_23 : decode cL_send 23 = .ok (.ireturn, 1) := by decide +kernel
theorem dL_send_24 : decode cL_send 24 = .ok (.iconst 0, 1) := by decide +kernel
theorem dL_send_25 : decode cL_send 25 = .ok (.ireturn, 1) := by decide +kernel
theorem dL_run_0 : decode cL_run 0 = .ok (.aload_n 2, 1) := by decide +kernel
theorem dL_run_1 : decode cL_run 1 = .ok (.iconst 0, 1) := by decide +kernel
theorem dL_run_2 : decode cL_run 2 = .ok (.aload_n 0, 1) := by decide +kernel
theorem dL_run_3 : decode cL_run 3 = .ok (.iload_n 1, 1) := by decide +kernel
theorem dL_run_4 : decode cL_run 4 = .ok (.invokevirtual 25, 3) := by decide +kernel
theorem dL_run_7 : decode cL_run 7 = .ok (.i2l, 1) := by decide +kernel
theorem dL_run_8 : decode cL_run 8 = .ok (.lastore, 1) := by decide +kernel
theorem dL_run_9 : decode cL_run 9 = .ok (.goto 6, 3) := by decide +kernel
theorem dL_run_12 : decode cL_run 12 = .ok (.astore_n 3, 1) := by decide +kernel
theorem dL_run_13 : decode cL_run 13 = .ok (.iconst 1, 1) := by decide +kernel
theorem dL_run_14 : decode cL_run 14 = .ok (.ireturn, 1) := by decide +kernel
theorem dL_run_15 : decode cL_run 15 = .ok (.iconst 0, 1) := by decide +kernel
theorem dL_run_16 : decode cL_run 16 = .ok (.ireturn, 1) := by decide +kernel
theorem dL_pass_0 : decode cL_pass 0 = .ok (.aload_n 2, 1) := by decide +kernel
theorem dL_pass_1 : decode cL_pass 1 = .ok (.iconst 0, 1) := by decide +kernel
theorem dL_pass_2 : decode cL_pass 2 = .ok (.aload_n 0, 1) := by decide +kernel
theorem dL_pass_3 : decode cL_pass 3 = .ok (.iload_n 1, 1) := by decide +kernel
theorem dL_pass_4 : decode cL_pass 4 = .ok (.invokevirtual 29, 3) := by decide +kernel
theorem dL_pass_7 : decode cL_pass 7 = .ok (.i2l, 1) := by decide +kernel
theorem dL_pass_8 : decode cL_pass 8 = .ok (.lastore, 1) := by decide +kernel
theorem dL_pass_9 : decode cL_pass 9 = .ok (.goto 6, 3) := by decide +kernel
theorem dL_pass_12 : decode cL_pass 12 = .ok (.astore_n 3, 1) := by decide +kernel
theorem dL_pass_13 : decode cL_pass 13 = .ok (.iconst 1, 1) := by decide +kernel
theorem dL_pass_14 : decode cL_pass 14 = .ok (.ireturn, 1) := by decide +kernel
theorem dL_pass_15 : decode cL_pass 15 = .ok (.iconst 0, 1) := by decide +kernel
theorem dL_pass_16 : decode cL_pass 16 = .ok (.ireturn, 1) := by decide +kernel
theorem dL_process_0 : decode cL_process 0 = .ok (.aload_n 3, 1) := by decide +kernel
theorem dL_process_1 : decode cL_process 1 = .ok (.iconst 0, 1) := by decide +kernel
theorem dL_process_2 : decode cL_process 2 = .ok (.aload_n 0, 1) := by decide +kernel
theorem dL_process_3 : decode cL_process 3 = .ok (.iload_n 1, 1) := by decide +kernel
theorem dL_process_4 : decode cL_process 4 = .ok (.iload_n 2, 1) := by decide +kernel
theorem dL_process_5 : decode cL_process 5 = .ok (.invokevirtual 32, 3) := by decide +kernel
theorem dL_process_8 : decode cL_process 8 = .ok (.i2l, 1) := by decide +kernel
theorem dL_process_9 : decode cL_process 9 = .ok (.lastore, 1) := by decide +kernel
theorem dL_process_10 : decode cL_process 10 = .ok (.goto 7, 3) := by decide +kernel
theorem dL_process_13 : decode cL_process 13 = .ok (.astore 4, 2) := by decide +kernel
theorem dL_process_15 : decode cL_process 15 = .ok (.iconst 1, 1) := by decide +kernel
theorem dL_process_16 : decode cL_process 16 = .ok (.ireturn, 1) := by decide +kernel
theorem dL_process_17 : decode cL_process 17 = .ok (.iconst 0, 1) := by decide +kernel
theorem dL_process_18 : decode cL_process 18 = .ok (.ireturn, 1) := by decide +kernel
theorem dL_register_0 : decode cL_register 0 = .ok (.aload 4, 2) := by decide +kernel
theorem dL_register_2 : decode cL_register 2 = .ok (.iconst 0, 1) := by decide +kernel
theorem dL_register_3 : decode cL_register 3 = .ok (.aload_n 0, 1) := by decide +kernel
theorem dL_register_4 : decode cL_register 4 = .ok (.iload_n 1, 1) := by decide +kernel
theorem dL_register_5 : decode cL_register 5 = .ok (.iload_n 2, 1) := by decide +kernel
theorem dL_register_6 : decode cL_register 6 = .ok (.iload_n 3, 1) := by decide +kernel
theorem dL_register_7 : decode cL_register 7 = .ok (.invokevirtual 35, 3) := by decide +kernel
theorem dL_register_10 : decode cL_register 10 = .ok (.i2l, 1) := by decide +kernel
theorem dL_register_11 : decode cL_register 11 = .ok (.lastore, 1) := by decide +kernel
theorem dL_register_12 : decode cL_register 12 = .ok (.goto 7, 3) := by decide +kernel
theorem dL_register_15 : decode cL_register 15 = .ok (.astore 5, 2) := by decide +kernel
theorem dL_register_17 : decode cL_register 17 = .ok (.iconst 1, 1) := by decide +kernel
theorem dL_register_18 : decode cL_register 18 = .ok (.ireturn, 1) := by decide +kernel
theorem dL_register_19 : decode cL_register 19 = .ok (.iconst 0, 1) := by decide +kernel
theorem dL_register_20 : decode cL_register 20 = .ok (.ireturn, 1) := by decide +kernel
theorem dL_message_0 : decode cL_message 0 = .ok (.aload 4, 2) := by decide +kernel
theorem dL_message_2 : decode cL_message 2 = .ok (.iconst 0, 1) := by decide +kernel
theorem dL_message_3 : decode cL_message 3 = .ok (.aload_n 0, 1) := by decide +kernel
theorem dL_message_4 : decode cL_message 4 = .ok (.iload_n 1, 1) := by decide +kernel
theorem dL_message_5 : decode cL_message 5 = .ok (.iload_n 2, 1) := by decide +kernel
theorem dL_message_6 : decode cL_message 6 = .ok (.iload_n 3, 1) := by decide +kernel
theorem dL_message_7 : decode cL_message 7 = .ok (.invokevirtual 39, 3) := by decide +kernel
theorem dL_message_10 : decode cL_message 10 = .ok (.i2l, 1) := by decide +kernel
theorem dL_message_11 : decode cL_message 11 = .ok (.lastore, 1) := by decide +kernel
theorem dL_message_12 : decode cL_message 12 = .ok (.goto 7, 3) := by decide +kernel
theorem dL_message_15 : decode cL_message 15 = .ok (.astore 5, 2) := by decide +kernel
theorem dL_message_17 : decode cL_message 17 = .ok (.iconst 1, 1) := by decide +kernel
theorem dL_message_18 : decode cL_message 18 = .ok (.ireturn, 1) := by decide +kernel
theorem dL_message_19 : decode cL_message 19 = .ok (.iconst 0, 1) := by decide +kernel
theorem dL_message_20 : decode cL_message 20 = .ok (.ireturn, 1) := by decide +kernel
theorem dL_total_0 : decode cL_total 0 = .ok (.aload_n 2, 1) := by decide +kernel
theorem dL_total_1 : decode cL_total 1 = .ok (.iconst 0, 1) := by decide +kernel
theorem dL_total_2 : decode cL_total 2 = .ok (.aload_n 0, 1) := by decide +kernel
theorem dL_total_3 : decode cL_total 3 = .ok (.iload_n 1, 1) := by decide +kernel
theorem dL_total_4 : decode cL_total 4 = .ok (.invokevirtual 42, 3) := by decide +kernel
theorem dL_total_7 : decode cL_total 7 = .ok (.i2l, 1) := by decide +kernel
theorem dL_total_8 : decode cL_total 8 = .ok (.lastore, 1) := by decide +kernel
theorem dL_total_9 : decode cL_total 9 = .ok (.goto 6, 3) := by decide +kernel
theorem dL_total_12 : decode cL_total 12 = .ok (.astore_n 3, 1) := by decide +kernel
theorem dL_total_13 : decode cL_total 13 = .ok (.iconst 1, 1) := by decide +kernel
theorem dL_total_14 : decode cL_total 14 = .ok (.ireturn, 1) := by decide +kernel
theorem dL_total_15 : decode cL_total 15 = .ok (.iconst 0, 1) := by decide +kernel
theorem dL_total_16 : decode cL_total 16 = .ok (.ireturn, 1) := by decide +kernel
theorem dL_law_0 : decode cL_law 0 = .ok (.new 8, 3) := by decide +kernel
theorem dL_law_3 : decode cL_law 3 = .ok (.dup, 1) := by decide +kernel
theorem dL_law_4 : decode cL_law 4 = .ok (.invokespecial 45, 3) := by decide +kernel
theorem dL_law_7 : decode cL_law 7 = .ok (.astore_n 1, 1) := by decide +kernel
theorem dL_law_8 : decode cL_law 8 = .ok (.new 46, 3) := by decide +kernel
theorem dL_law_11 : decode cL_law 11 = .ok (.dup, 1) := by decide +kernel
theorem dL_law_12 : decode cL_law 12 = .ok (.invokespecial 48, 3) := by decide +kernel
theorem dL_law_15 : decode cL_law 15 = .ok (.astore_n 2, 1) := by decide +kernel
theorem dL_law_16 : decode cL_law 16 = .ok (.iconst 1, 1) := by decide +kernel
theorem dL_law_17 : decode cL_law 17 = .ok (.newarray .long, 2) := by decide +kernel
theorem dL_law_19 : decode cL_law 19 = .ok (.astore_n 3, 1) := by decide +kernel
theorem dL_law_20 : decode cL_law 20 = .ok (.iconst 0, 1) := by decide +kernel
theorem dL_law_21 : decode cL_law 21 = .ok (.istore 4, 2) := by decide +kernel
theorem dL_law_23 : decode cL_law 23 = .ok (.iload 4, 2) := by decide +kernel
theorem dL_law_25 : decode cL_law 25 = .ok (.aload_n 0, 1) := by decide +kernel
theorem dL_law_26 : decode cL_law 26 = .ok (.arraylength, 1) := by decide +kernel
theorem dL_law_27 : decode cL_law 27 = .ok (.bipush 6, 2) := by decide +kernel
theorem dL_law_29 : decode cL_law 29 = .ok (.isub, 1) := by decide +kernel
theorem dL_law_30 : decode cL_law 30 = .ok (.if_icmp .gt 720, 3) := by decide +kernel
theorem dL_law_33 : decode cL_law 33 = .ok (.aload_n 0, 1) := by decide +kernel
theorem dL_law_34 : decode cL_law 34 = .ok (.iload 4, 2) := by decide +kernel
theorem dL_law_36 : decode cL_law 36 = .ok (.iaload, 1) := by decide +kernel
theorem dL_law_37 : decode cL_law 37 = .ok (.bipush 15, 2) := by decide +kernel
theorem dL_law_39 : decode cL_law 39 = .ok (.iand, 1) := by decide +kernel
theorem dL_law_40 : decode cL_law 40 = .ok (.tableswitch 704 0 9 #[56, 140, 208, 283, 339, 395, 420, 488, 568, 648], 56) := by decide +kernel
theorem dL_law_96 : decode cL_law 96 = .ok (.aload_n 1, 1) := by decide +kernel
theorem dL_law_97 : decode cL_law 97 = .ok (.aload_n 0, 1) := by decide +kernel
theorem dL_law_98 : decode cL_law 98 = .ok (.iload 4, 2) := by decide +kernel
theorem dL_law_100 : decode cL_law 100 = .ok (.iconst 1, 1) := by decide +kernel
theorem dL_law_101 : decode cL_law 101 = .ok (.iadd, 1) := by decide +kernel
theorem dL_law_102 : decode cL_law 102 = .ok (.iaload, 1) := by decide +kernel
theorem dL_law_103 : decode cL_law 103 = .ok (.aload_n 0, 1) := by decide +kernel
theorem dL_law_104 : decode cL_law 104 = .ok (.iload 4, 2) := by decide +kernel
theorem dL_law_106 : decode cL_law 106 = .ok (.iconst 2, 1) := by decide +kernel
theorem dL_law_107 : decode cL_law 107 = .ok (.iadd, 1) := by decide +kernel
theorem dL_law_108 : decode cL_law 108 = .ok (.iaload, 1) := by decide +kernel
theorem dL_law_109 : decode cL_law 109 = .ok (.aload_n 0, 1) := by decide +kernel
theorem dL_law_110 : decode cL_law 110 = .ok (.iload 4, 2) := by decide +kernel
theorem dL_law_112 : decode cL_law 112 = .ok (.iconst 3, 1) := by decide +kernel
theorem dL_law_113 : decode cL_law 113 = .ok (.iadd, 1) := by decide +kernel
theorem dL_law_114 : decode cL_law 114 = .ok (.iaload, 1) := by decide +kernel
theorem dL_law_115 : decode cL_law 115 = .ok (.aload_n 0, 1) := by decide +kernel
theorem dL_law_116 : decode cL_law 116 = .ok (.iload 4, 2) := by decide +kernel
theorem dL_law_118 : decode cL_law 118 = .ok (.iconst 4, 1) := by decide +kernel
theorem dL_law_119 : decode cL_law 119 = .ok (.iadd, 1) := by decide +kernel
theorem dL_law_120 : decode cL_law 120 = .ok (.iaload, 1) := by decide +kernel
theorem dL_law_121 : decode cL_law 121 = .ok (.aload_n 0, 1) := by decide +kernel
theorem dL_law_122 : decode cL_law 122 = .ok (.iload 4, 2) := by decide +kernel
theorem dL_law_124 : decode cL_law 124 = .ok (.iconst 5, 1) := by decide +kernel
theorem dL_law_125 : decode cL_law 125 = .ok (.iadd, 1) := by decide +kernel
theorem dL_law_126 : decode cL_law 126 = .ok (.iaload, 1) := by decide +kernel
theorem dL_law_127 : decode cL_law 127 = .ok (.invokestatic 49, 3) := by decide +kernel
theorem dL_law_130 : decode cL_law 130 = .ok (.istore 5, 2) := by decide +kernel
theorem dL_law_132 : decode cL_law 132 = .ok (.aload_n 2, 1) := by decide +kernel
theorem dL_law_133 : decode cL_law 133 = .ok (.aload_n 0, 1) := by decide +kernel
theorem dL_law_134 : decode cL_law 134 = .ok (.iload 4, 2) := by decide +kernel
theorem dL_law_136 : decode cL_law 136 = .ok (.iconst 1, 1) := by decide +kernel
theorem dL_law_137 : decode cL_law 137 = .ok (.iadd, 1) := by decide +kernel
theorem dL_law_138 : decode cL_law 138 = .ok (.iaload, 1) := by decide +kernel
theorem dL_law_139 : decode cL_law 139 = .ok (.aload_n 0, 1) := by decide +kernel
theorem dL_law_140 : decode cL_law 140 = .ok (.iload 4, 2) := by decide +kernel
theorem dL_law_142 : decode cL_law 142 = .ok (.iconst 2, 1) := by decide +kernel
theorem dL_law_143 : decode cL_law 143 = .ok (.iadd, 1) := by decide +kernel
theorem dL_law_144 : decode cL_law 144 = .ok (.iaload, 1) := by decide +kernel
theorem dL_law_145 : decode cL_law 145 = .ok (.aload_n 0, 1) := by decide +kernel
theorem dL_law_146 : decode cL_law 146 = .ok (.iload 4, 2) := by decide +kernel
theorem dL_law_148 : decode cL_law 148 = .ok (.iconst 3, 1) := by decide +kernel
theorem dL_law_149 : decode cL_law 149 = .ok (.iadd, 1) := by decide +kernel
theorem dL_law_150 : decode cL_law 150 = .ok (.iaload, 1) := by decide +kernel
theorem dL_law_151 : decode cL_law 151 = .ok (.aload_n 0, 1) := by decide +kernel
theorem dL_law_152 : decode cL_law 152 = .ok (.iload 4, 2) := by decide +kernel
theorem dL_law_154 : decode cL_law 154 = .ok (.iconst 4, 1) := by decide +kernel
theorem dL_law_155 : decode cL_law 155 = .ok (.iadd, 1) := by decide +kernel
theorem dL_law_156 : decode cL_law 156 = .ok (.iaload, 1) := by decide +kernel
theorem dL_law_157 : decode cL_law 157 = .ok (.aload_n 0, 1) := by decide +kernel
theorem dL_law_158 : decode cL_law 158 = .ok (.iload 4, 2) := by decide +kernel
theorem dL_law_160 : decode cL_law 160 = .ok (.iconst 5, 1) := by decide +kernel
theorem dL_law_161 : decode cL_law 161 = .ok (.iadd, 1) := by decide +kernel
theorem dL_law_162 : decode cL_law 162 = .ok (.iaload, 1) := by decide +kernel
theorem dL_law_163 : decode cL_law 163 = .ok (.invokevirtual 54, 3) := by decide +kernel
theorem dL_law_166 : decode cL_law 166 = .ok (.aload_n 2, 1) := by decide +kernel
theorem dL_law_167 : decode cL_law 167 = .ok (.invokevirtual 55, 3) := by decide +kernel
theorem dL_law_170 : decode cL_law 170 = .ok (.iload 5, 2) := by decide +kernel
theorem dL_law_172 : decode cL_law 172 = .ok (.if_icmp .eq 5, 3) := by decide +kernel
theorem dL_law_175 : decode cL_law 175 = .ok (.iconst 0, 1) := by decide +kernel
theorem dL_law_176 : decode cL_law 176 = .ok (.ireturn, 1) := by decide +kernel
theorem dL_law_177 : decode cL_law 177 = .ok (.goto 567, 3) := by decide +kernel
theorem dL_law_180 : decode cL_law 180 = .ok (.aload_n 1, 1) := by decide +kernel
theorem dL_law_181 : decode cL_law 181 = .ok (.aload_n 0, 1) := by decide +kernel
theorem dL_law_182 : decode cL_law 182 = .ok (.iload 4, 2) := by decide +kernel
theorem dL_law_184 : decode cL_law 184 = .ok (.iconst 1, 1) := by decide +kernel
theorem dL_law_185 : decode cL_law 185 = .ok (.iadd, 1) := by decide +kernel
theorem dL_law_186 : decode cL_law 186 = .ok (.iaload, 1) := by decide +kernel
theorem dL_law_187 : decode cL_law 187 = .ok (.aload_n 0, 1) := by decide +kernel
theorem dL_law_188 : decode cL_law 188 = .ok (.iload 4, 2) := by decide +kernel
theorem dL_law_190 : decode cL_law 190 = .ok (.iconst 2, 1) := by decide +kernel
theorem dL_law_191 : decode cL_law 191 = .ok (.iadd, 1) := by decide +kernel
theorem dL_law_192 : decode cL_law 192 = .ok (.iaload, 1) := by decide +kernel
theorem dL_law_193 : decode cL_law 193 = .ok (.aload_n 3, 1) := by decide +kernel
theorem dL_law_194 : decode cL_law 194 = .ok (.invokestatic 59, 3) := by decide +kernel
theorem dL_law_197 : decode cL_law 197 = .ok (.istore 5, 2) := by decide +kernel
theorem dL_law_199 : decode cL_law 199 = .ok (.aload_n 2, 1) := by decide +kernel
theorem dL_law_200 : decode cL_law 200 = .ok (.aload_n 0, 1) := by decide +kernel
theorem dL_law_201 : decode cL_law 201 = .ok (.iload 4, 2) := by decide +kernel
theorem dL_law_203 : decode cL_law 203 = .ok (.iconst 1, 1) := by decide +kernel
theorem dL_law_204 : decode cL_law 204 = .ok (.iadd, 1) := by decide +kernel
theorem dL_law_205 : decode cL_law 205 = .ok (.iaload, 1) := by decide +kernel
theorem dL_law_206 : decode cL_law 206 = .ok (.aload_n 0, 1) := by decide +kernel
theorem dL_law_207 : decode cL_law 207 = .ok (.iload 4, 2) := by decide +kernel
theorem dL_law_209 : decode cL_law 209 = .ok (.iconst 2, 1) := by decide +kernel
theorem dL_law_210 : decode cL_law 210 = .ok (.iadd, 1) := by decide +kernel
theorem dL_law_211 : decode cL_law 211 = .ok (.iaload, 1) := by decide +kernel
theorem dL_law_212 : decode cL_law 212 = .ok (.invokevirtual 62, 3) := by decide +kernel
theorem dL_law_215 : decode cL_law 215 = .ok (.istore 6, 2) := by decide +kernel
theorem dL_law_217 : decode cL_law 217 = .ok (.aload_n 2, 1) := by decide +kernel
theorem dL_law_218 : decode cL_law 218 = .ok (.invokevirtual 55, 3) := by decide +kernel
theorem dL_law_221 : decode cL_law 221 = .ok (.iload 5, 2) := by decide +kernel
theorem dL_law_223 : decode cL_law 223 = .ok (.if_icmp .eq 5, 3) := by decide +kernel
theorem dL_law_226 : decode cL_law 226 = .ok (.iconst 0, 1) := by decide +kernel
theorem dL_law_227 : decode cL_law 227 = .ok (.ireturn, 1) := by decide +kernel
theorem dL_law_228 : decode cL_law 228 = .ok (.iload 5, 2) := by decide +kernel
theorem dL_law_230 : decode cL_law 230 = .ok (.ifCond .ne 15, 3) := by decide +kernel
theorem dL_law_233 : decode cL_law 233 = .ok (.aload_n 3, 1) := by decide +kernel
theorem dL_law_234 : decode cL_law 234 = .ok (.iconst 0, 1) := by decide +kernel
theorem dL_law_235 : decode cL_law 235 = .ok (.laload, 1) := by decide +kernel
theorem dL_law_236 : decode cL_law 236 = .ok (.iload 6, 2) := by decide +kernel
theorem dL_law_238 : decode cL_law 238 = .ok (.i2l, 1) := by decide +kernel
theorem dL_law_239 : decode cL_law 239 = .ok (.lcmp, 1) := by decide +kernel
theorem dL_law_240 : decode cL_law 240 = .ok (.ifCond .eq 5, 3) := by decide +kernel
theorem dL_law_243 : decode cL_law 243 = .ok (.iconst 0, 1) := by decide +kernel
theorem dL_law_244 : decode cL_law 244 = .ok (.ireturn, 1) := by decide +kernel
theorem dL_law_245 : decode cL_law 245 = .ok (.goto 499, 3) := by decide +kernel
theorem dL_law_248 : decode cL_law 248 = .ok (.aload_n 1, 1) := by decide +kernel
theorem dL_law_249 : decode cL_law 249 = .ok (.aload_n 0, 1) := by decide +kernel
theorem dL_law_250 : decode cL_law 250 = .ok (.iload 4, 2) := by decide +kernel
theorem dL_law_252 : decode cL_law 252 = .ok (.iconst 1, 1) := by decide +kernel
theorem dL_law_253 : decode cL_law 253 = .ok (.iadd, 1) := by decide +kernel
theorem dL_law_254 : decode cL_law 254 = .ok (.iaload, 1) := by decide +kernel
theorem dL_law_255 : decode cL_law 255 = .ok (.aload_n 0, 1) := by decide +kernel
theorem dL_law_256 : decode cL_law 256 = .ok (.iload 4, 2) := by decide +kernel
theorem dL_law_258 : decode cL_law 258 = .ok (.iconst 2, 1) := by decide +kernel
theorem dL_law_259 : decode cL_law 259 = .ok (.iadd, 1) := by decide +kernel
theorem dL_law_260 : decode cL_law 260 = .ok (.iaload, 1) := by decide +kernel
theorem dL_law_261 : decode cL_law 261 = .ok (.aload_n 3, 1) := by decide +kernel
theorem dL_law_262 : decode cL_law 262 = .ok (.invokestatic 63, 3) := by decide +kernel
theorem dL_law_265 : decode cL_law 265 = .ok (.istore 5, 2) := by decide +kernel
theorem dL_law_267 : decode cL_law 267 = .ok (.aload_n 2, 1) := by decide +kernel
theorem dL_law_268 : decode cL_law 268 = .ok (.aload_n 0, 1) := by decide +kernel
theorem dL_law_269 : decode cL_law 269 = .ok (.iload 4, 2) := by decide +kernel
theorem dL_law_271 : decode cL_law 271 = .ok (.iconst 1, 1) := by decide +kernel
theorem dL_law_272 : decode cL_law 272 = .ok (.iadd, 1) := by decide +kernel
theorem dL_law_273 : decode cL_law 273 = .ok (.iaload, 1) := by decide +kernel
theorem dL_law_274 : decode cL_law 274 = .ok (.aload_n 0, 1) := by decide +kernel
theorem dL_law_275 : decode cL_law 275 = .ok (.iload 4, 2) := by decide +kernel
theorem dL_law_277 : decode cL_law 277 = .ok (.iconst 2, 1) := by decide +kernel
theorem dL_law_278 : decode cL_law 278 = .ok (.iadd, 1) := by decide +kernel
theorem dL_law_279 : decode cL_law 279 = .ok (.iaload, 1) := by decide +kernel
theorem dL_law_280 : decode cL_law 280 = .ok (.invokevirtual 65, 3) := by decide +kernel
theorem dL_law_283 : decode cL_law 283 = .ok (.istore 6, 2) := by decide +kernel
theorem dL_law_285 : decode cL_law 285 = .ok (.aload_n 2, 1) := by decide +kernel
theorem dL_law_286 : decode cL_law 286 = .ok (.invokevirtual 55, 3) := by decide +kernel
theorem dL_law_289 : decode cL_law 289 = .ok (.iload 5, 2) := by decide +kernel
theorem dL_law_291 : decode cL_law 291 = .ok (.if_icmp .eq 5, 3) := by decide +kernel
theorem dL_law_294 : decode cL_law 294 = .ok (.iconst 0, 1) := by decide +kernel
theorem dL_law_295 : decode cL_law 295 = .ok (.ireturn, 1) := by decide +kernel
theorem dL_law_296 : decode cL_law 296 = .ok (.iload 5, 2) := by decide +kernel
theorem dL_law_298 : decode cL_law 298 = .ok (.ifCond .ne 22, 3) := by decide +kernel
theorem dL_law_301 : decode cL_law 301 = .ok (.aload_n 3, 1) := by decide +kernel
theorem dL_law_302 : decode cL_law 302 = .ok (.iconst 0, 1) := by decide +kernel
theorem dL_law_303 : decode cL_law 303 = .ok (.laload, 1) := by decide +kernel
theorem dL_law_304 : decode cL_law 304 = .ok (.iload 6, 2) := by decide +kernel
theorem dL_law_306 : decode cL_law 306 = .ok (.ifCond .eq 7, 3) := by decide +kernel
theorem dL_law_309 : decode cL_law 309 = .ok (.lconst 1, 1) := by decide +kernel
theorem dL_law_310 : decode cL_law 310 = .ok (.goto 4, 3) := by decide +kernel
theorem dL_law_313 : decode cL_law 313 = .ok (.lconst 0, 1) := by decide +kernel
theorem dL_law_314 : decode cL_law 314 = .ok (.lcmp, 1) := by decide +kernel
theorem dL_law_315 : decode cL_law 315 = .ok (.ifCond .eq 5, 3) := by decide +kernel
theorem dL_law_318 : decode cL_law 318 = .ok (.iconst 0, 1) := by decide +kernel
theorem dL_law_319 : decode cL_law 319 = .ok (.ireturn, 1) := by decide +kernel
theorem dL_law_320 : decode cL_law 320 = .ok (.goto 424, 3) := by decide +kernel
theorem dL_law_323 : decode cL_law 323 = .ok (.aload_n 1, 1) := by decide +kernel
theorem dL_law_324 : decode cL_law 324 = .ok (.aload_n 0, 1) := by decide +kernel
theorem dL_law_325 : decode cL_law 325 = .ok (.iload 4, 2) := by decide +kernel
theorem dL_law_327 : decode cL_law 327 = .ok (.iconst 1, 1) := by decide +kernel
theorem dL_law_328 : decode cL_law 328 = .ok (.iadd, 1) := by decide +kernel
theorem dL_law_329 : decode cL_law 329 = .ok (.iaload, 1) := by decide +kernel
theorem dL_law_330 : decode cL_law 330 = .ok (.aload_n 3, 1) := by decide +kernel
theorem dL_law_331 : decode cL_law 331 = .ok (.invokestatic 66, 3) := by decide +kernel
theorem dL_law_334 : decode cL_law 334 = .ok (.istore 5, 2) := by decide +kernel
theorem dL_law_336 : decode cL_law 336 = .ok (.aload_n 2, 1) := by decide +kernel
theorem dL_law_337 : decode cL_law 337 = .ok (.aload_n 0, 1) := by decide +kernel
theorem dL_law_338 : decode cL_law 338 = .ok (.iload 4, 2) := by decide +kernel
theorem dL_law_340 : decode cL_law 340 = .ok (.iconst 1, 1) := by decide +kernel
theorem dL_law_341 : decode cL_law 341 = .ok (.iadd, 1) := by decide +kernel
theorem dL_law_342 : decode cL_law 342 = .ok (.iaload, 1) := by decide +kernel
theorem dL_law_343 : decode cL_law 343 = .ok (.invokevirtual 69, 3) := by decide +kernel
theorem dL_law_346 : decode cL_law 346 = .ok (.istore 6, 2) := by decide +kernel
theorem dL_law_348 : decode cL_law 348 = .ok (.aload_n 2, 1) := by decide +kernel
theorem dL_law_349 : decode cL_law 349 = .ok (.invokevirtual 55, 3) := by decide +kernel
theorem dL_law_352 : decode cL_law 352 = .ok (.iload 5, 2) := by decide +kernel
theorem dL_law_354 : decode cL_law 354 = .ok (.if_icmp .eq 5, 3) := by decide +kernel
theorem dL_law_357 : decode cL_law 357 = .ok (.iconst 0, 1) := by decide +kernel
theorem dL_law_358 : decode cL_law 358 = .ok (.ireturn, 1) := by decide +kernel
theorem dL_law_359 : decode cL_law 359 = .ok (.iload 5, 2) := by decide +kernel
theorem dL_law_361 : decode cL_law 361 = .ok (.ifCond .ne 15, 3) := by decide +kernel
theorem dL_law_364 : decode cL_law 364 = .ok (.aload_n 3, 1) := by decide +kernel
theorem dL_law_365 : decode cL_law 365 = .ok (.iconst 0, 1) := by decide +kernel
theorem dL_law_366 : decode cL_law 366 = .ok (.laload, 1) := by decide +kernel
theorem dL_law_367 : decode cL_law 367 = .ok (.iload 6, 2) := by decide +kernel
theorem dL_law_369 : decode cL_law 369 = .ok (.i2l, 1) := by decide +kernel
theorem dL_law_370 : decode cL_law 370 = .ok (.lcmp, 1) := by decide +kernel
theorem dL_law_371 : decode cL_law 371 = .ok (.ifCond .eq 5, 3) := by decide +kernel
theorem dL_law_374 : decode cL_law 374 = .ok (.iconst 0, 1) := by decide +kernel
theorem dL_law_375 : decode cL_law 375 = .ok (.ireturn, 1) := by decide +kernel
theorem dL_law_376 : decode cL_law 376 = .ok (.goto 368, 3) := by decide +kernel
theorem dL_law_379 : decode cL_law 379 = .ok (.aload_n 1, 1) := by decide +kernel
theorem dL_law_380 : decode cL_law 380 = .ok (.aload_n 0, 1) := by decide +kernel
theorem dL_law_381 : decode cL_law 381 = .ok (.iload 4, 2) := by decide +kernel
theorem dL_law_383 : decode cL_law 383 = .ok (.iconst 1, 1) := by decide +kernel
theorem dL_law_384 : decode cL_law 384 = .ok (.iadd, 1) := by decide +kernel
theorem dL_law_385 : decode cL_law 385 = .ok (.iaload, 1) := by decide +kernel
theorem dL_law_386 : decode cL_law 386 = .ok (.aload_n 3, 1) := by decide +kernel
theorem dL_law_387 : decode cL_law 387 = .ok (.invokestatic 70, 3) := by decide +kernel
theorem dL_law_390 : decode cL_law 390 = .ok (.istore 5, 2) := by decide +kernel
theorem dL_law_392 : decode cL_law 392 = .ok (.aload_n 2, 1) := by decide +kernel
theorem dL_law_393 : decode cL_law 393 = .ok (.aload_n 0, 1) := by decide +kernel
theorem dL_law_394 : decode cL_law 394 = .ok (.iload 4, 2) := by decide +kernel
theorem dL_law_396 : decode cL_law 396 = .ok (.iconst 1, 1) := by decide +kernel
theorem dL_law_397 : decode cL_law 397 = .ok (.iadd, 1) := by decide +kernel
theorem dL_law_398 : decode cL_law 398 = .ok (.iaload, 1) := by decide +kernel
theorem dL_law_399 : decode cL_law 399 = .ok (.invokevirtual 72, 3) := by decide +kernel
theorem dL_law_402 : decode cL_law 402 = .ok (.istore 6, 2) := by decide +kernel
theorem dL_law_404 : decode cL_law 404 = .ok (.aload_n 2, 1) := by decide +kernel
theorem dL_law_405 : decode cL_law 405 = .ok (.invokevirtual 55, 3) := by decide +kernel
theorem dL_law_408 : decode cL_law 408 = .ok (.iload 5, 2) := by decide +kernel
theorem dL_law_410 : decode cL_law 410 = .ok (.if_icmp .eq 5, 3) := by decide +kernel
theorem dL_law_413 : decode cL_law 413 = .ok (.iconst 0, 1) := by decide +kernel
theorem dL_law_414 : decode cL_law 414 = .ok (.ireturn, 1) := by decide +kernel
theorem dL_law_415 : decode cL_law 415 = .ok (.iload 5, 2) := by decide +kernel
theorem dL_law_417 : decode cL_law 417 = .ok (.ifCond .ne 15, 3) := by decide +kernel
theorem dL_law_420 : decode cL_law 420 = .ok (.aload_n 3, 1) := by decide +kernel
theorem dL_law_421 : decode cL_law 421 = .ok (.iconst 0, 1) := by decide +kernel
theorem dL_law_422 : decode cL_law 422 = .ok (.laload, 1) := by decide +kernel
theorem dL_law_423 : decode cL_law 423 = .ok (.iload 6, 2) := by decide +kernel
theorem dL_law_425 : decode cL_law 425 = .ok (.i2l, 1) := by decide +kernel
theorem dL_law_426 : decode cL_law 426 = .ok (.lcmp, 1) := by decide +kernel
theorem dL_law_427 : decode cL_law 427 = .ok (.ifCond .eq 5, 3) := by decide +kernel
theorem dL_law_430 : decode cL_law 430 = .ok (.iconst 0, 1) := by decide +kernel
theorem dL_law_431 : decode cL_law 431 = .ok (.ireturn, 1) := by decide +kernel
theorem dL_law_432 : decode cL_law 432 = .ok (.goto 312, 3) := by decide +kernel
theorem dL_law_435 : decode cL_law 435 = .ok (.aload_n 1, 1) := by decide +kernel
theorem dL_law_436 : decode cL_law 436 = .ok (.aload_n 0, 1) := by decide +kernel
theorem dL_law_437 : decode cL_law 437 = .ok (.iload 4, 2) := by decide +kernel
theorem dL_law_439 : decode cL_law 439 = .ok (.iconst 1, 1) := by decide +kernel
theorem dL_law_440 : decode cL_law 440 = .ok (.iadd, 1) := by decide +kernel
theorem dL_law_441 : decode cL_law 441 = .ok (.iaload, 1) := by decide +kernel
theorem dL_law_442 : decode cL_law 442 = .ok (.invokevirtual 73, 3) := by decide +kernel
theorem dL_law_445 : decode cL_law 445 = .ok (.aload_n 2, 1) := by decide +kernel
theorem dL_law_446 : decode cL_law 446 = .ok (.aload_n 0, 1) := by decide +kernel
theorem dL_law_447 : decode cL_law 447 = .ok (.iload 4, 2) := by decide +kernel
theorem dL_law_449 : decode cL_law 449 = .ok (.iconst 1, 1) := by decide +kernel
theorem dL_law_450 : decode cL_law 450 = .ok (.iadd, 1) := by decide +kernel
theorem dL_law_451 : decode cL_law 451 = .ok (.iaload, 1) := by decide +kernel
theorem dL_law_452 : decode cL_law 452 = .ok (.invokevirtual 76, 3) := by decide +kernel
theorem dL_law_455 : decode cL_law 455 = .ok (.if_icmp .eq 289, 3) := by decide +kernel
theorem dL_law_458 : decode cL_law 458 = .ok (.iconst 0, 1) := by decide +kernel
theorem dL_law_459 : decode cL_law 459 = .ok (.ireturn, 1) := by decide +kernel
theorem dL_law_460 : decode cL_law 460 = .ok (.aload_n 1, 1) := by decide +kernel
theorem dL_law_461 : decode cL_law 461 = .ok (.aload_n 0, 1) := by decide +kernel
theorem dL_law_462 : decode cL_law 462 = .ok (.iload 4, 2) := by decide +kernel
theorem dL_law_464 : decode cL_law 464 = .ok (.iconst 1, 1) := by decide +kernel
theorem dL_law_465 : decode cL_law 465 = .ok (.iadd, 1) := by decide +kernel
theorem dL_law_466 : decode cL_law 466 = .ok (.iaload, 1) := by decide +kernel
theorem dL_law_467 : decode cL_law 467 = .ok (.aload_n 0, 1) := by decide +kernel
theorem dL_law_468 : decode cL_law 468 = .ok (.iload 4, 2) := by decide +kernel
theorem dL_law_470 : decode cL_law 470 = .ok (.iconst 2, 1) := by decide +kernel
theorem dL_law_471 : decode cL_law 471 = .ok (.iadd, 1) := by decide +kernel
theorem dL_law_472 : decode cL_law 472 = .ok (.iaload, 1) := by decide +kernel
theorem dL_law_473 : decode cL_law 473 = .ok (.aload_n 3, 1) := by decide +kernel
theorem dL_law_474 : decode cL_law 474 = .ok (.invokestatic 77, 3) := by decide +kernel
theorem dL_law_477 : decode cL_law 477 = .ok (.istore 5, 2) := by decide +kernel
theorem dL_law_479 : decode cL_law 479 = .ok (.aload_n 2, 1) := by decide +kernel
theorem dL_law_480 : decode cL_law 480 = .ok (.aload_n 0, 1) := by decide +kernel
theorem dL_law_481 : decode cL_law 481 = .ok (.iload 4, 2) := by decide +kernel
theorem dL_law_483 : decode cL_law 483 = .ok (.iconst 1, 1) := by decide +kernel
theorem dL_law_484 : decode cL_law 484 = .ok (.iadd, 1) := by decide +kernel
theorem dL_law_485 : decode cL_law 485 = .ok (.iaload, 1) := by decide +kernel
theorem dL_law_486 : decode cL_law 486 = .ok (.aload_n 0, 1) := by decide +kernel
theorem dL_law_487 : decode cL_law 487 = .ok (.iload 4, 2) := by decide +kernel
theorem dL_law_489 : decode cL_law 489 = .ok (.iconst 2, 1) := by decide +kernel
theorem dL_law_490 : decode cL_law 490 = .ok (.iadd, 1) := by decide +kernel
theorem dL_law_491 : decode cL_law 491 = .ok (.iaload, 1) := by decide +kernel
theorem dL_law_492 : decode cL_law 492 = .ok (.invokevirtual 79, 3) := by decide +kernel
theorem dL_law_495 : decode cL_law 495 = .ok (.istore 6, 2) := by decide +kernel
theorem dL_law_497 : decode cL_law 497 = .ok (.aload_n 2, 1) := by decide +kernel
theorem dL_law_498 : decode cL_law 498 = .ok (.invokevirtual 55, 3) := by decide +kernel
theorem dL_law_501 : decode cL_law 501 = .ok (.iload 5, 2) := by decide +kernel
theorem dL_law_503 : decode cL_law 503 = .ok (.if_icmp .eq 5, 3) := by decide +kernel
theorem dL_law_506 : decode cL_law 506 = .ok (.iconst 0, 1) := by decide +kernel
theorem dL_law_507 : decode cL_law 507 = .ok (.ireturn, 1) := by decide +kernel
theorem dL_law_508 : decode cL_law 508 = .ok (.iload 5, 2) := by decide +kernel
theorem dL_law_510 : decode cL_law 510 = .ok (.ifCond .ne 15, 3) := by decide +kernel
theorem dL_law_513 : decode cL_law 513 = .ok (.aload_n 3, 1) := by decide +kernel
theorem dL_law_514 : decode cL_law 514 = .ok (.iconst 0, 1) := by decide +kernel
theorem dL_law_515 : decode cL_law 515 = .ok (.laload, 1) := by decide +kernel
theorem dL_law_516 : decode cL_law 516 = .ok (.iload 6, 2) := by decide +kernel
theorem dL_law_518 : decode cL_law 518 = .ok (.i2l, 1) := by decide +kernel
theorem dL_law_519 : decode cL_law 519 = .ok (.lcmp, 1) := by decide +kernel
theorem dL_law_520 : decode cL_law 520 = .ok (.ifCond .eq 5, 3) := by decide +kernel
theorem dL_law_523 : decode cL_law 523 = .ok (.iconst 0, 1) := by decide +kernel
theorem dL_law_524 : decode cL_law 524 = .ok (.ireturn, 1) := by decide +kernel
theorem dL_law_525 : decode cL_law 525 = .ok (.goto 219, 3) := by decide +kernel
theorem dL_law_528 : decode cL_law 528 = .ok (.aload_n 1, 1) := by decide +kernel
theorem dL_law_529 : decode cL_law 529 = .ok (.aload_n 0, 1) := by decide +kernel
theorem dL_law_530 : decode cL_law 530 = .ok (.iload 4, 2) := by decide +kernel
theorem dL_law_532 : decode cL_law 532 = .ok (.iconst 1, 1) := by decide +kernel
theorem dL_law_533 : decode cL_law 533 = .ok (.iadd, 1) := by decide +kernel
theorem dL_law_534 : decode cL_law 534 = .ok (.iaload, 1) := by decide +kernel
theorem dL_law_535 : decode cL_law 535 = .ok (.aload_n 0, 1) := by decide +kernel
theorem dL_law_536 : decode cL_law 536 = .ok (.iload 4, 2) := by decide +kernel
theorem dL_law_538 : decode cL_law 538 = .ok (.iconst 2, 1) := by decide +kernel
theorem dL_law_539 : decode cL_law 539 = .ok (.iadd, 1) := by decide +kernel
theorem dL_law_540 : decode cL_law 540 = .ok (.iaload, 1) := by decide +kernel
theorem dL_law_541 : decode cL_law 541 = .ok (.aload_n 0, 1) := by decide +kernel
theorem dL_law_542 : decode cL_law 542 = .ok (.iload 4, 2) := by decide +kernel
theorem dL_law_544 : decode cL_law 544 = .ok (.iconst 3, 1) := by decide +kernel
theorem dL_law_545 : decode cL_law 545 = .ok (.iadd, 1) := by decide +kernel
theorem dL_law_546 : decode cL_law 546 = .ok (.iaload, 1) := by decide +kernel
theorem dL_law_547 : decode cL_law 547 = .ok (.aload_n 3, 1) := by decide +kernel
theorem dL_law_548 : decode cL_law 548 = .ok (.invokestatic 80, 3) := by decide +kernel
theorem dL_law_551 : decode cL_law 551 = .ok (.istore 5, 2) := by decide +kernel
theorem dL_law_553 : decode cL_law 553 = .ok (.aload_n 2, 1) := by decide +kernel
theorem dL_law_554 : decode cL_law 554 = .ok (.aload_n 0, 1) := by decide +kernel
theorem dL_law_555 : decode cL_law 555 = .ok (.iload 4, 2) := by decide +kernel
theorem dL_law_557 : decode cL_law 557 = .ok (.iconst 1, 1) := by decide +kernel
theorem dL_law_558 : decode cL_law 558 = .ok (.iadd, 1) := by decide +kernel
theorem dL_law_559 : decode cL_law 559 = .ok (.iaload, 1) := by decide +kernel
theorem dL_law_560 : decode cL_law 560 = .ok (.aload_n 0, 1) := by decide +kernel
theorem dL_law_561 : decode cL_law 561 = .ok (.iload 4, 2) := by decide +kernel
theorem dL_law_563 : decode cL_law 563 = .ok (.iconst 2, 1) := by decide +kernel
theorem dL_law_564 : decode cL_law 564 = .ok (.iadd, 1) := by decide +kernel
theorem dL_law_565 : decode cL_law 565 = .ok (.iaload, 1) := by decide +kernel
theorem dL_law_566 : decode cL_law 566 = .ok (.aload_n 0, 1) := by decide +kernel
theorem dL_law_567 : decode cL_law 567 = .ok (.iload 4, 2) := by decide +kernel
theorem dL_law_569 : decode cL_law 569 = .ok (.iconst 3, 1) := by decide +kernel
theorem dL_law_570 : decode cL_law 570 = .ok (.iadd, 1) := by decide +kernel
theorem dL_law_571 : decode cL_law 571 = .ok (.iaload, 1) := by decide +kernel
theorem dL_law_572 : decode cL_law 572 = .ok (.invokevirtual 83, 3) := by decide +kernel
theorem dL_law_575 : decode cL_law 575 = .ok (.istore 6, 2) := by decide +kernel
theorem dL_law_577 : decode cL_law 577 = .ok (.aload_n 2, 1) := by decide +kernel
theorem dL_law_578 : decode cL_law 578 = .ok (.invokevirtual 55, 3) := by decide +kernel
theorem dL_law_581 : decode cL_law 581 = .ok (.iload 5, 2) := by decide +kernel
theorem dL_law_583 : decode cL_law 583 = .ok (.if_icmp .eq 5, 3) := by decide +kernel
theorem dL_law_586 : decode cL_law 586 = .ok (.iconst 0, 1) := by decide +kernel
theorem dL_law_587 : decode cL_law 587 = .ok (.ireturn, 1) := by decide +kernel
theorem dL_law_588 : decode cL_law 588 = .ok (.iload 5, 2) := by decide +kernel
theorem dL_law_590 : decode cL_law 590 = .ok (.ifCond .ne 15, 3) := by decide +kernel
theorem dL_law_593 : decode cL_law 593 = .ok (.aload_n 3, 1) := by decide +kernel
theorem dL_law_594 : decode cL_law 594 = .ok (.iconst 0, 1) := by decide +kernel
theorem dL_law_595 : decode cL_law 595 = .ok (.laload, 1) := by decide +kernel
theorem dL_law_596 : decode cL_law 596 = .ok (.iload 6, 2) := by decide +kernel
theorem dL_law_598 : decode cL_law 598 = .ok (.i2l, 1) := by decide +kernel
theorem dL_law_599 : decode cL_law 599 = .ok (.lcmp, 1) := by decide +kernel
theorem dL_law_600 : decode cL_law 600 = .ok (.ifCond .eq 5, 3) := by decide +kernel
theorem dL_law_603 : decode cL_law 603 = .ok (.iconst 0, 1) := by decide +kernel
theorem dL_law_604 : decode cL_law 604 = .ok (.ireturn, 1) := by decide +kernel
theorem dL_law_605 : decode cL_law 605 = .ok (.goto 139, 3) := by decide +kernel
theorem dL_law_608 : decode cL_law 608 = .ok (.aload_n 1, 1) := by decide +kernel
theorem dL_law_609 : decode cL_law 609 = .ok (.aload_n 0, 1) := by decide +kernel
theorem dL_law_610 : decode cL_law 610 = .ok (.iload 4, 2) := by decide +kernel
theorem dL_law_612 : decode cL_law 612 = .ok (.iconst 1, 1) := by decide +kernel
theorem dL_law_613 : decode cL_law 613 = .ok (.iadd, 1) := by decide +kernel
theorem dL_law_614 : decode cL_law 614 = .ok (.iaload, 1) := by decide +kernel
theorem dL_law_615 : decode cL_law 615 = .ok (.aload_n 0, 1) := by decide +kernel
theorem dL_law_616 : decode cL_law 616 = .ok (.iload 4, 2) := by decide +kernel
theorem dL_law_618 : decode cL_law 618 = .ok (.iconst 2, 1) := by decide +kernel
theorem dL_law_619 : decode cL_law 619 = .ok (.iadd, 1) := by decide +kernel
theorem dL_law_620 : decode cL_law 620 = .ok (.iaload, 1) := by decide +kernel
theorem dL_law_621 : decode cL_law 621 = .ok (.aload_n 0, 1) := by decide +kernel
theorem dL_law_622 : decode cL_law 622 = .ok (.iload 4, 2) := by decide +kernel
theorem dL_law_624 : decode cL_law 624 = .ok (.iconst 3, 1) := by decide +kernel
theorem dL_law_625 : decode cL_law 625 = .ok (.iadd, 1) := by decide +kernel
theorem dL_law_626 : decode cL_law 626 = .ok (.iaload, 1) := by decide +kernel
theorem dL_law_627 : decode cL_law 627 = .ok (.aload_n 3, 1) := by decide +kernel
theorem dL_law_628 : decode cL_law 628 = .ok (.invokestatic 84, 3) := by decide +kernel
theorem dL_law_631 : decode cL_law 631 = .ok (.istore 5, 2) := by decide +kernel
theorem dL_law_633 : decode cL_law 633 = .ok (.aload_n 2, 1) := by decide +kernel
theorem dL_law_634 : decode cL_law 634 = .ok (.aload_n 0, 1) := by decide +kernel
theorem dL_law_635 : decode cL_law 635 = .ok (.iload 4, 2) := by decide +kernel
theorem dL_law_637 : decode cL_law 637 = .ok (.iconst 1, 1) := by decide +kernel
theorem dL_law_638 : decode cL_law 638 = .ok (.iadd, 1) := by decide +kernel
theorem dL_law_639 : decode cL_law 639 = .ok (.iaload, 1) := by decide +kernel
theorem dL_law_640 : decode cL_law 640 = .ok (.aload_n 0, 1) := by decide +kernel
theorem dL_law_641 : decode cL_law 641 = .ok (.iload 4, 2) := by decide +kernel
theorem dL_law_643 : decode cL_law 643 = .ok (.iconst 2, 1) := by decide +kernel
theorem dL_law_644 : decode cL_law 644 = .ok (.iadd, 1) := by decide +kernel
theorem dL_law_645 : decode cL_law 645 = .ok (.iaload, 1) := by decide +kernel
theorem dL_law_646 : decode cL_law 646 = .ok (.aload_n 0, 1) := by decide +kernel
theorem dL_law_647 : decode cL_law 647 = .ok (.iload 4, 2) := by decide +kernel
theorem dL_law_649 : decode cL_law 649 = .ok (.iconst 3, 1) := by decide +kernel
theorem dL_law_650 : decode cL_law 650 = .ok (.iadd, 1) := by decide +kernel
theorem dL_law_651 : decode cL_law 651 = .ok (.iaload, 1) := by decide +kernel
theorem dL_law_652 : decode cL_law 652 = .ok (.invokevirtual 86, 3) := by decide +kernel
theorem dL_law_655 : decode cL_law 655 = .ok (.istore 6, 2) := by decide +kernel
theorem dL_law_657 : decode cL_law 657 = .ok (.aload_n 2, 1) := by decide +kernel
theorem dL_law_658 : decode cL_law 658 = .ok (.invokevirtual 55, 3) := by decide +kernel
theorem dL_law_661 : decode cL_law 661 = .ok (.iload 5, 2) := by decide +kernel
theorem dL_law_663 : decode cL_law 663 = .ok (.if_icmp .eq 5, 3) := by decide +kernel
theorem dL_law_666 : decode cL_law 666 = .ok (.iconst 0, 1) := by decide +kernel
theorem dL_law_667 : decode cL_law 667 = .ok (.ireturn, 1) := by decide +kernel
theorem dL_law_668 : decode cL_law 668 = .ok (.iload 5, 2) := by decide +kernel
theorem dL_law_670 : decode cL_law 670 = .ok (.ifCond .ne 15, 3) := by decide +kernel
theorem dL_law_673 : decode cL_law 673 = .ok (.aload_n 3, 1) := by decide +kernel
theorem dL_law_674 : decode cL_law 674 = .ok (.iconst 0, 1) := by decide +kernel
theorem dL_law_675 : decode cL_law 675 = .ok (.laload, 1) := by decide +kernel
theorem dL_law_676 : decode cL_law 676 = .ok (.iload 6, 2) := by decide +kernel
theorem dL_law_678 : decode cL_law 678 = .ok (.i2l, 1) := by decide +kernel
theorem dL_law_679 : decode cL_law 679 = .ok (.lcmp, 1) := by decide +kernel
theorem dL_law_680 : decode cL_law 680 = .ok (.ifCond .eq 5, 3) := by decide +kernel
theorem dL_law_683 : decode cL_law 683 = .ok (.iconst 0, 1) := by decide +kernel
theorem dL_law_684 : decode cL_law 684 = .ok (.ireturn, 1) := by decide +kernel
theorem dL_law_685 : decode cL_law 685 = .ok (.goto 59, 3) := by decide +kernel
theorem dL_law_688 : decode cL_law 688 = .ok (.aload_n 1, 1) := by decide +kernel
theorem dL_law_689 : decode cL_law 689 = .ok (.aload_n 0, 1) := by decide +kernel
theorem dL_law_690 : decode cL_law 690 = .ok (.iload 4, 2) := by decide +kernel
theorem dL_law_692 : decode cL_law 692 = .ok (.iconst 1, 1) := by decide +kernel
theorem dL_law_693 : decode cL_law 693 = .ok (.iadd, 1) := by decide +kernel
theorem dL_law_694 : decode cL_law 694 = .ok (.iaload, 1) := by decide +kernel
theorem dL_law_695 : decode cL_law 695 = .ok (.aload_n 3, 1) := by decide +kernel
theorem dL_law_696 : decode cL_law 696 = .ok (.invokestatic 87, 3) := by decide +kernel
theorem dL_law_699 : decode cL_law 699 = .ok (.istore 5, 2) := by decide +kernel
theorem dL_law_701 : decode cL_law 701 = .ok (.aload_n 2, 1) := by decide +kernel
theorem dL_law_702 : decode cL_law 702 = .ok (.aload_n 0, 1) := by decide +kernel
theorem dL_law_703 : decode cL_law 703 = .ok (.iload 4, 2) := by decide +kernel
theorem dL_law_705 : decode cL_law 705 = .ok (.iconst 1, 1) := by decide +kernel
theorem dL_law_706 : decode cL_law 706 = .ok (.iadd, 1) := by decide +kernel
theorem dL_law_707 : decode cL_law 707 = .ok (.iaload, 1) := by decide +kernel
theorem dL_law_708 : decode cL_law 708 = .ok (.invokevirtual 89, 3) := by decide +kernel
theorem dL_law_711 : decode cL_law 711 = .ok (.istore 6, 2) := by decide +kernel
theorem dL_law_713 : decode cL_law 713 = .ok (.aload_n 2, 1) := by decide +kernel
theorem dL_law_714 : decode cL_law 714 = .ok (.invokevirtual 55, 3) := by decide +kernel
theorem dL_law_717 : decode cL_law 717 = .ok (.iload 5, 2) := by decide +kernel
theorem dL_law_719 : decode cL_law 719 = .ok (.if_icmp .eq 5, 3) := by decide +kernel
theorem dL_law_722 : decode cL_law 722 = .ok (.iconst 0, 1) := by decide +kernel
theorem dL_law_723 : decode cL_law 723 = .ok (.ireturn, 1) := by decide +kernel
theorem dL_law_724 : decode cL_law 724 = .ok (.iload 5, 2) := by decide +kernel
theorem dL_law_726 : decode cL_law 726 = .ok (.ifCond .ne 15, 3) := by decide +kernel
theorem dL_law_729 : decode cL_law 729 = .ok (.aload_n 3, 1) := by decide +kernel
theorem dL_law_730 : decode cL_law 730 = .ok (.iconst 0, 1) := by decide +kernel
theorem dL_law_731 : decode cL_law 731 = .ok (.laload, 1) := by decide +kernel
theorem dL_law_732 : decode cL_law 732 = .ok (.iload 6, 2) := by decide +kernel
theorem dL_law_734 : decode cL_law 734 = .ok (.i2l, 1) := by decide +kernel
theorem dL_law_735 : decode cL_law 735 = .ok (.lcmp, 1) := by decide +kernel
theorem dL_law_736 : decode cL_law 736 = .ok (.ifCond .eq 5, 3) := by decide +kernel
theorem dL_law_739 : decode cL_law 739 = .ok (.iconst 0, 1) := by decide +kernel
theorem dL_law_740 : decode cL_law 740 = .ok (.ireturn, 1) := by decide +kernel
theorem dL_law_741 : decode cL_law 741 = .ok (.goto 3, 3) := by decide +kernel
theorem dL_law_744 : decode cL_law 744 = .ok (.iinc 4 6, 3) := by decide +kernel
theorem dL_law_747 : decode cL_law 747 = .ok (.goto (-724), 3) := by decide +kernel
theorem dL_law_750 : decode cL_law 750 = .ok (.iconst 1, 1) := by decide +kernel
theorem dL_law_751 : decode cL_law 751 = .ok (.ireturn, 1) := by decide +kernel
end
section
/-! the small memory of the class, the reference and the law: by address a kind (0: nothing of ours; 1 .. 8: an object of class number kind - 1; 9 ints, 10 booleans, 11 longs, 12 processes, 13 terms: arrays), a length; by field number and address an int, a long, a reference; by address and place an int, a long, a reference -/
def pm_S : Type := (Nat → Nat) × (Nat → Nat) × (Nat → Nat → Int32) × (Nat → Nat → Int64) × (Nat → Nat → Option Nat) × (Nat → Nat → Int32) × (Nat → Nat → Int64) × (Nat → Nat → Option Nat)
def pm_k (S : pm_S) : Nat → Nat := S.1
def pm_n (S : pm_S) : Nat → Nat := S.2.1
def pm_i (S : pm_S) : Nat → Nat → Int32 := S.2.2.1
def pm_j (S : pm_S) : Nat → Nat → Int64 := S.2.2.2.1
def pm_p (S : pm_S) : Nat → Nat → Option Nat := S.2.2.2.2.1
def pm_x (S : pm_S) : Nat → Nat → Int32 := S.2.2.2.2.2.1
def pm_y (S : pm_S) : Nat → Nat → Int64 := S.2.2.2.2.2.2.1
def pm_z (S : pm_S) : Nat → Nat → Option Nat := S.2.2.2.2.2.2.2
def pm_si (S : pm_S) (f a : Nat) (v : Int32) : pm_S := (pm_k S, pm_n S, (fun g b => if g = f ∧ b = a then v else pm_i S g b), pm_j S, pm_p S, pm_x S, pm_y S, pm_z S)
def pm_sj (S : pm_S) (f a : Nat) (v : Int64) : pm_S := (pm_k S, pm_n S, pm_i S, (fun g b => if g = f ∧ b = a then v else pm_j S g b), pm_p S, pm_x S, pm_y S, pm_z S)
def pm_sp (S : pm_S) (f a : Nat) (v : Option Nat) : pm_S := (pm_k S, pm_n S, pm_i S, pm_j S, (fun g b => if g = f ∧ b = a then v else pm_p S g b), pm_x S, pm_y S, pm_z S)
def pm_sx (S : pm_S) (a i : Nat) (v : Int32) : pm_S := (pm_k S, pm_n S, pm_i S, pm_j S, pm_p S, (fun b e => if b = a ∧ e = i then v else pm_x S b e), pm_y S, pm_z S)
def pm_sy (S : pm_S) (a i : Nat) (v : Int64) : pm_S := (pm_k S, pm_n S, pm_i S, pm_j S, pm_p S, pm_x S, (fun b e => if b = a ∧ e = i then v else pm_y S b e), pm_z S)
def pm_sz (S : pm_S) (a i : Nat) (v : Option Nat) : pm_S := (pm_k S, pm_n S, pm_i S, pm_j S, pm_p S, pm_x S, pm_y S, (fun b e => if b = a ∧ e = i then v else pm_z S b e))
def pm_sr (S : pm_S) (a : Nat) (r : Nat → Int32) : pm_S := (pm_k S, pm_n S, pm_i S, pm_j S, pm_p S, (fun b e => if b = a then r e else pm_x S b e), pm_y S, pm_z S)
def pm_nw (S : pm_S) (a k n : Nat) : pm_S := ((fun b => if b = a then k else pm_k S b), (fun b => if b = a then n else pm_n S b), (fun g b => if b = a then 0 else pm_i S g b), (fun g b => if b = a then 0 else pm_j S g b), (fun g b => if b = a then none else pm_p S g b), (fun b e => if b = a then 0 else pm_x S b e), (fun b e => if b = a then 0 else pm_y S b e), (fun b e => if b = a then none else pm_z S b e))
theorem pm_k_si (S : pm_S) (f a : Nat) (v : Int32) (b : Nat) : pm_k (pm_si S f a v) b = pm_k S b := rfl
theorem pm_n_si (S : pm_S) (f a : Nat) (v : Int32) (b : Nat) : pm_n (pm_si S f a v) b = pm_n S b := rfl
theorem pm_i_si (S : pm_S) (f a : Nat) (v : Int32) (g b : Nat) : pm_i (pm_si S f a v) g b = if g = f ∧ b = a then v else pm_i S g b := rfl
theorem pm_j_si (S : pm_S) (f a : Nat) (v : Int32) (g b : Nat) : pm_j (pm_si S f a v) g b = pm_j S g b := rfl
theorem pm_p_si (S : pm_S) (f a : Nat) (v : Int32) (g b : Nat) : pm_p (pm_si S f a v) g b = pm_p S g b := rfl
theorem pm_x_si (S : pm_S) (f a : Nat) (v : Int32) (b e : Nat) : pm_x (pm_si S f a v) b e = pm_x S b e := rfl
theorem pm_y_si (S : pm_S) (f a : Nat) (v : Int32) (b e : Nat) : pm_y (pm_si S f a v) b e = pm_y S b e := rfl
theorem pm_z_si (S : pm_S) (f a : Nat) (v : Int32) (b e : Nat) : pm_z (pm_si S f a v) b e = pm_z S b e := rfl
theorem pm_k_sj (S : pm_S) (f a : Nat) (v : Int64) (b : Nat) : pm_k (pm_sj S f a v) b = pm_k S b := rfl
theorem pm_n_sj (S : pm_S) (f a : Nat) (v : Int64) (b : Nat) : pm_n (pm_sj S f a v) b = pm_n S b := rfl
theorem pm_i_sj (S : pm_S) (f a : Nat) (v : Int64) (g b : Nat) : pm_i (pm_sj S f a v) g b = pm_i S g b := rfl
theorem pm_j_sj (S : pm_S) (f a : Nat) (v : Int64) (g b : Nat) : pm_j (pm_sj S f a v) g b = if g = f ∧ b = a then v else pm_j S g b := rfl
theorem pm_p_sj (S : pm_S) (f a : Nat) (v : Int64) (g b : Nat) : pm_p (pm_sj S f a v) g b = pm_p S g b := rfl
theorem pm_x_sj (S : pm_S) (f a : Nat) (v : Int64) (b e : Nat) : pm_x (pm_sj S f a v) b e = pm_x S b e := rfl
theorem pm_y_sj (S : pm_S) (f a : Nat) (v : Int64) (b e : Nat) : pm_y (pm_sj S f a v) b e = pm_y S b e := rfl
theorem pm_z_sj (S : pm_S) (f a : Nat) (v : Int64) (b e : Nat) : pm_z (pm_sj S f a v) b e = pm_z S b e := rfl
theorem pm_k_sp (S : pm_S) (f a : Nat) (v : Option Nat) (b : Nat) : pm_k (pm_sp S f a v) b = pm_k S b := rfl
theorem pm_n_sp (S : pm_S) (f a : Nat) (v : Option Nat) (b : Nat) : pm_n (pm_sp S f a v) b = pm_n S b := rfl
theorem pm_i_sp (S : pm_S) (f a : Nat) (v : Option Nat) (g b : Nat) : pm_i (pm_sp S f a v) g b = pm_i S g b := rfl
theorem pm_j_sp (S : pm_S) (f a : Nat) (v : Option Nat) (g b : Nat) : pm_j (pm_sp S f a v) g b = pm_j S g b := rfl
theorem pm_p_sp (S : pm_S) (f a : Nat) (v : Option Nat) (g b : Nat) : pm_p (pm_sp S f a v) g b = if g = f ∧ b = a then v else pm_p S g b := rfl
theorem pm_x_sp (S : pm_S) (f a : Nat) (v : Option Nat) (b e : Nat) : pm_x (pm_sp S f a v) b e = pm_x S b e := rfl
theorem pm_y_sp (S : pm_S) (f a : Nat) (v : Option Nat) (b e : Nat) : pm_y (pm_sp S f a v) b e = pm_y S b e := rfl
theorem pm_z_sp (S : pm_S) (f a : Nat) (v : Option Nat) (b e : Nat) : pm_z (pm_sp S f a v) b e = pm_z S b e := rfl
theorem pm_k_sx (S : pm_S) (a i : Nat) (v : Int32) (b : Nat) : pm_k (pm_sx S a i v) b = pm_k S b := rfl
theorem pm_n_sx (S : pm_S) (a i : Nat) (v : Int32) (b : Nat) : pm_n (pm_sx S a i v) b = pm_n S b := rfl
theorem pm_i_sx (S : pm_S) (a i : Nat) (v : Int32) (g b : Nat) : pm_i (pm_sx S a i v) g b = pm_i S g b := rfl
theorem pm_j_sx (S : pm_S) (a i : Nat) (v : Int32) (g b : Nat) : pm_j (pm_sx S a i v) g b = pm_j S g b := rfl
theorem pm_p_sx (S : pm_S) (a i : Nat) (v : Int32) (g b : Nat) : pm_p (pm_sx S a i v) g b = pm_p S g b := rfl
theorem pm_x_sx (S : pm_S) (a i : Nat) (v : Int32) (b e : Nat) : pm_x (pm_sx S a i v) b e = if b = a ∧ e = i then v else pm_x S b e := rfl
theorem pm_y_sx (S : pm_S) (a i : Nat) (v : Int32) (b e : Nat) : pm_y (pm_sx S a i v) b e = pm_y S b e := rfl
theorem pm_z_sx (S : pm_S) (a i : Nat) (v : Int32) (b e : Nat) : pm_z (pm_sx S a i v) b e = pm_z S b e := rfl
theorem pm_k_sy (S : pm_S) (a i : Nat) (v : Int64) (b : Nat) : pm_k (pm_sy S a i v) b = pm_k S b := rfl
theorem pm_n_sy (S : pm_S) (a i : Nat) (v : Int64) (b : Nat) : pm_n (pm_sy S a i v) b = pm_n S b := rfl
theorem pm_i_sy (S : pm_S) (a i : Nat) (v : Int64) (g b : Nat) : pm_i (pm_sy S a i v) g b = pm_i S g b := rfl
theorem pm_j_sy (S : pm_S) (a i : Nat) (v : Int64) (g b : Nat) : pm_j (pm_sy S a i v) g b = pm_j S g b := rfl
theorem pm_p_sy (S : pm_S) (a i : Nat) (v : Int64) (g b : Nat) : pm_p (pm_sy S a i v) g b = pm_p S g b := rfl
theorem pm_x_sy (S : pm_S) (a i : Nat) (v : Int64) (b e : Nat) : pm_x (pm_sy S a i v) b e = pm_x S b e := rfl
theorem pm_y_sy (S : pm_S) (a i : Nat) (v : Int64) (b e : Nat) : pm_y (pm_sy S a i v) b e = if b = a ∧ e = i then v else pm_y S b e := rfl
theorem pm_z_sy (S : pm_S) (a i : Nat) (v : Int64) (b e : Nat) : pm_z (pm_sy S a i v) b e = pm_z S b e := rfl
theorem pm_k_sz (S : pm_S) (a i : Nat) (v : Option Nat) (b : Nat) : pm_k (pm_sz S a i v) b = pm_k S b := rfl
theorem pm_n_sz (S : pm_S) (a i : Nat) (v : Option Nat) (b : Nat) : pm_n (pm_sz S a i v) b = pm_n S b := rfl
theorem pm_i_sz (S : pm_S) (a i : Nat) (v : Option Nat) (g b : Nat) : pm_i (pm_sz S a i v) g b = pm_i S g b := rfl
theorem pm_j_sz (S : pm_S) (a i : Nat) (v : Option Nat) (g b : Nat) : pm_j (pm_sz S a i v) g b = pm_j S g b := rfl
theorem pm_p_sz (S : pm_S) (a i : Nat) (v : Option Nat) (g b : Nat) : pm_p (pm_sz S a i v) g b = pm_p S g b := rfl
theorem pm_x_sz (S : pm_S) (a i : Nat) (v : Option Nat) (b e : Nat) : pm_x (pm_sz S a i v) b e = pm_x S b e := rfl
theorem pm_y_sz (S : pm_S) (a i : Nat) (v : Option Nat) (b e : Nat) : pm_y (pm_sz S a i v) b e = pm_y S b e := rfl
theorem pm_z_sz (S : pm_S) (a i : Nat) (v : Option Nat) (b e : Nat) : pm_z (pm_sz S a i v) b e = if b = a ∧ e = i then v else pm_z S b e := rfl
theorem pm_k_sr (S : pm_S) (a : Nat) (r : Nat → Int32) (b : Nat) : pm_k (pm_sr S a r) b = pm_k S b := rfl
theorem pm_n_sr (S : pm_S) (a : Nat) (r : Nat → Int32) (b : Nat) : pm_n (pm_sr S a r) b = pm_n S b := rfl
theorem pm_i_sr (S : pm_S) (a : Nat) (r : Nat → Int32) (g b : Nat) : pm_i (pm_sr S a r) g b = pm_i S g b := rfl
theorem pm_j_sr (S : pm_S) (a : Nat) (r : Nat → Int32) (g b : Nat) : pm_j (pm_sr S a r) g b = pm_j S g b := rfl
theorem pm_p_sr (S : pm_S) (a : Nat) (r : Nat → Int32) (g b : Nat) : pm_p (pm_sr S a r) g b = pm_p S g b := rfl
theorem pm_x_sr (S : pm_S) (a : Nat) (r : Nat → Int32) (b e : Nat) : pm_x (pm_sr S a r) b e = if b = a then r e else pm_x S b e := rfl
theorem pm_y_sr (S : pm_S) (a : Nat) (r : Nat → Int32) (b e : Nat) : pm_y (pm_sr S a r) b e = pm_y S b e := rfl
theorem pm_z_sr (S : pm_S) (a : Nat) (r : Nat → Int32) (b e : Nat) : pm_z (pm_sr S a r) b e = pm_z S b e := rfl
theorem pm_k_nw (S : pm_S) (a k n : Nat) (b : Nat) : pm_k (pm_nw S a k n) b = if b = a then k else pm_k S b := rfl
theorem pm_n_nw (S : pm_S) (a k n : Nat) (b : Nat) : pm_n (pm_nw S a k n) b = if b = a then n else pm_n S b := rfl
theorem pm_i_nw (S : pm_S) (a k n : Nat) (g b : Nat) : pm_i (pm_nw S a k n) g b = if b = a then 0 else pm_i S g b := rfl
theorem pm_j_nw (S : pm_S) (a k n : Nat) (g b : Nat) : pm_j (pm_nw S a k n) g b = if b = a then 0 else pm_j S g b := rfl
theorem pm_p_nw (S : pm_S) (a k n : Nat) (g b : Nat) : pm_p (pm_nw S a k n) g b = if b = a then none else pm_p S g b := rfl
theorem pm_x_nw (S : pm_S) (a k n : Nat) (b e : Nat) : pm_x (pm_nw S a k n) b e = if b = a then 0 else pm_x S b e := rfl
theorem pm_y_nw (S : pm_S) (a k n : Nat) (b e : Nat) : pm_y (pm_nw S a k n) b e = if b = a then 0 else pm_y S b e := rfl
theorem pm_z_nw (S : pm_S) (a k n : Nat) (b e : Nat) : pm_z (pm_nw S a k n) b e = if b = a then none else pm_z S b e := rfl
-- all of them: pm_k_si, pm_n_si, pm_i_si, pm_j_si, pm_p_si, pm_x_si, pm_y_si, pm_z_si, pm_k_sj, pm_n_sj, pm_i_sj, pm_j_sj, pm_p_sj, pm_x_sj, pm_y_sj, pm_z_sj, pm_k_sp, pm_n_sp, pm_i_sp, pm_j_sp, pm_p_sp, pm_x_sp, pm_y_sp, pm_z_sp, pm_k_sx, pm_n_sx, pm_i_sx, pm_j_sx, pm_p_sx, pm_x_sx, pm_y_sx, pm_z_sx, pm_k_sy, pm_n_sy, pm_i_sy, pm_j_sy, pm_p_sy, pm_x_sy, pm_y_sy, pm_z_sy, pm_k_sz, pm_n_sz, pm_i_sz, pm_j_sz, pm_p_sz, pm_x_sz, pm_y_sz, pm_z_sz, pm_k_sr, pm_n_sr, pm_i_sr, pm_j_sr, pm_p_sr, pm_x_sr, pm_y_sr, pm_z_sr, pm_k_nw, pm_n_nw, pm_i_nw, pm_j_nw, pm_p_nw, pm_x_nw, pm_y_nw, pm_z_nw
end
section
/-! the tables, the heap that holds the small memory, the locals, the judgement pm_W -/
abbrev pm_G : Type := va_G × (Nat → ClassId)
/-- the words of the tables that every method knows -/
def pm_ws : List Cond := lw_tbl.filter goodWord
theorem pm_ws_tbl {w : Cond} (h : w ∈ pm_ws) : w ∈ lw_tbl := (List.mem_filter.mp h).1
theorem pm_ws_of {w : Cond} (h : w ∈ lw_tbl) (hg : goodWord w = true) : w ∈ pm_ws := List.mem_filter.mpr ⟨h, hg⟩
theorem pm_ws_good (big : List Cond) (h : ∀ w ∈ pm_ws, w ∈ big) : GoodIn big pm_ws := fun w hw => ⟨h w hw, good_of_word (List.mem_filter.mp hw).2⟩
def pm_nest : Cond → Bool
  | .fieldLinkNest .. => true
  | .methodLinkNest .. => true
  | _ => false
abbrev pm_tys (G : pm_G) : List (ClassId × FieldType) := [(G.2 0, .int), (G.2 1, .boolean), (G.2 2, .long), (G.2 3, .object "ProcessMill$Proc"), (G.2 4, .object "ProcessMill$Term")]
def pm_K (G : pm_G) (U : State) : Prop := va_K G.1 vwCl (pm_tys G) U ∧ (∀ w ∈ lw_tbl, pm_nest w = true → va_Nw w U) ∧ va_AO "ProcessMill$Proc" U ∧ va_AO "ProcessMill$Term" U
theorem pm_K.warm {G : pm_G} {s U : State} (hW : s.WarmedH U.vm) (h : pm_K G s) : pm_K G U := by
  obtain ⟨h1, h2, h3, h4⟩ := h
  refine ⟨va_K.moved hW.alike h1, fun w hw hn => ?_, va_AO.moved hW.alike h3, va_AO.moved hW.alike h4⟩
  have h := h2 w hw hn
  cases w <;> first | (simp [pm_nest] at hn; done) | exact va_Nw.warmF hW h | exact va_Nw.warmM hW h
theorem pm_nest_on {w : Cond} (h : pm_nest w = true) : w.onTables = true := by
  cases w <;> first | rfl | (simp [pm_nest] at h; done)
theorem pm_K.same {G : pm_G} {s U : State} (hv : s.vm = U.vm) (h : pm_K G s) : pm_K G U := by
  obtain ⟨h1, h2, h3, h4⟩ := h
  have ha : s.vm.Alike U.vm := by rw [hv]; exact Vm.Alike.refl _
  exact ⟨va_K.moved ha h1, fun w hw hn => va_Nw.same (pm_nest_on hn) hv (h2 w hw hn), va_AO.moved ha h3, va_AO.moved ha h4⟩
/-- of each class the sorts of its fields: 0 an int, 1 a reference, 2 a long -/
def pm_so : List (List Nat) := [[1, 0, 0], [0, 0, 1, 1, 1, 1, 0, 0, 0, 0, 2, 0, 0, 0, 2, 0], [1, 0], [1, 0], [1, 1, 1, 0, 0], [1, 1, 1, 0, 0], [1, 1, 1, 1, 1, 1, 1, 1, 0, 0, 0, 0, 0, 0, 0, 0],
  [1, 1, 1, 1, 1, 1, 1, 1, 1, 1, 1, 1, 1, 1, 1, 1, 1, 1, 1, 1, 1, 1, 1, 1, 1, 0, 0, 1, 1, 1, 0, 0, 1, 0, 1, 0, 0, 0, 0, 0, 0]]
def pm_sv (S : pm_S) (o f a : Nat) : Value := match o with
  | 0 => .int (pm_i S f a)
  | 1 => va_rf (pm_p S f a)
  | _ => .long (pm_j S f a)
/-- field number j of the object at a, of class number c -/
def pm_fv (S : pm_S) (c a j : Nat) : Value := pm_sv S ((pm_so.getD c []).getD j 0) (50 * c + j) a
def pm_ob (G : pm_G) (S : pm_S) (c a : Nat) (H : Heap) : Prop := ∃ r : vw_C, vwCl[c]? = some r ∧ t_OB a (G.1.1 c) r.2.2 (G.1.2 c) H (pm_fv S c a)
def pm_at (G : pm_G) (S : pm_S) (a : Nat) (H : Heap) : Prop :=
  if pm_k S a = 9 then H[a]? = some (arrV (G.2 0) (pm_n S a) (fun i => .int (pm_x S a i)))
  else if pm_k S a = 10 then H[a]? = some (arrV (G.2 1) (pm_n S a) (fun i => .int (pm_x S a i)))
  else if pm_k S a = 11 then H[a]? = some (arrV (G.2 2) (pm_n S a) (fun i => .long (pm_y S a i)))
  else if pm_k S a = 12 then H[a]? = some (arrV (G.2 3) (pm_n S a) (fun i => va_rf (pm_z S a i)))
  else if pm_k S a = 13 then H[a]? = some (arrV (G.2 4) (pm_n S a) (fun i => va_rf (pm_z S a i)))
  else pm_ob G S (pm_k S a - 1) a H
/-- the heap holds the small memory, all of it from bs on -/
def pm_R (G : pm_G) (bs : Nat) (S : pm_S) (H : Heap) : Prop := ∀ a, pm_k S a ≠ 0 → bs ≤ a ∧ a < H.size ∧ pm_at G S a H
/-- the two memories are the same but at a -/
def pm_off (S S' : pm_S) (a : Nat) : Prop := ∀ b, b ≠ a → pm_k S' b = pm_k S b ∧ pm_n S' b = pm_n S b ∧ (∀ g, pm_i S' g b = pm_i S g b) ∧ (∀ g, pm_j S' g b = pm_j S g b) ∧ (∀ g, pm_p S' g b = pm_p S g b) ∧ (∀ e, pm_x S' b e = pm_x S b e) ∧ (∀ e, pm_y S' b e = pm_y S b e) ∧ (∀ e, pm_z S' b e = pm_z S b e)
theorem pm_at_off {G : pm_G} {S S' : pm_S} {a b : Nat} {H H' : Heap} (ho : pm_off S S' a) (hb : b ≠ a) (hH : H'[b]? = H[b]?) (h : pm_at G S b H) : pm_at G S' b H' := by
  obtain ⟨e1, e2, e3, e4, e5, e6, e7, e8⟩ := ho b hb
  have hf : pm_fv S' (pm_k S b - 1) b = pm_fv S (pm_k S b - 1) b := by
    funext j
    unfold pm_fv pm_sv
    split <;> simp only [e3, e4, e5]
  unfold pm_at at h ⊢
  simp only [e1, e2, e6, e7, e8, hH]
  repeat' split at h <;> simp only [*, if_true, if_false] <;> try exact h
  all_goals
    unfold pm_ob at h ⊢
    rw [hf]
    obtain ⟨r, h1, h2⟩ := h
    exact ⟨r, h1, h2.kept hH⟩
theorem pm_R.put {G : pm_G} {bs : Nat} {S S' : pm_S} {a : Nat} {H H' : Heap} (h : pm_R G bs S H) (ho : pm_off S S' a) (hk : pm_k S' a = pm_k S a) (hz : H'.size = H.size) (hq : ∀ q : Nat, q ≠ a → H'[q]? = H[q]?) (ha : pm_k S a ≠ 0 → pm_at G S' a H') : pm_R G bs S' H' := by
  intro b hb
  by_cases e : b = a
  · subst e
    rw [hk] at hb
    obtain ⟨h1, h2, -⟩ := h b hb
    exact ⟨h1, by rw [hz]; exact h2, ha hb⟩
  · rw [(ho b e).1] at hb
    obtain ⟨h1, h2, h3⟩ := h b hb
    exact ⟨h1, by rw [hz]; exact h2, pm_at_off ho e (hq b e) h3⟩
theorem pm_R.new {G : pm_G} {bs : Nat} {S : pm_S} {k n : Nat} {H H' : Heap} (h : pm_R G bs S H) (hb : bs ≤ H.size) (hz : H'.size = H.size + 1) (hq : ∀ q : Nat, q < H.size → H'[q]? = H[q]?) (ha : pm_at G (pm_nw S H.size k n) H.size H') : pm_R G bs (pm_nw S H.size k n) H' := by
  intro b hb2
  by_cases e : b = H.size
  · subst e
    exact ⟨hb, by omega, ha⟩
  · rw [pm_k_nw, if_neg e] at hb2
    obtain ⟨h1, h2, h3⟩ := h b hb2
    refine ⟨h1, by omega, pm_at_off (fun c hc => ?_) e (hq b h2) h3⟩
    refine ⟨?_, ?_, fun g => ?_, fun g => ?_, fun g => ?_, fun g => ?_, fun g => ?_, fun g => ?_⟩ <;> simp only [pm_k_nw, pm_n_nw, pm_i_nw, pm_j_nw, pm_p_nw, pm_x_nw, pm_y_nw, pm_z_nw, if_neg hc]
theorem pm_R.ob {G : pm_G} {bs : Nat} {S : pm_S} {a c : Nat} {H : Heap} (h : pm_R G bs S H) (hc : c < 8) (hk : pm_k S a = c + 1) : pm_ob G S c a H := by
  have h1 := (h a (by omega)).2.2
  unfold pm_at at h1
  rw [if_neg (by omega), if_neg (by omega), if_neg (by omega), if_neg (by omega), if_neg (by omega)] at h1
  rw [hk] at h1
  exact h1
theorem pm_at_ob {G : pm_G} {S : pm_S} {a c : Nat} {H : Heap} (hc : c < 8) (hk : pm_k S a = c + 1) (h : pm_ob G S c a H) : pm_at G S a H := by
  unfold pm_at
  rw [if_neg (by omega), if_neg (by omega), if_neg (by omega), if_neg (by omega), if_neg (by omega), hk]
  exact h
end
section
/-- nothing is known of this local -/
def pm_u : Value := .retAddr 0
def pm_lv (L : List Value) : List (Nat × Value) := (List.range L.length).filterMap (fun j => match L[j]? with | some v => if v = pm_u then none else some (j, v) | none => none)
theorem pm_lv_mem {L : List Value} {q : Nat × Value} : q ∈ pm_lv L ↔ L[q.1]? = some q.2 ∧ q.2 ≠ pm_u := by
  unfold pm_lv
  rw [List.mem_filterMap]
  constructor
  · rintro ⟨j, hj, h⟩
    cases hv : L[j]? with
    | none => rw [hv] at h; cases h
    | some v =>
      rw [hv] at h
      by_cases e : v = pm_u
      · simp [e] at h
      · simp only [if_neg e] at h
        cases h
        exact ⟨hv, e⟩
  · rintro ⟨h1, h2⟩
    refine ⟨q.1, List.mem_range.mpr (List.getElem?_eq_some_iff.mp h1).1, ?_⟩
    rw [h1]
    simp only [if_neg h2]
def pm_L (L : List Value) (nL : Nat) (ls : Array Slot) : Prop := L.length = nL ∧ lv_has ls nL (pm_lv L)
theorem pm_L.get {L : List Value} {nL : Nat} {ls : Array Slot} (h : pm_L L nL ls) {i : Nat} {v : Value} (hi : L[i]? = some v) (hv : v ≠ pm_u) : ls[i]? = some (.val v) := h.2.2.2 (i, v) (pm_lv_mem.mpr ⟨hi, hv⟩)
/-- the local ahead of place i holds no long -/
def pm_c1 (L : List Value) (i : Nat) : Prop := match i with
  | 0 => True
  | j + 1 => ∀ v, L[j]? = some v → v.category = 1
theorem pm_c1_s {L : List Value} {j : Nat} {v : Value} (h : L[j]? = some v) (hv : v.category = 1) : pm_c1 L (j + 1) := fun x hx => by rw [h] at hx; cases hx; exact hv
theorem pm_rf_cat (r : Option Nat) : (va_rf r).category = 1 := by cases r <;> rfl
theorem pm_lv_set {L : List Value} {nL i : Nat} {ls : Array Slot} {v : Value} (hp : pm_c1 L i) (hn : L.length = nL) (hi : i < nL) (h : lv_has ls nL ((i, v) :: (pm_lv L).filter (fun q => !(q.1 == i) && !(q.1 + 1 == i && q.2.category == 2)))) : pm_L (L.set i v) nL ls := by
  refine ⟨by rw [List.length_set]; exact hn, h.1, h.2.1, fun q hq => ?_⟩
  obtain ⟨h1, h2⟩ := pm_lv_mem.mp hq
  by_cases e : q.1 = i
  · rw [e, List.getElem?_set_self (by omega)] at h1
    have hq2 : q = (i, v) := Prod.ext e (Option.some.inj h1).symm
    exact h.2.2 q (by rw [hq2]; exact List.mem_cons_self)
  · rw [List.getElem?_set_ne (fun z => e z.symm)] at h1
    refine h.2.2 q (List.mem_cons_of_mem _ (List.mem_filter.mpr ⟨pm_lv_mem.mpr ⟨h1, h2⟩, ?_⟩))
    have hb : ¬ (q.1 + 1 = i ∧ q.2.category = 2) := by
      rintro ⟨e1, e2⟩
      subst e1
      have := hp q.2 h1
      omega
    simp only [Bool.and_eq_true, Bool.not_eq_true', beq_eq_false_iff_ne, Bool.and_eq_false_iff, ne_eq]
    refine ⟨e, ?_⟩
    by_cases e1 : q.1 + 1 = i
    · exact Or.inr (fun e2 => hb ⟨e1, e2⟩)
    · exact Or.inl e1
theorem pm_lv_set2 {L : List Value} {nL i : Nat} {ls : Array Slot} {v : Value} (hp : pm_c1 L i) (hn : L.length = nL) (hi : i + 1 < nL) (h : lv_has ls nL ((i, v) :: (pm_lv L).filter (fun q => !(q.1 == i) && (!(q.1 == i + 1) && !(q.1 + 1 == i && q.2.category == 2))))) : pm_L ((L.set i v).set (i + 1) pm_u) nL ls := by
  refine ⟨by rw [List.length_set, List.length_set]; exact hn, h.1, h.2.1, fun q hq => ?_⟩
  obtain ⟨h1, h2⟩ := pm_lv_mem.mp hq
  by_cases e9 : q.1 = i + 1
  · rw [e9, List.getElem?_set_self (by rw [List.length_set]; omega)] at h1
    exact absurd (Option.some.inj h1).symm h2
  rw [List.getElem?_set_ne (fun z => e9 z.symm)] at h1
  by_cases e : q.1 = i
  · rw [e, List.getElem?_set_self (by omega)] at h1
    have hq2 : q = (i, v) := Prod.ext e (Option.some.inj h1).symm
    exact h.2.2 q (by rw [hq2]; exact List.mem_cons_self)
  · rw [List.getElem?_set_ne (fun z => e z.symm)] at h1
    refine h.2.2 q (List.mem_cons_of_mem _ (List.mem_filter.mpr ⟨pm_lv_mem.mpr ⟨h1, h2⟩, ?_⟩))
    have hb : ¬ (q.1 + 1 = i ∧ q.2.category = 2) := by
      rintro ⟨e1, e2⟩
      subst e1
      have := hp q.2 h1
      omega
    simp only [Bool.and_eq_true, Bool.not_eq_true', beq_eq_false_iff_ne, Bool.and_eq_false_iff, ne_eq]
    refine ⟨e, e9, ?_⟩
    by_cases e1 : q.1 + 1 = i
    · exact Or.inr (fun e2 => hb ⟨e1, e2⟩)
    · exact Or.inl e1
/-- a reference or null -/
def pm_isr (v : Value) : Prop := v = .null ∨ ∃ a, v = .ref a
theorem pm_isr_rf (r : Option Nat) : pm_isr (va_rf r) := by
  cases r with
  | none => exact Or.inl rfl
  | some a => exact Or.inr ⟨a, rfl⟩
theorem pm_isr_cat {v : Value} (h : pm_isr v) : v.category = 1 := by
  rcases h with rfl | ⟨a, rfl⟩ <;> rfl
/-- where a method runs: the machine, its code, the tables, how many frames may lie above it -/
def pm_X (G : pm_G) (bs : Nat) (own : String) (cc : ByteArray) (nL : Nat) (ini : Bool) (d : Nat) (p : Program) (R : Room) (s : State) (m : MethodId) (args : Array Value) (meth : Method) (c : Code) : Prop :=
  p.tables.exec = Jvm.exec ∧ c.code = cc ∧ c.maxLocals = nL ∧ s.vm.findClass own = some m.cls ∧ (∀ w ∈ pm_ws, w.before args s = true) ∧ pm_K G s ∧ bs ≤ s.heap.size ∧ d ≤ R.frames ∧ 32 * d + 40 ≤ R.locals ∧ (ini = true → meth.name = "<init>")
/-- the method's ends: at an instruction i with the stack st and the memory S, if Q i st S -/
def pm_E (G : pm_G) (l : Launch) (bs : Nat) (cc : ByteArray) (Q : Instr → List Value → pm_S → Prop) (p : Program) (e : Env) (R : Room) (s : State) (m : MethodId) (args : Array Value) (below : List Frame) (meth : Method) (c : Code) (Z : State → Prop) : Prop :=
  ∀ (i : Instr) (st : List Value) (S : pm_S) (H : Heap) (locs : List Loc) (cells slots pc : Nat) (ls : Array Slot), Q i st S → decode cc pc = .ok (i, 1) → pm_R G bs S H → va_S (fun q => bs ≤ q) s.heap H locs → cells ≤ R.cells → slots ≤ R.slots → W p l e R s m args below meth c H locs cells slots Z (F0 m pc ls st)
/-- from pc, with the locals L, the stack st, the memory S, and room for kc cells of ks slots more, the method comes to an end of Q -/
def pm_W (G : pm_G) (l : Launch) (bs : Nat) (own : String) (cc : ByteArray) (nL : Nat) (ini : Bool) (d kc ks : Nat) (Q : Instr → List Value → pm_S → Prop) (pc : Nat) (L st : List Value) (S : pm_S) : Prop :=
  ∀ (p : Program) (e : Env) (R : Room) (s : State) (m : MethodId) (args : Array Value) (below : List Frame) (meth : Method) (c : Code) (Z : State → Prop), pm_X G bs own cc nL ini d p R s m args meth c → pm_E G l bs cc Q p e R s m args below meth c Z →
    ∀ (H : Heap) (locs : List Loc) (cells slots : Nat) (ls : Array Slot), pm_R G bs S H → va_S (fun q => bs ≤ q) s.heap H locs → pm_L L nL ls → cells + kc ≤ R.cells → slots + ks ≤ R.slots → W p l e R s m args below meth c H locs cells slots Z (F0 m pc ls st)
section PMR
variable {G : pm_G} {l : Launch} {bs : Nat} {own : String} {cc : ByteArray} {nL : Nat} {ini : Bool} {d kc ks : Nat} {Q : Instr → List Value → pm_S → Prop} {pc : Nat} {L rest : List Value} {S : pm_S}
theorem pm_iconst {n : Int} {v : Int32} (hdg : decode cc pc = .ok (.iconst n, 1)) (hv : Int32.ofInt n = v) (k : pm_W G l bs own cc nL ini d kc ks Q (pc + 1) L (.int v :: rest) S) : pm_W G l bs own cc nL ini d kc ks Q pc L (rest) S := by
  intro p e R s m args below meth c Z hX hE H locs cells slots ls hR hS hL hc hs
  exact lv_iconst hX.1 hX.2.1 hdg hv (k p e R s m args below meth c Z hX hE H locs cells slots ls hR hS hL hc hs)
theorem pm_bipush {n : Int} {v : Int32} (hdg : decode cc pc = .ok (.bipush n, 2)) (hv : (Int8.ofInt n).toInt32 = v) (k : pm_W G l bs own cc nL ini d kc ks Q (pc + 2) L (.int v :: rest) S) : pm_W G l bs own cc nL ini d kc ks Q pc L (rest) S := by
  intro p e R s m args below meth c Z hX hE H locs cells slots ls hR hS hL hc hs
  exact lv_bipush hX.1 hX.2.1 hdg hv (k p e R s m args below meth c Z hX hE H locs cells slots ls hR hS hL hc hs)
theorem pm_sipush {n : Int} {v : Int32} (hdg : decode cc pc = .ok (.sipush n, 3)) (hv : (Int16.ofInt n).toInt32 = v) (k : pm_W G l bs own cc nL ini d kc ks Q (pc + 3) L (.int v :: rest) S) : pm_W G l bs own cc nL ini d kc ks Q pc L (rest) S := by
  intro p e R s m args below meth c Z hX hE H locs cells slots ls hR hS hL hc hs
  exact lv_sipush hX.1 hX.2.1 hdg hv (k p e R s m args below meth c Z hX hE H locs cells slots ls hR hS hL hc hs)
theorem pm_lconst {n : Fin 2} {v : Int64} (hdg : decode cc pc = .ok (.lconst n, 1)) (hv : Int64.ofNat (n : Nat) = v) (k : pm_W G l bs own cc nL ini d kc ks Q (pc + 1) L (.long v :: rest) S) : pm_W G l bs own cc nL ini d kc ks Q pc L (rest) S := by
  intro p e R s m args below meth c Z hX hE H locs cells slots ls hR hS hL hc hs
  exact lv_lconst hX.1 hX.2.1 hdg hv (k p e R s m args below meth c Z hX hE H locs cells slots ls hR hS hL hc hs)
theorem pm_ldc {index : Nat} {v : Int32} (hw : Cond.constant own index v ∈ pm_ws) (hdg : decode cc pc = .ok (.ldc index, 2)) (k : pm_W G l bs own cc nL ini d kc ks Q (pc + 2) L (.int v :: rest) S) : pm_W G l bs own cc nL ini d kc ks Q pc L (rest) S := by
  intro p e R s m args below meth c Z hX hE H locs cells slots ls hR hS hL hc hs
  exact lv_ldc hX.1 hX.2.1 hX.2.2.2.1 (hX.2.2.2.2.1 _ hw) hdg (k p e R s m args below meth c Z hX hE H locs cells slots ls hR hS hL hc hs)
theorem pm_ldcw {index : Nat} {v : Int32} (hw : Cond.constant own index v ∈ pm_ws) (hdg : decode cc pc = .ok (.ldc_w index, 3)) (k : pm_W G l bs own cc nL ini d kc ks Q (pc + 3) L (.int v :: rest) S) : pm_W G l bs own cc nL ini d kc ks Q pc L (rest) S := by
  intro p e R s m args below meth c Z hX hE H locs cells slots ls hR hS hL hc hs
  exact lv_ldcw hX.1 hX.2.1 hX.2.2.2.1 (hX.2.2.2.2.1 _ hw) hdg (k p e R s m args below meth c Z hX hE H locs cells slots ls hR hS hL hc hs)
theorem pm_ldc2 {index : Nat} {v : Int64} (hw : Cond.constantLong own index v ∈ pm_ws) (hdg : decode cc pc = .ok (.ldc2_w index, 3)) (k : pm_W G l bs own cc nL ini d kc ks Q (pc + 3) L (.long v :: rest) S) : pm_W G l bs own cc nL ini d kc ks Q pc L (rest) S := by
  intro p e R s m args below meth c Z hX hE H locs cells slots ls hR hS hL hc hs
  exact lv_ldc2 hX.1 hX.2.1 hX.2.2.2.1 (hX.2.2.2.2.1 _ hw) hdg (k p e R s m args below meth c Z hX hE H locs cells slots ls hR hS hL hc hs)
theorem pm_null (hdg : decode cc pc = .ok (.aconst_null, 1)) (k : pm_W G l bs own cc nL ini d kc ks Q (pc + 1) L (.null :: rest) S) : pm_W G l bs own cc nL ini d kc ks Q pc L (rest) S := by
  intro p e R s m args below meth c Z hX hE H locs cells slots ls hR hS hL hc hs
  exact lv_null hX.1 hX.2.1 hdg (k p e R s m args below meth c Z hX hE H locs cells slots ls hR hS hL hc hs)
theorem pm_iload_n {k9 : Fin 4} {x : Int32} (hdg : decode cc pc = .ok (.iload_n k9, 1)) (hl : L[(k9 : Nat)]? = some (.int x)) (k : pm_W G l bs own cc nL ini d kc ks Q (pc + 1) L (.int x :: rest) S) : pm_W G l bs own cc nL ini d kc ks Q pc L (rest) S := by
  intro p e R s m args below meth c Z hX hE H locs cells slots ls hR hS hL hc hs
  exact lv_iload_n hX.1 hX.2.1 hdg rfl (hL.get hl (by intro h; cases h)) (k p e R s m args below meth c Z hX hE H locs cells slots ls hR hS hL hc hs)
theorem pm_iload {i : Nat} {x : Int32} (hdg : decode cc pc = .ok (.iload i, 2)) (hl : L[i]? = some (.int x)) (k : pm_W G l bs own cc nL ini d kc ks Q (pc + 2) L (.int x :: rest) S) : pm_W G l bs own cc nL ini d kc ks Q pc L (rest) S := by
  intro p e R s m args below meth c Z hX hE H locs cells slots ls hR hS hL hc hs
  exact lv_iload hX.1 hX.2.1 hdg (hL.get hl (by intro h; cases h)) (k p e R s m args below meth c Z hX hE H locs cells slots ls hR hS hL hc hs)
theorem pm_lload_n {k9 : Fin 4} {x : Int64} (hdg : decode cc pc = .ok (.lload_n k9, 1)) (hl : L[(k9 : Nat)]? = some (.long x)) (k : pm_W G l bs own cc nL ini d kc ks Q (pc + 1) L (.long x :: rest) S) : pm_W G l bs own cc nL ini d kc ks Q pc L (rest) S := by
  intro p e R s m args below meth c Z hX hE H locs cells slots ls hR hS hL hc hs
  exact lv_lload_n hX.1 hX.2.1 hdg rfl (hL.get hl (by intro h; cases h)) (k p e R s m args below meth c Z hX hE H locs cells slots ls hR hS hL hc hs)
theorem pm_lload {i : Nat} {x : Int64} (hdg : decode cc pc = .ok (.lload i, 2)) (hl : L[i]? = some (.long x)) (k : pm_W G l bs own cc nL ini d kc ks Q (pc + 2) L (.long x :: rest) S) : pm_W G l bs own cc nL ini d kc ks Q pc L (rest) S := by
  intro p e R s m args below meth c Z hX hE H locs cells slots ls hR hS hL hc hs
  exact lv_lload hX.1 hX.2.1 hdg (hL.get hl (by intro h; cases h)) (k p e R s m args below meth c Z hX hE H locs cells slots ls hR hS hL hc hs)
theorem pm_aload_n {k9 : Fin 4} {v : Value} (hdg : decode cc pc = .ok (.aload_n k9, 1)) (hl : L[(k9 : Nat)]? = some v) (k : pm_W G l bs own cc nL ini d kc ks Q (pc + 1) L (v :: rest) S) (hr : pm_isr v := by first | exact Or.inr ⟨_, rfl⟩ | exact Or.inl rfl | exact pm_isr_rf _ | assumption) : pm_W G l bs own cc nL ini d kc ks Q pc L rest S := by
  intro p e R s m args below meth c Z hX hE H locs cells slots ls hR hS hL hc hs
  rcases hr with rfl | ⟨a, rfl⟩
  · exact lv_aload_nN hX.1 hX.2.1 hdg rfl (hL.get hl (by intro h; cases h)) (k p e R s m args below meth c Z hX hE H locs cells slots ls hR hS hL hc hs)
  · exact lv_aload_n hX.1 hX.2.1 hdg rfl (hL.get hl (by intro h; cases h)) (k p e R s m args below meth c Z hX hE H locs cells slots ls hR hS hL hc hs)
theorem pm_aload {i : Nat} {v : Value} (hdg : decode cc pc = .ok (.aload i, 2)) (hl : L[i]? = some v) (k : pm_W G l bs own cc nL ini d kc ks Q (pc + 2) L (v :: rest) S) (hr : pm_isr v := by first | exact Or.inr ⟨_, rfl⟩ | exact Or.inl rfl | exact pm_isr_rf _ | assumption) : pm_W G l bs own cc nL ini d kc ks Q pc L rest S := by
  intro p e R s m args below meth c Z hX hE H locs cells slots ls hR hS hL hc hs
  rcases hr with rfl | ⟨a, rfl⟩
  · exact lv_aloadN hX.1 hX.2.1 hdg (hL.get hl (by intro h; cases h)) (k p e R s m args below meth c Z hX hE H locs cells slots ls hR hS hL hc hs)
  · exact lv_aload hX.1 hX.2.1 hdg (hL.get hl (by intro h; cases h)) (k p e R s m args below meth c Z hX hE H locs cells slots ls hR hS hL hc hs)
theorem pm_istore_n {k9 : Fin 4} {x : Int32} (hdg : decode cc pc = .ok (.istore_n k9, 1)) (hn : (k9 : Nat) < nL) (k : pm_W G l bs own cc nL ini d kc ks Q (pc + 1) (L.set (k9 : Nat) (.int x)) rest S) (hp : pm_c1 L (k9 : Nat) := by first | exact trivial | exact pm_c1_s rfl rfl | exact pm_c1_s rfl (pm_rf_cat _) | assumption) : pm_W G l bs own cc nL ini d kc ks Q pc L (.int x :: rest) S := by
  intro p e R s m args below meth c Z hX hE H locs cells slots ls hR hS hL hc hs
  have hL2 := hL
  exact lv_istore_n hX.1 hX.2.1 hdg rfl hL.2 hn rfl (fun ls hL => k p e R s m args below meth c Z hX hE H locs cells slots ls hR hS (pm_lv_set hp hL2.1 hn hL) hc hs)
theorem pm_istore {i : Nat} {x : Int32} (hdg : decode cc pc = .ok (.istore i, 2)) (hn : i < nL) (k : pm_W G l bs own cc nL ini d kc ks Q (pc + 2) (L.set i (.int x)) rest S) (hp : pm_c1 L i := by first | exact trivial | exact pm_c1_s rfl rfl | exact pm_c1_s rfl (pm_rf_cat _) | assumption) : pm_W G l bs own cc nL ini d kc ks Q pc L (.int x :: rest) S := by
  intro p e R s m args below meth c Z hX hE H locs cells slots ls hR hS hL hc hs
  have hL2 := hL
  exact lv_istore hX.1 hX.2.1 hdg hL.2 hn rfl (fun ls hL => k p e R s m args below meth c Z hX hE H locs cells slots ls hR hS (pm_lv_set hp hL2.1 hn hL) hc hs)
theorem pm_lstore_n {k9 : Fin 4} {x : Int64} (hdg : decode cc pc = .ok (.lstore_n k9, 1)) (hn : (k9 : Nat) + 1 < nL) (k : pm_W G l bs own cc nL ini d kc ks Q (pc + 1) ((L.set (k9 : Nat) (.long x)).set ((k9 : Nat) + 1) pm_u) rest S) (hp : pm_c1 L (k9 : Nat) := by first | exact trivial | exact pm_c1_s rfl rfl | exact pm_c1_s rfl (pm_rf_cat _) | assumption) : pm_W G l bs own cc nL ini d kc ks Q pc L (.long x :: rest) S := by
  intro p e R s m args below meth c Z hX hE H locs cells slots ls hR hS hL hc hs
  have hL2 := hL
  exact lv_lstore_n hX.1 hX.2.1 hdg rfl hL.2 hn rfl (fun ls hL => k p e R s m args below meth c Z hX hE H locs cells slots ls hR hS (pm_lv_set2 hp hL2.1 hn hL) hc hs)
theorem pm_lstore {i : Nat} {x : Int64} (hdg : decode cc pc = .ok (.lstore i, 2)) (hn : i + 1 < nL) (k : pm_W G l bs own cc nL ini d kc ks Q (pc + 2) ((L.set i (.long x)).set (i + 1) pm_u) rest S) (hp : pm_c1 L i := by first | exact trivial | exact pm_c1_s rfl rfl | exact pm_c1_s rfl (pm_rf_cat _) | assumption) : pm_W G l bs own cc nL ini d kc ks Q pc L (.long x :: rest) S := by
  intro p e R s m args below meth c Z hX hE H locs cells slots ls hR hS hL hc hs
  have hL2 := hL
  exact lv_lstore hX.1 hX.2.1 hdg hL.2 hn rfl (fun ls hL => k p e R s m args below meth c Z hX hE H locs cells slots ls hR hS (pm_lv_set2 hp hL2.1 hn hL) hc hs)
theorem pm_astore_n {k9 : Fin 4} {v : Value} (hdg : decode cc pc = .ok (.astore_n k9, 1)) (hn : (k9 : Nat) < nL) (k : pm_W G l bs own cc nL ini d kc ks Q (pc + 1) (L.set (k9 : Nat) v) rest S) (hr : pm_isr v := by first | exact Or.inr ⟨_, rfl⟩ | exact Or.inl rfl | exact pm_isr_rf _ | assumption) (hp : pm_c1 L (k9 : Nat) := by first | exact trivial | exact pm_c1_s rfl rfl | exact pm_c1_s rfl (pm_rf_cat _) | assumption) : pm_W G l bs own cc nL ini d kc ks Q pc L (v :: rest) S := by
  intro p e R s m args below meth c Z hX hE H locs cells slots ls hR hS hL hc hs
  have hL2 := hL
  rcases hr with rfl | ⟨a, rfl⟩
  · exact lv_astore_nN hX.1 hX.2.1 hdg rfl hL.2 hn rfl (fun ls hL => k p e R s m args below meth c Z hX hE H locs cells slots ls hR hS (pm_lv_set hp hL2.1 hn hL) hc hs)
  · exact lv_astore_n hX.1 hX.2.1 hdg rfl hL.2 hn rfl (fun ls hL => k p e R s m args below meth c Z hX hE H locs cells slots ls hR hS (pm_lv_set hp hL2.1 hn hL) hc hs)
theorem pm_astore {i : Nat} {v : Value} (hdg : decode cc pc = .ok (.astore i, 2)) (hn : i < nL) (k : pm_W G l bs own cc nL ini d kc ks Q (pc + 2) (L.set i v) rest S) (hr : pm_isr v := by first | exact Or.inr ⟨_, rfl⟩ | exact Or.inl rfl | exact pm_isr_rf _ | assumption) (hp : pm_c1 L i := by first | exact trivial | exact pm_c1_s rfl rfl | exact pm_c1_s rfl (pm_rf_cat _) | assumption) : pm_W G l bs own cc nL ini d kc ks Q pc L (v :: rest) S := by
  intro p e R s m args below meth c Z hX hE H locs cells slots ls hR hS hL hc hs
  have hL2 := hL
  rcases hr with rfl | ⟨a, rfl⟩
  · exact lv_astoreN hX.1 hX.2.1 hdg hL.2 hn rfl (fun ls hL => k p e R s m args below meth c Z hX hE H locs cells slots ls hR hS (pm_lv_set hp hL2.1 hn hL) hc hs)
  · exact lv_astore hX.1 hX.2.1 hdg hL.2 hn rfl (fun ls hL => k p e R s m args below meth c Z hX hE H locs cells slots ls hR hS (pm_lv_set hp hL2.1 hn hL) hc hs)
theorem pm_iinc {i : Nat} {n : Int} {x v : Int32} (hdg : decode cc pc = .ok (.iinc i n, 3)) (hl : L[i]? = some (.int x)) (hv : x + Int32.ofInt n = v) (hn : i < nL) (k : pm_W G l bs own cc nL ini d kc ks Q (pc + 3) (L.set i (.int v)) rest S) (hp : pm_c1 L i := by first | exact trivial | exact pm_c1_s rfl rfl | exact pm_c1_s rfl (pm_rf_cat _) | assumption) : pm_W G l bs own cc nL ini d kc ks Q pc L rest S := by
  intro p e R s m args below meth c Z hX hE H locs cells slots ls hR hS hL hc hs
  have hL2 := hL
  obtain ⟨k9, hk9⟩ := List.getElem?_of_mem (pm_lv_mem (q := (i, .int x)).mpr ⟨hl, by intro h; cases h⟩)
  exact lv_iinc hX.1 hX.2.1 hdg hL.2 (k := k9) hk9 hv hn rfl (fun ls hL => k p e R s m args below meth c Z hX hE H locs cells slots ls hR hS (pm_lv_set hp hL2.1 hn hL) hc hs)
theorem pm_iadd {x y : Int32} (hdg : decode cc pc = .ok (.iadd, 1)) (k : pm_W G l bs own cc nL ini d kc ks Q (pc + 1) L (.int (x + y) :: rest) S) : pm_W G l bs own cc nL ini d kc ks Q pc L (.int y :: .int x :: rest) S := by
  intro p e R s m args below meth c Z hX hE H locs cells slots ls hR hS hL hc hs
  exact lv_iadd hX.1 hX.2.1 hdg (k p e R s m args below meth c Z hX hE H locs cells slots ls hR hS hL hc hs)
theorem pm_isub {x y : Int32} (hdg : decode cc pc = .ok (.isub, 1)) (k : pm_W G l bs own cc nL ini d kc ks Q (pc + 1) L (.int (x - y) :: rest) S) : pm_W G l bs own cc nL ini d kc ks Q pc L (.int y :: .int x :: rest) S := by
  intro p e R s m args below meth c Z hX hE H locs cells slots ls hR hS hL hc hs
  exact lv_isub hX.1 hX.2.1 hdg (k p e R s m args below meth c Z hX hE H locs cells slots ls hR hS hL hc hs)
theorem pm_imul {x y : Int32} (hdg : decode cc pc = .ok (.imul, 1)) (k : pm_W G l bs own cc nL ini d kc ks Q (pc + 1) L (.int (x * y) :: rest) S) : pm_W G l bs own cc nL ini d kc ks Q pc L (.int y :: .int x :: rest) S := by
  intro p e R s m args below meth c Z hX hE H locs cells slots ls hR hS hL hc hs
  exact lv_imul hX.1 hX.2.1 hdg (k p e R s m args below meth c Z hX hE H locs cells slots ls hR hS hL hc hs)
theorem pm_iand {x y : Int32} (hdg : decode cc pc = .ok (.iand, 1)) (k : pm_W G l bs own cc nL ini d kc ks Q (pc + 1) L (.int (x &&& y) :: rest) S) : pm_W G l bs own cc nL ini d kc ks Q pc L (.int y :: .int x :: rest) S := by
  intro p e R s m args below meth c Z hX hE H locs cells slots ls hR hS hL hc hs
  exact lv_iand hX.1 hX.2.1 hdg (k p e R s m args below meth c Z hX hE H locs cells slots ls hR hS hL hc hs)
theorem pm_ixor {x y : Int32} (hdg : decode cc pc = .ok (.ixor, 1)) (k : pm_W G l bs own cc nL ini d kc ks Q (pc + 1) L (.int (x ^^^ y) :: rest) S) : pm_W G l bs own cc nL ini d kc ks Q pc L (.int y :: .int x :: rest) S := by
  intro p e R s m args below meth c Z hX hE H locs cells slots ls hR hS hL hc hs
  exact lv_ixor hX.1 hX.2.1 hdg (k p e R s m args below meth c Z hX hE H locs cells slots ls hR hS hL hc hs)
theorem pm_ladd {x y : Int64} (hdg : decode cc pc = .ok (.ladd, 1)) (k : pm_W G l bs own cc nL ini d kc ks Q (pc + 1) L (.long (x + y) :: rest) S) : pm_W G l bs own cc nL ini d kc ks Q pc L (.long y :: .long x :: rest) S := by
  intro p e R s m args below meth c Z hX hE H locs cells slots ls hR hS hL hc hs
  exact lv_ladd hX.1 hX.2.1 hdg (k p e R s m args below meth c Z hX hE H locs cells slots ls hR hS hL hc hs)
theorem pm_lsub {x y : Int64} (hdg : decode cc pc = .ok (.lsub, 1)) (k : pm_W G l bs own cc nL ini d kc ks Q (pc + 1) L (.long (x - y) :: rest) S) : pm_W G l bs own cc nL ini d kc ks Q pc L (.long y :: .long x :: rest) S := by
  intro p e R s m args below meth c Z hX hE H locs cells slots ls hR hS hL hc hs
  exact lv_lsub hX.1 hX.2.1 hdg (k p e R s m args below meth c Z hX hE H locs cells slots ls hR hS hL hc hs)
theorem pm_land {x y : Int64} (hdg : decode cc pc = .ok (.land, 1)) (k : pm_W G l bs own cc nL ini d kc ks Q (pc + 1) L (.long (x &&& y) :: rest) S) : pm_W G l bs own cc nL ini d kc ks Q pc L (.long y :: .long x :: rest) S := by
  intro p e R s m args below meth c Z hX hE H locs cells slots ls hR hS hL hc hs
  exact lv_land hX.1 hX.2.1 hdg (k p e R s m args below meth c Z hX hE H locs cells slots ls hR hS hL hc hs)
theorem pm_lor {x y : Int64} (hdg : decode cc pc = .ok (.lor, 1)) (k : pm_W G l bs own cc nL ini d kc ks Q (pc + 1) L (.long (x ||| y) :: rest) S) : pm_W G l bs own cc nL ini d kc ks Q pc L (.long y :: .long x :: rest) S := by
  intro p e R s m args below meth c Z hX hE H locs cells slots ls hR hS hL hc hs
  exact lv_lor hX.1 hX.2.1 hdg (k p e R s m args below meth c Z hX hE H locs cells slots ls hR hS hL hc hs)
theorem pm_lxor {x y : Int64} (hdg : decode cc pc = .ok (.lxor, 1)) (k : pm_W G l bs own cc nL ini d kc ks Q (pc + 1) L (.long (x ^^^ y) :: rest) S) : pm_W G l bs own cc nL ini d kc ks Q pc L (.long y :: .long x :: rest) S := by
  intro p e R s m args below meth c Z hX hE H locs cells slots ls hR hS hL hc hs
  exact lv_lxor hX.1 hX.2.1 hdg (k p e R s m args below meth c Z hX hE H locs cells slots ls hR hS hL hc hs)
theorem pm_idiv {x y : Int32} (hdg : decode cc pc = .ok (.idiv, 1)) (hne : ¬ y = 0) (k : pm_W G l bs own cc nL ini d kc ks Q (pc + 1) L (.int (x / y) :: rest) S) : pm_W G l bs own cc nL ini d kc ks Q pc L (.int y :: .int x :: rest) S := by
  intro p e R s m args below meth c Z hX hE H locs cells slots ls hR hS hL hc hs
  exact lv_idiv hX.1 hX.2.1 hdg hne (k p e R s m args below meth c Z hX hE H locs cells slots ls hR hS hL hc hs)
theorem pm_irem {x y : Int32} (hdg : decode cc pc = .ok (.irem, 1)) (hne : ¬ y = 0) (k : pm_W G l bs own cc nL ini d kc ks Q (pc + 1) L (.int (x - x / y * y) :: rest) S) : pm_W G l bs own cc nL ini d kc ks Q pc L (.int y :: .int x :: rest) S := by
  intro p e R s m args below meth c Z hX hE H locs cells slots ls hR hS hL hc hs
  exact lv_irem hX.1 hX.2.1 hdg hne (k p e R s m args below meth c Z hX hE H locs cells slots ls hR hS hL hc hs)
theorem pm_i2l {x : Int32} (hdg : decode cc pc = .ok (.i2l, 1)) (k : pm_W G l bs own cc nL ini d kc ks Q (pc + 1) L (.long x.toInt64 :: rest) S) : pm_W G l bs own cc nL ini d kc ks Q pc L (.int x :: rest) S := by
  intro p e R s m args below meth c Z hX hE H locs cells slots ls hR hS hL hc hs
  exact lv_i2l hX.1 hX.2.1 hdg rfl (k p e R s m args below meth c Z hX hE H locs cells slots ls hR hS hL hc hs)
theorem pm_l2i {x : Int64} (hdg : decode cc pc = .ok (.l2i, 1)) (k : pm_W G l bs own cc nL ini d kc ks Q (pc + 1) L (.int x.toInt32 :: rest) S) : pm_W G l bs own cc nL ini d kc ks Q pc L (.long x :: rest) S := by
  intro p e R s m args below meth c Z hX hE H locs cells slots ls hR hS hL hc hs
  exact lv_l2i hX.1 hX.2.1 hdg rfl (k p e R s m args below meth c Z hX hE H locs cells slots ls hR hS hL hc hs)
theorem pm_lushr {x : Int64} {y : Int32} (hdg : decode cc pc = .ok (.lushr, 1)) (k : pm_W G l bs own cc nL ini d kc ks Q (pc + 1) L (.long (x.toUInt64 >>> (y.toInt64.toUInt64 &&& Int64.toUInt64 63)).toInt64 :: rest) S) : pm_W G l bs own cc nL ini d kc ks Q pc L (.int y :: .long x :: rest) S := by
  intro p e R s m args below meth c Z hX hE H locs cells slots ls hR hS hL hc hs
  exact lv_lushr hX.1 hX.2.1 hdg rfl (k p e R s m args below meth c Z hX hE H locs cells slots ls hR hS hL hc hs)
theorem pm_lshl {x : Int64} {y : Int32} (hdg : decode cc pc = .ok (.lshl, 1)) (k : pm_W G l bs own cc nL ini d kc ks Q (pc + 1) L (.long (x <<< (y.toInt64 &&& 63)) :: rest) S) : pm_W G l bs own cc nL ini d kc ks Q pc L (.int y :: .long x :: rest) S := by
  intro p e R s m args below meth c Z hX hE H locs cells slots ls hR hS hL hc hs
  exact lv_lshl hX.1 hX.2.1 hdg rfl (k p e R s m args below meth c Z hX hE H locs cells slots ls hR hS hL hc hs)
theorem pm_lcmp {x y : Int64} (hdg : decode cc pc = .ok (.lcmp, 1)) (k : pm_W G l bs own cc nL ini d kc ks Q (pc + 1) L (.int (lg_cmp x y) :: rest) S) : pm_W G l bs own cc nL ini d kc ks Q pc L (.long y :: .long x :: rest) S := by
  intro p e R s m args below meth c Z hX hE H locs cells slots ls hR hS hL hc hs
  exact W.lcmp hX.1 hX.2.1 hdg (k p e R s m args below meth c Z hX hE H locs cells slots ls hR hS hL hc hs)
theorem pm_dup {v : Value} (hdg : decode cc pc = .ok (.dup, 1)) (k : pm_W G l bs own cc nL ini d kc ks Q (pc + 1) L (v :: v :: rest) S) (hv : v.category = 1 := by first | rfl | exact pm_rf_cat _ | assumption) : pm_W G l bs own cc nL ini d kc ks Q pc L (v :: rest) S := by
  intro p e R s m args below meth c Z hX hE H locs cells slots ls hR hS hL hc hs
  exact lv_dup hX.1 hX.2.1 hdg hv (k p e R s m args below meth c Z hX hE H locs cells slots ls hR hS hL hc hs)
theorem pm_pop {v : Value} (hdg : decode cc pc = .ok (.pop, 1)) (k : pm_W G l bs own cc nL ini d kc ks Q (pc + 1) L rest S) (hv : v.category = 1 := by first | rfl | exact pm_rf_cat _ | assumption) : pm_W G l bs own cc nL ini d kc ks Q pc L (v :: rest) S := by
  intro p e R s m args below meth c Z hX hE H locs cells slots ls hR hS hL hc hs
  exact lv_pop hX.1 hX.2.1 hdg hv (k p e R s m args below meth c Z hX hE H locs cells slots ls hR hS hL hc hs)
theorem pm_dup2 {v u : Value} (hdg : decode cc pc = .ok (.dup2, 1)) (k : pm_W G l bs own cc nL ini d kc ks Q (pc + 1) L (v :: u :: v :: u :: rest) S) (hv : v.category = 1 := by first | rfl | exact pm_rf_cat _ | assumption) (hu : u.category = 1 := by first | rfl | exact pm_rf_cat _ | assumption) : pm_W G l bs own cc nL ini d kc ks Q pc L (v :: u :: rest) S := by
  intro p e R s m args below meth c Z hX hE H locs cells slots ls hR hS hL hc hs
  exact lv_dup2_11 hX.1 hX.2.1 hdg hv hu (k p e R s m args below meth c Z hX hE H locs cells slots ls hR hS hL hc hs)
theorem pm_if_eq {x : Int32} {off : Int} {tgt : Nat} (hdg : decode cc pc = .ok (.ifCond .eq off, 3)) (ht : (pc : Int) + off = (tgt : Int)) (kt : x = 0 → pm_W G l bs own cc nL ini d kc ks Q tgt L rest S) (kf : ¬ x = 0 → pm_W G l bs own cc nL ini d kc ks Q (pc + 3) L rest S) : pm_W G l bs own cc nL ini d kc ks Q pc L (.int x :: rest) S := by
  intro p e R s m args below meth c Z hX hE H locs cells slots ls hR hS hL hc hs
  exact lv_if_eq hX.1 hX.2.1 hdg ht (fun q => kt q p e R s m args below meth c Z hX hE H locs cells slots ls hR hS hL hc hs) (fun q => kf q p e R s m args below meth c Z hX hE H locs cells slots ls hR hS hL hc hs)
theorem pm_if_ne {x : Int32} {off : Int} {tgt : Nat} (hdg : decode cc pc = .ok (.ifCond .ne off, 3)) (ht : (pc : Int) + off = (tgt : Int)) (kt : ¬ x = 0 → pm_W G l bs own cc nL ini d kc ks Q tgt L rest S) (kf : x = 0 → pm_W G l bs own cc nL ini d kc ks Q (pc + 3) L rest S) : pm_W G l bs own cc nL ini d kc ks Q pc L (.int x :: rest) S := by
  intro p e R s m args below meth c Z hX hE H locs cells slots ls hR hS hL hc hs
  exact lv_if_ne hX.1 hX.2.1 hdg ht (fun q => kt q p e R s m args below meth c Z hX hE H locs cells slots ls hR hS hL hc hs) (fun q => kf q p e R s m args below meth c Z hX hE H locs cells slots ls hR hS hL hc hs)
theorem pm_if_lt {x : Int32} {off : Int} {tgt : Nat} (hdg : decode cc pc = .ok (.ifCond .lt off, 3)) (ht : (pc : Int) + off = (tgt : Int)) (kt : x < 0 → pm_W G l bs own cc nL ini d kc ks Q tgt L rest S) (kf : ¬ x < 0 → pm_W G l bs own cc nL ini d kc ks Q (pc + 3) L rest S) : pm_W G l bs own cc nL ini d kc ks Q pc L (.int x :: rest) S := by
  intro p e R s m args below meth c Z hX hE H locs cells slots ls hR hS hL hc hs
  exact lv_if_lt hX.1 hX.2.1 hdg ht (fun q => kt q p e R s m args below meth c Z hX hE H locs cells slots ls hR hS hL hc hs) (fun q => kf q p e R s m args below meth c Z hX hE H locs cells slots ls hR hS hL hc hs)
theorem pm_if_ge {x : Int32} {off : Int} {tgt : Nat} (hdg : decode cc pc = .ok (.ifCond .ge off, 3)) (ht : (pc : Int) + off = (tgt : Int)) (kt : 0 ≤ x → pm_W G l bs own cc nL ini d kc ks Q tgt L rest S) (kf : ¬ 0 ≤ x → pm_W G l bs own cc nL ini d kc ks Q (pc + 3) L rest S) : pm_W G l bs own cc nL ini d kc ks Q pc L (.int x :: rest) S := by
  intro p e R s m args below meth c Z hX hE H locs cells slots ls hR hS hL hc hs
  exact lv_if_ge hX.1 hX.2.1 hdg ht (fun q => kt q p e R s m args below meth c Z hX hE H locs cells slots ls hR hS hL hc hs) (fun q => kf q p e R s m args below meth c Z hX hE H locs cells slots ls hR hS hL hc hs)
theorem pm_if_gt {x : Int32} {off : Int} {tgt : Nat} (hdg : decode cc pc = .ok (.ifCond .gt off, 3)) (ht : (pc : Int) + off = (tgt : Int)) (kt : 0 < x → pm_W G l bs own cc nL ini d kc ks Q tgt L rest S) (kf : ¬ 0 < x → pm_W G l bs own cc nL ini d kc ks Q (pc + 3) L rest S) : pm_W G l bs own cc nL ini d kc ks Q pc L (.int x :: rest) S := by
  intro p e R s m args below meth c Z hX hE H locs cells slots ls hR hS hL hc hs
  exact lv_if_gt hX.1 hX.2.1 hdg ht (fun q => kt q p e R s m args below meth c Z hX hE H locs cells slots ls hR hS hL hc hs) (fun q => kf q p e R s m args below meth c Z hX hE H locs cells slots ls hR hS hL hc hs)
theorem pm_if_le {x : Int32} {off : Int} {tgt : Nat} (hdg : decode cc pc = .ok (.ifCond .le off, 3)) (ht : (pc : Int) + off = (tgt : Int)) (kt : x ≤ 0 → pm_W G l bs own cc nL ini d kc ks Q tgt L rest S) (kf : ¬ x ≤ 0 → pm_W G l bs own cc nL ini d kc ks Q (pc + 3) L rest S) : pm_W G l bs own cc nL ini d kc ks Q pc L (.int x :: rest) S := by
  intro p e R s m args below meth c Z hX hE H locs cells slots ls hR hS hL hc hs
  exact lv_if_le hX.1 hX.2.1 hdg ht (fun q => kt q p e R s m args below meth c Z hX hE H locs cells slots ls hR hS hL hc hs) (fun q => kf q p e R s m args below meth c Z hX hE H locs cells slots ls hR hS hL hc hs)
theorem pm_icmp_eq {x y : Int32} {off : Int} {tgt : Nat} (hdg : decode cc pc = .ok (.if_icmp .eq off, 3)) (ht : (pc : Int) + off = (tgt : Int)) (kt : x = y → pm_W G l bs own cc nL ini d kc ks Q tgt L rest S) (kf : ¬ x = y → pm_W G l bs own cc nL ini d kc ks Q (pc + 3) L rest S) : pm_W G l bs own cc nL ini d kc ks Q pc L (.int y :: .int x :: rest) S := by
  intro p e R s m args below meth c Z hX hE H locs cells slots ls hR hS hL hc hs
  exact lv_icmp_eq hX.1 hX.2.1 hdg ht (fun q => kt q p e R s m args below meth c Z hX hE H locs cells slots ls hR hS hL hc hs) (fun q => kf q p e R s m args below meth c Z hX hE H locs cells slots ls hR hS hL hc hs)
theorem pm_icmp_ne {x y : Int32} {off : Int} {tgt : Nat} (hdg : decode cc pc = .ok (.if_icmp .ne off, 3)) (ht : (pc : Int) + off = (tgt : Int)) (kt : ¬ x = y → pm_W G l bs own cc nL ini d kc ks Q tgt L rest S) (kf : x = y → pm_W G l bs own cc nL ini d kc ks Q (pc + 3) L rest S) : pm_W G l bs own cc nL ini d kc ks Q pc L (.int y :: .int x :: rest) S := by
  intro p e R s m args below meth c Z hX hE H locs cells slots ls hR hS hL hc hs
  exact lv_icmp_ne hX.1 hX.2.1 hdg ht (fun q => kt q p e R s m args below meth c Z hX hE H locs cells slots ls hR hS hL hc hs) (fun q => kf q p e R s m args below meth c Z hX hE H locs cells slots ls hR hS hL hc hs)
theorem pm_icmp_lt {x y : Int32} {off : Int} {tgt : Nat} (hdg : decode cc pc = .ok (.if_icmp .lt off, 3)) (ht : (pc : Int) + off = (tgt : Int)) (kt : x < y → pm_W G l bs own cc nL ini d kc ks Q tgt L rest S) (kf : ¬ x < y → pm_W G l bs own cc nL ini d kc ks Q (pc + 3) L rest S) : pm_W G l bs own cc nL ini d kc ks Q pc L (.int y :: .int x :: rest) S := by
  intro p e R s m args below meth c Z hX hE H locs cells slots ls hR hS hL hc hs
  exact lv_icmp_lt hX.1 hX.2.1 hdg ht (fun q => kt q p e R s m args below meth c Z hX hE H locs cells slots ls hR hS hL hc hs) (fun q => kf q p e R s m args below meth c Z hX hE H locs cells slots ls hR hS hL hc hs)
theorem pm_icmp_ge {x y : Int32} {off : Int} {tgt : Nat} (hdg : decode cc pc = .ok (.if_icmp .ge off, 3)) (ht : (pc : Int) + off = (tgt : Int)) (kt : y ≤ x → pm_W G l bs own cc nL ini d kc ks Q tgt L rest S) (kf : ¬ y ≤ x → pm_W G l bs own cc nL ini d kc ks Q (pc + 3) L rest S) : pm_W G l bs own cc nL ini d kc ks Q pc L (.int y :: .int x :: rest) S := by
  intro p e R s m args below meth c Z hX hE H locs cells slots ls hR hS hL hc hs
  exact lv_icmp_ge hX.1 hX.2.1 hdg ht (fun q => kt q p e R s m args below meth c Z hX hE H locs cells slots ls hR hS hL hc hs) (fun q => kf q p e R s m args below meth c Z hX hE H locs cells slots ls hR hS hL hc hs)
theorem pm_icmp_gt {x y : Int32} {off : Int} {tgt : Nat} (hdg : decode cc pc = .ok (.if_icmp .gt off, 3)) (ht : (pc : Int) + off = (tgt : Int)) (kt : y < x → pm_W G l bs own cc nL ini d kc ks Q tgt L rest S) (kf : ¬ y < x → pm_W G l bs own cc nL ini d kc ks Q (pc + 3) L rest S) : pm_W G l bs own cc nL ini d kc ks Q pc L (.int y :: .int x :: rest) S := by
  intro p e R s m args below meth c Z hX hE H locs cells slots ls hR hS hL hc hs
  exact lv_icmp_gt hX.1 hX.2.1 hdg ht (fun q => kt q p e R s m args below meth c Z hX hE H locs cells slots ls hR hS hL hc hs) (fun q => kf q p e R s m args below meth c Z hX hE H locs cells slots ls hR hS hL hc hs)
theorem pm_icmp_le {x y : Int32} {off : Int} {tgt : Nat} (hdg : decode cc pc = .ok (.if_icmp .le off, 3)) (ht : (pc : Int) + off = (tgt : Int)) (kt : x ≤ y → pm_W G l bs own cc nL ini d kc ks Q tgt L rest S) (kf : ¬ x ≤ y → pm_W G l bs own cc nL ini d kc ks Q (pc + 3) L rest S) : pm_W G l bs own cc nL ini d kc ks Q pc L (.int y :: .int x :: rest) S := by
  intro p e R s m args below meth c Z hX hE H locs cells slots ls hR hS hL hc hs
  exact lv_icmp_le hX.1 hX.2.1 hdg ht (fun q => kt q p e R s m args below meth c Z hX hE H locs cells slots ls hR hS hL hc hs) (fun q => kf q p e R s m args below meth c Z hX hE H locs cells slots ls hR hS hL hc hs)
theorem pm_goto {off : Int} {tgt : Nat} (hdg : decode cc pc = .ok (.goto off, 3)) (ht : (pc : Int) + off = (tgt : Int)) (k : pm_W G l bs own cc nL ini d kc ks Q tgt L rest S) : pm_W G l bs own cc nL ini d kc ks Q pc L rest S := by
  intro p e R s m args below meth c Z hX hE H locs cells slots ls hR hS hL hc hs
  exact lv_goto hX.1 hX.2.1 hdg ht (k p e R s m args below meth c Z hX hE H locs cells slots ls hR hS hL hc hs)
theorem pm_exit {i : Instr} {st : List Value} (hdg : decode cc pc = .ok (i, 1)) (hq : Q i st S) : pm_W G l bs own cc nL ini d kc ks Q pc L st S := by
  intro p e R s m args below meth c Z hX hE H locs cells slots ls hR hS hL hc hs
  exact hE i st S H locs cells slots pc ls hq hdg hR hS (by omega) (by omega)
end PMR
end
section
/-- a class's rows of the tables are among the words -/
theorem pm_in0 : ∀ w ∈ u_ws RX0 TX0 3, w ∈ pm_ws := by decide +kernel
theorem pm_in1 : ∀ w ∈ u_ws RX1 TX1 16, w ∈ pm_ws := by decide +kernel
theorem pm_in2 : ∀ w ∈ u_ws RX2 TX2 2, w ∈ pm_ws := by decide +kernel
theorem pm_in3 : ∀ w ∈ u_ws RX3 TX3 2, w ∈ pm_ws := by decide +kernel
theorem pm_in4 : ∀ w ∈ u_ws RX4 TX4 5, w ∈ pm_ws := by decide +kernel
theorem pm_in5 : ∀ w ∈ u_ws RX5 TX5 5, w ∈ pm_ws := by decide +kernel
theorem pm_in6 : ∀ w ∈ u_ws RX6 TX6 16, w ∈ pm_ws := by decide +kernel
theorem pm_in7 : ∀ w ∈ u_ws RX7 TX7 41, w ∈ pm_ws := by decide +kernel
def pm_ty : List (Nat → FieldType) := [tyX0, tyX1, tyX2, tyX3, tyX4, tyX5, tyX6, tyX7]
theorem pm_cl {c : Nat} {r : vw_C} (h : vwCl[c]? = some r) : (∀ w ∈ u_ws r.1 r.2.1 r.2.2, w ∈ pm_ws) ∧ (∃ ty : Nat → FieldType, pm_ty[c]? = some ty ∧ ∀ k, k < r.2.2 → parseFieldDescriptor (r.2.1 k).2.2.1 = some (ty k)) ∧ (∀ a, a < r.2.2 → ∀ b, b < r.2.2 → a ≠ b → (r.2.1 a).2.1 ≠ (r.2.1 b).2.1) ∧ c < 8 := by
  have hl : c < 8 := (List.getElem?_eq_some_iff.mp h).1
  match c, hl, h with
  | 0, _, h => cases h; exact ⟨pm_in0, ⟨_, rfl, tyX0_ok⟩, nmX0, by decide⟩
  | 1, _, h => cases h; exact ⟨pm_in1, ⟨_, rfl, tyX1_ok⟩, nmX1, by decide⟩
  | 2, _, h => cases h; exact ⟨pm_in2, ⟨_, rfl, tyX2_ok⟩, nmX2, by decide⟩
  | 3, _, h => cases h; exact ⟨pm_in3, ⟨_, rfl, tyX3_ok⟩, nmX3, by decide⟩
  | 4, _, h => cases h; exact ⟨pm_in4, ⟨_, rfl, tyX4_ok⟩, nmX4, by decide⟩
  | 5, _, h => cases h; exact ⟨pm_in5, ⟨_, rfl, tyX5_ok⟩, nmX5, by decide⟩
  | 6, _, h => cases h; exact ⟨pm_in6, ⟨_, rfl, tyX6_ok⟩, nmX6, by decide⟩
  | 7, _, h => cases h; exact ⟨pm_in7, ⟨_, rfl, tyX7_ok⟩, nmX7, by decide⟩
theorem pm_S.put {bs a : Nat} {H0 H H1 : Heap} {locs : List Loc} {i : Nat} (hS : va_S (fun q => bs ≤ q) H0 H locs) (hz : H1.size = H.size) (hq : ∀ q : Nat, q ≠ a → H1[q]? = H[q]?) (ha : bs ≤ a) : va_S (fun q => bs ≤ q) H0 H1 (locs ++ [⟨a, i⟩]) := by
  refine ⟨by rw [hz]; exact hS.1, fun q h1 h2 => ?_, fun x hx => ?_⟩
  · rw [hq q (fun e => h2 (by rw [e]; exact ha))]
    exact hS.2.1 q h1 h2
  · rcases List.mem_append.mp hx with h | h
    · exact hS.2.2 x h
    · rw [List.mem_singleton.mp h]
      exact ha
theorem pm_S.new {bs : Nat} {H0 H H1 : Heap} {locs : List Loc} (hS : va_S (fun q => bs ≤ q) H0 H locs) (hz : H1.size = H.size + 1) (hq : ∀ q : Nat, q < H.size → H1[q]? = H[q]?) : va_S (fun q => bs ≤ q) H0 H1 locs :=
  ⟨by have := hS.1; omega, fun q h1 h2 => (hq q (Nat.lt_of_lt_of_le h1 hS.1)).trans (hS.2.1 q h1 h2), hS.2.2⟩
theorem pm_lt {bs a c : Nat} {G : pm_G} {S : pm_S} {H : Heap} (h : pm_R G bs S H) (hk : pm_k S a = c + 1) : bs ≤ a := (h a (by omega)).1
theorem pm_fresh {bs : Nat} {G : pm_G} {S : pm_S} {H : Heap} (h : pm_R G bs S H) : pm_k S H.size = 0 := by
  by_cases e : pm_k S H.size = 0
  · exact e
  · exact absurd (h _ e).2.1 (Nat.lt_irrefl _)
theorem pm_off_si (S : pm_S) (f a : Nat) (v : Int32) : pm_off S (pm_si S f a v) a := fun b hb => ⟨rfl, rfl, fun g => by rw [pm_i_si, if_neg (fun h => hb h.2)], fun _ => rfl, fun _ => rfl, fun _ => rfl, fun _ => rfl, fun _ => rfl⟩
theorem pm_off_sj (S : pm_S) (f a : Nat) (v : Int64) : pm_off S (pm_sj S f a v) a := fun b hb => ⟨rfl, rfl, fun _ => rfl, fun g => by rw [pm_j_sj, if_neg (fun h => hb h.2)], fun _ => rfl, fun _ => rfl, fun _ => rfl, fun _ => rfl⟩
theorem pm_off_sp (S : pm_S) (f a : Nat) (v : Option Nat) : pm_off S (pm_sp S f a v) a := fun b hb => ⟨rfl, rfl, fun _ => rfl, fun _ => rfl, fun g => by rw [pm_p_sp, if_neg (fun h => hb h.2)], fun _ => rfl, fun _ => rfl, fun _ => rfl⟩
theorem pm_off_sx (S : pm_S) (a i : Nat) (v : Int32) : pm_off S (pm_sx S a i v) a := fun b hb => ⟨rfl, rfl, fun _ => rfl, fun _ => rfl, fun _ => rfl, fun g => by rw [pm_x_sx, if_neg (fun h => hb h.1)], fun _ => rfl, fun _ => rfl⟩
theorem pm_off_sy (S : pm_S) (a i : Nat) (v : Int64) : pm_off S (pm_sy S a i v) a := fun b hb => ⟨rfl, rfl, fun _ => rfl, fun _ => rfl, fun _ => rfl, fun _ => rfl, fun g => by rw [pm_y_sy, if_neg (fun h => hb h.1)], fun _ => rfl⟩
theorem pm_off_sz (S : pm_S) (a i : Nat) (v : Option Nat) : pm_off S (pm_sz S a i v) a := fun b hb => ⟨rfl, rfl, fun _ => rfl, fun _ => rfl, fun _ => rfl, fun _ => rfl, fun _ => rfl, fun g => by rw [pm_z_sz, if_neg (fun h => hb h.1)]⟩
theorem pm_off_sr (S : pm_S) (a : Nat) (r : Nat → Int32) : pm_off S (pm_sr S a r) a := fun b hb => ⟨rfl, rfl, fun _ => rfl, fun _ => rfl, fun _ => rfl, fun g => by rw [pm_x_sr, if_neg hb], fun _ => rfl, fun _ => rfl⟩
theorem pm_fv_si {S : pm_S} {c a j : Nat} (hs : (pm_so.getD c []).getD j 0 = 0) (v : Int32) (q : Nat) : updV (pm_fv S c a) j (.int v) q = pm_fv (pm_si S (50 * c + j) a v) c a q := by
  by_cases h : q = j
  · subst h
    have e0 : pm_fv (pm_si S (50 * c + q) a v) c a q = pm_sv (pm_si S (50 * c + q) a v) 0 (50 * c + q) a := by unfold pm_fv; rw [hs]
    rw [e0]
    simp [updV, pm_sv, pm_i_si]
  · have e : ∀ o, pm_sv (pm_si S (50 * c + j) a v) o (50 * c + q) a = pm_sv S o (50 * c + q) a := by
      intro o
      unfold pm_sv
      split <;> simp only [pm_i_si, pm_p_si, pm_j_si]
      rw [if_neg (by omega)]
    simp only [updV, pm_fv, if_neg h, e]
theorem pm_fv_sj {S : pm_S} {c a j : Nat} (hs : (pm_so.getD c []).getD j 0 = 2) (v : Int64) (q : Nat) : updV (pm_fv S c a) j (.long v) q = pm_fv (pm_sj S (50 * c + j) a v) c a q := by
  by_cases h : q = j
  · subst h
    have e0 : pm_fv (pm_sj S (50 * c + q) a v) c a q = pm_sv (pm_sj S (50 * c + q) a v) 2 (50 * c + q) a := by unfold pm_fv; rw [hs]
    rw [e0]
    simp [updV, pm_sv, pm_j_sj]
  · have e : ∀ o, pm_sv (pm_sj S (50 * c + j) a v) o (50 * c + q) a = pm_sv S o (50 * c + q) a := by
      intro o
      unfold pm_sv
      split <;> simp only [pm_i_sj, pm_p_sj, pm_j_sj]
      rw [if_neg (by omega)]
    simp only [updV, pm_fv, if_neg h, e]
theorem pm_fv_sp {S : pm_S} {c a j : Nat} (hs : (pm_so.getD c []).getD j 0 = 1) (v : Option Nat) (q : Nat) : updV (pm_fv S c a) j (va_rf v) q = pm_fv (pm_sp S (50 * c + j) a v) c a q := by
  by_cases h : q = j
  · subst h
    have e0 : pm_fv (pm_sp S (50 * c + q) a v) c a q = pm_sv (pm_sp S (50 * c + q) a v) 1 (50 * c + q) a := by unfold pm_fv; rw [hs]
    rw [e0]
    simp [updV, pm_sv, pm_p_sp]
  · have e : ∀ o, pm_sv (pm_sp S (50 * c + j) a v) o (50 * c + q) a = pm_sv S o (50 * c + q) a := by
      intro o
      unfold pm_sv
      split <;> simp only [pm_i_sp, pm_p_sp, pm_j_sp]
      rw [if_neg (by omega)]
    simp only [updV, pm_fv, if_neg h, e]
section PMH
variable {G : pm_G} {l : Launch} {bs : Nat} {own : String} {cc : ByteArray} {nL : Nat} {ini : Bool} {d kc ks : Nat} {Q : Instr → List Value → pm_S → Prop} {pc : Nat} {L rest : List Value} {S : pm_S}
/-- a link to a field: by the method's own name, or as a nest mate -/
def pm_lk (own : String) (index : Nat) (C n t : String) : Prop := Cond.fieldLink own index C n t ∈ pm_ws ∨ ∃ host, Cond.fieldLinkNest own index C n t host ∈ lw_tbl
theorem pm_getf {c j index a : Nat} {r : vw_C} (hr : vwCl[c]? = some r) (hj : j < r.2.2) (hk : pm_k S a = c + 1) (hw : pm_lk own index r.1 (r.2.1 j).2.1 (r.2.1 j).2.2.1) (hd1 : (r.2.1 j).1 = r.1) (hdg : decode cc pc = .ok (.getfield index, 3)) (k : pm_W G l bs own cc nL ini d kc ks Q (pc + 3) L (pm_fv S c a j :: rest) S) : pm_W G l bs own cc nL ini d kc ks Q pc L (.ref a :: rest) S := by
  intro p e R s m args below meth c9 Z hX hE H locs cells slots ls hR hS hL hc9 hs9
  obtain ⟨hin, -, -, hc⟩ := pm_cl hr
  obtain ⟨r', h1, cell, q1, q2, q3, q4⟩ := hR.ob hc hk
  have e : r' = r := Option.some.inj (h1.symm.trans hr)
  subst e
  obtain ⟨hS1, hfc, kC, hkC, hkind⟩ := hX.2.2.2.2.2.1.1.1 c _ hr
  obtain ⟨cf, kf, fi, f, hi, hsl⟩ := hS1 j hj
  have hst := (u_facts hfc hkC (u_lays hX.2.2.2.2.1 hin hj) hi).1
  have hv : cell.slots[f.slot]? = some (pm_fv S c a j) := by rw [hsl]; exact q4 j hj
  rw [hd1] at hi
  rcases hw with hw | ⟨host, hw⟩
  · exact W.getf hX.1 hX.2.1 hX.2.2.2.1 (hX.2.2.2.2.1 _ hw) hi hst q1 (by rw [q3]; exact fun h => by cases h) hv rfl rfl hdg (k p e R s m args below meth c9 Z hX hE H locs cells slots ls hR hS hL hc9 hs9)
  · exact va_Wgetf hX.1 hX.2.1 hX.2.2.2.1 (va_Nw.use rfl (hX.2.2.2.2.2.1.2.1 _ hw rfl)) hi hst q1 (by rw [q3]; exact fun h => by cases h) hv rfl rfl hdg (k p e R s m args below meth c9 Z hX hE H locs cells slots ls hR hS hL hc9 hs9)
theorem pm_putf {c j index a : Nat} {r : vw_C} {S' : pm_S} {v : Value} {ty : FieldType} (hr : vwCl[c]? = some r) (hj : j < r.2.2) (hk : pm_k S a = c + 1) (hw : pm_lk own index r.1 (r.2.1 j).2.1 (r.2.1 j).2.2.1) (hd1 : (r.2.1 j).1 = r.1) (hfin : (r.2.1 j).2.2.2 = false ∨ ((r.2.1 j).2.2.2 = true ∧ ini = true ∧ own = r.1 ∧ Cond.fieldLink own index r.1 (r.2.1 j).2.1 (r.2.1 j).2.2.1 ∈ pm_ws)) (hd : parseFieldDescriptor (r.2.1 j).2.2.1 = some ty) (hn : narrow ty v = v) (hfit : fits ty v = true) (ho : pm_off S S' a) (hk' : pm_k S' a = pm_k S a) (hv : ∀ q, updV (pm_fv S c a) j v q = pm_fv S' c a q) (hdg : decode cc pc = .ok (.putfield index, 3)) (k : pm_W G l bs own cc nL ini d kc ks Q (pc + 3) L rest S') : pm_W G l bs own cc nL ini d kc ks Q pc L (v :: .ref a :: rest) S := by
  intro p e R s m args below meth c9 Z hX hE H locs cells slots ls hR hS hL hc9 hs9
  obtain ⟨hin, ⟨ty0, -, hty⟩, hnm, hc⟩ := pm_cl hr
  have hap := va_apart (own := own) hX.2.2.2.2.1 hin ty0 hty hnm hX.2.2.2.2.2.1.1 hr
  obtain ⟨r', h1, cell, q1, q2, q3, q4⟩ := hR.ob hc hk
  have e : r' = r := Option.some.inj (h1.symm.trans hr)
  subst e
  obtain ⟨hS1, hfc, kC, hkC, hkind⟩ := hX.2.2.2.2.2.1.1.1 c _ hr
  obtain ⟨cf, kf, fi, f, hi, hsl⟩ := hS1 j hj
  have hlay := hX.2.2.2.2.1 _ (hin _ (u_in_lay hj))
  have hst := (u_facts hfc hkC (u_lays hX.2.2.2.2.1 hin hj) hi).1
  have fin : ∀ H' : Heap, H'[a]? = some (cell.setSlot f.slot v) → H'.size = H.size → (∀ q, q ≠ a → H'[q]? = H[q]?) → W p l e R s m args below meth c9 H' (locs ++ [⟨a, f.slot⟩]) cells slots Z (F0 m (pc + 3) ls rest) := by
    intro H' e1 e2 e3
    refine k p e R s m args below meth c9 Z hX hE H' _ cells slots ls (hR.put ho hk' e2 e3 (fun _ => pm_at_ob hc (by rw [hk']; exact hk) ⟨_, hr, ?_⟩)) (pm_S.put hS e2 e3 (pm_lt hR hk)) hL hc9 hs9
    rw [hsl] at e1
    exact t_OB.to (V := updV (pm_fv S c a) j v) ⟨_, e1, q2, q3, t_set q4 hap hj v⟩ (fun q _ => hv q)
  unfold u_lay at hlay
  rcases hfin with hfin | ⟨hfin, hini, hown, hw2⟩
  · rw [if_neg (by rw [hfin]; decide)] at hlay
    have h6 := u_store hfc hkC hkind hlay hi hd hn hfit
    rw [hd1] at hi
    rcases hw with hw | ⟨host, hw⟩
    · exact W.putK hX.1 hX.2.1 (f := f) ⟨hX.2.2.2.1, hX.2.2.2.2.1 _ hw, ⟨_, _, _, hi⟩, hst⟩ (by rw [q2]; exact h6) q1 q3 (by rw [hsl]; exact k2_hasslot (q4 j hj)) rfl rfl hdg fin
    · exact va_WputK hX.1 hX.2.1 (f := f) hX.2.2.2.1 (va_Nw.use rfl (hX.2.2.2.2.2.1.2.1 _ hw rfl)) hi hst (by rw [q2]; exact h6) q1 q3 (by rw [hsl]; exact k2_hasslot (q4 j hj)) rfl rfl hdg fin
  · rw [if_pos hfin] at hlay
    have hcf : m.cls = cf := by
      obtain ⟨_, _, c', _, _, _, -, -, hf', -, -, -, hown2, -⟩ := Cond.laysFinal_spec hlay
      have e1 : c' = cf := by have := hi.symm.trans hf'; simp at this; exact this.1.symm
      rw [hd1, ← hown] at hown2
      rw [← e1]; exact Option.some.inj (hX.2.2.2.1.symm.trans hown2)
    have h6 := u_fits hfc hkC hkind (Or.inr hlay) hi hd hn hfit
    rw [hd1] at hi
    exact W.putFinK hX.1 hX.2.1 hX.2.2.2.1 (hX.2.2.2.2.1 _ hw2) hi hst hcf (hX.2.2.2.2.2.2.2.2.2 hini) (by rw [q2]; exact h6) q1 q3 (by rw [hsl]; exact k2_hasslot (q4 j hj)) rfl rfl hdg fin
theorem pm_ai {i : Int32} {n N : Nat} (hi : i = nI n) (hb : n < N) (h31 : N < 2 ^ 31) : vp_in i N ∧ i.toNatClampNeg = n := by
  subst hi
  exact ⟨vp_in_nI hb h31, nI_clamp (by omega)⟩
theorem pm_at9 {bs a : Nat} {S : pm_S} {H : Heap} (hR : pm_R G bs S H) (hk : pm_k S a = 9) : H[a]? = some (arrV (G.2 0) (pm_n S a) (fun i => .int (pm_x S a i))) := by
  have h := (hR a (by omega)).2.2
  unfold pm_at at h
  rw [if_pos hk] at h
  exact h
theorem pm_at10 {bs a : Nat} {S : pm_S} {H : Heap} (hR : pm_R G bs S H) (hk : pm_k S a = 10) : H[a]? = some (arrV (G.2 1) (pm_n S a) (fun i => .int (pm_x S a i))) := by
  have h := (hR a (by omega)).2.2
  unfold pm_at at h
  rw [if_neg (by omega), if_pos hk] at h
  exact h
theorem pm_at11 {bs a : Nat} {S : pm_S} {H : Heap} (hR : pm_R G bs S H) (hk : pm_k S a = 11) : H[a]? = some (arrV (G.2 2) (pm_n S a) (fun i => .long (pm_y S a i))) := by
  have h := (hR a (by omega)).2.2
  unfold pm_at at h
  rw [if_neg (by omega), if_neg (by omega), if_pos hk] at h
  exact h
theorem pm_at12 {bs a : Nat} {S : pm_S} {H : Heap} (hR : pm_R G bs S H) (hk : pm_k S a = 12) : H[a]? = some (arrV (G.2 3) (pm_n S a) (fun i => va_rf (pm_z S a i))) := by
  have h := (hR a (by omega)).2.2
  unfold pm_at at h
  rw [if_neg (by omega), if_neg (by omega), if_neg (by omega), if_pos hk] at h
  exact h
theorem pm_at13 {bs a : Nat} {S : pm_S} {H : Heap} (hR : pm_R G bs S H) (hk : pm_k S a = 13) : H[a]? = some (arrV (G.2 4) (pm_n S a) (fun i => va_rf (pm_z S a i))) := by
  have h := (hR a (by omega)).2.2
  unfold pm_at at h
  rw [if_neg (by omega), if_neg (by omega), if_neg (by omega), if_neg (by omega), if_pos hk] at h
  exact h
theorem pm_to9 {a : Nat} {S : pm_S} {H : Heap} (hk : pm_k S a = 9) (h : H[a]? = some (arrV (G.2 0) (pm_n S a) (fun i => .int (pm_x S a i)))) : pm_at G S a H := by
  unfold pm_at
  rw [if_pos hk]
  exact h
theorem pm_to10 {a : Nat} {S : pm_S} {H : Heap} (hk : pm_k S a = 10) (h : H[a]? = some (arrV (G.2 1) (pm_n S a) (fun i => .int (pm_x S a i)))) : pm_at G S a H := by
  unfold pm_at
  rw [if_neg (by omega), if_pos hk]
  exact h
theorem pm_to11 {a : Nat} {S : pm_S} {H : Heap} (hk : pm_k S a = 11) (h : H[a]? = some (arrV (G.2 2) (pm_n S a) (fun i => .long (pm_y S a i)))) : pm_at G S a H := by
  unfold pm_at
  rw [if_neg (by omega), if_neg (by omega), if_pos hk]
  exact h
theorem pm_to12 {a : Nat} {S : pm_S} {H : Heap} (hk : pm_k S a = 12) (h : H[a]? = some (arrV (G.2 3) (pm_n S a) (fun i => va_rf (pm_z S a i)))) : pm_at G S a H := by
  unfold pm_at
  rw [if_neg (by omega), if_neg (by omega), if_neg (by omega), if_pos hk]
  exact h
theorem pm_to13 {a : Nat} {S : pm_S} {H : Heap} (hk : pm_k S a = 13) (h : H[a]? = some (arrV (G.2 4) (pm_n S a) (fun i => va_rf (pm_z S a i)))) : pm_at G S a H := by
  unfold pm_at
  rw [if_neg (by omega), if_neg (by omega), if_neg (by omega), if_neg (by omega), if_pos hk]
  exact h
theorem pm_iaload {a n : Nat} {i : Int32} (hk : pm_k S a = 9) (hi : i = nI n) (hb : n < pm_n S a) (h31 : pm_n S a < 2 ^ 31) (hdg : decode cc pc = .ok (.iaload, 1)) (k : pm_W G l bs own cc nL ini d kc ks Q (pc + 1) L (.int (pm_x S a n) :: rest) S) : pm_W G l bs own cc nL ini d kc ks Q pc L (.int i :: .ref a :: rest) S := by
  intro p e R s m args below meth c9 Z hX hE H locs cells slots ls hR hS hL hc9 hs9
  obtain ⟨h1, h2⟩ := pm_ai hi hb h31
  exact W.iald hX.1 hX.2.1 (pm_at9 hR hk) ((hX.2.2.2.2.2.1.1.2 0 _ rfl).1 _ _) (fun q => by cases q) (by rw [arrV_size]; exact h1) (by rw [h2, arrV_read _ _ hb]) rfl rfl hdg (k p e R s m args below meth c9 Z hX hE H locs cells slots ls hR hS hL hc9 hs9)
theorem pm_baload {a n : Nat} {i : Int32} (hk : pm_k S a = 10) (hi : i = nI n) (hb : n < pm_n S a) (h31 : pm_n S a < 2 ^ 31) (hdg : decode cc pc = .ok (.baload, 1)) (k : pm_W G l bs own cc nL ini d kc ks Q (pc + 1) L (.int (pm_x S a n) :: rest) S) : pm_W G l bs own cc nL ini d kc ks Q pc L (.int i :: .ref a :: rest) S := by
  intro p e R s m args below meth c9 Z hX hE H locs cells slots ls hR hS hL hc9 hs9
  obtain ⟨h1, h2⟩ := pm_ai hi hb h31
  exact W.zald hX.1 hX.2.1 (pm_at10 hR hk) ((hX.2.2.2.2.2.1.1.2 1 _ rfl).1 _ _) (fun q => by cases q) (by rw [arrV_size]; exact h1) (by rw [h2, arrV_read _ _ hb]) rfl rfl hdg (k p e R s m args below meth c9 Z hX hE H locs cells slots ls hR hS hL hc9 hs9)
theorem pm_laload {a n : Nat} {i : Int32} (hk : pm_k S a = 11) (hi : i = nI n) (hb : n < pm_n S a) (h31 : pm_n S a < 2 ^ 31) (hdg : decode cc pc = .ok (.laload, 1)) (k : pm_W G l bs own cc nL ini d kc ks Q (pc + 1) L (.long (pm_y S a n) :: rest) S) : pm_W G l bs own cc nL ini d kc ks Q pc L (.int i :: .ref a :: rest) S := by
  intro p e R s m args below meth c9 Z hX hE H locs cells slots ls hR hS hL hc9 hs9
  obtain ⟨h1, h2⟩ := pm_ai hi hb h31
  exact W.lald hX.1 hX.2.1 (pm_at11 hR hk) ((hX.2.2.2.2.2.1.1.2 2 _ rfl).1 _ _) (fun q => by cases q) (by rw [arrV_size]; exact h1) (by rw [h2, arrV_read _ _ hb]) rfl rfl hdg (k p e R s m args below meth c9 Z hX hE H locs cells slots ls hR hS hL hc9 hs9)
theorem pm_aaloadP {a n : Nat} {i : Int32} (hk : pm_k S a = 12) (hi : i = nI n) (hb : n < pm_n S a) (h31 : pm_n S a < 2 ^ 31) (hdg : decode cc pc = .ok (.aaload, 1)) (k : pm_W G l bs own cc nL ini d kc ks Q (pc + 1) L (va_rf (pm_z S a n) :: rest) S) : pm_W G l bs own cc nL ini d kc ks Q pc L (.int i :: .ref a :: rest) S := by
  intro p e R s m args below meth c9 Z hX hE H locs cells slots ls hR hS hL hc9 hs9
  obtain ⟨h1, h2⟩ := pm_ai hi hb h31
  exact W.aald (ty := .object "ProcessMill$Proc") hX.1 hX.2.1 (pm_at12 hR hk) ((hX.2.2.2.2.2.1.1.2 3 _ rfl).1 _ _) rfl (fun q => by cases q) (by rw [arrV_size]; exact h1) (by rw [h2, arrV_read _ _ hb]) rfl rfl hdg (k p e R s m args below meth c9 Z hX hE H locs cells slots ls hR hS hL hc9 hs9)
theorem pm_aaloadT {a n : Nat} {i : Int32} (hk : pm_k S a = 13) (hi : i = nI n) (hb : n < pm_n S a) (h31 : pm_n S a < 2 ^ 31) (hdg : decode cc pc = .ok (.aaload, 1)) (k : pm_W G l bs own cc nL ini d kc ks Q (pc + 1) L (va_rf (pm_z S a n) :: rest) S) : pm_W G l bs own cc nL ini d kc ks Q pc L (.int i :: .ref a :: rest) S := by
  intro p e R s m args below meth c9 Z hX hE H locs cells slots ls hR hS hL hc9 hs9
  obtain ⟨h1, h2⟩ := pm_ai hi hb h31
  exact W.aald (ty := .object "ProcessMill$Term") hX.1 hX.2.1 (pm_at13 hR hk) ((hX.2.2.2.2.2.1.1.2 4 _ rfl).1 _ _) rfl (fun q => by cases q) (by rw [arrV_size]; exact h1) (by rw [h2, arrV_read _ _ hb]) rfl rfl hdg (k p e R s m args below meth c9 Z hX hE H locs cells slots ls hR hS hL hc9 hs9)
theorem pm_iastore {a n : Nat} {i : Int32} {x : Int32} (hk : pm_k S a = 9) (hi : i = nI n) (hb : n < pm_n S a) (h31 : pm_n S a < 2 ^ 31) (hdg : decode cc pc = .ok (.iastore, 1)) (k : pm_W G l bs own cc nL ini d kc ks Q (pc + 1) L rest (pm_sx S a n x)) : pm_W G l bs own cc nL ini d kc ks Q pc L (.int x :: .int i :: .ref a :: rest) S := by
  intro p e R s m args below meth c9 Z hX hE H locs cells slots ls hR hS hL hc9 hs9
  obtain ⟨h1, h2⟩ := pm_ai hi hb h31
  refine W.iast hX.1 hX.2.1 (pm_at9 hR hk) ((hX.2.2.2.2.2.1.1.2 0 _ rfl).1 _ _) (fun q => by cases q) (by rw [arrV_size]; exact h1) rfl rfl hdg fun H1 e1 e2 e3 => ?_
  refine k p e R s m args below meth c9 Z hX hE H1 _ cells slots ls (hR.put (pm_off_sx S a n x) rfl e2 e3 (fun _ => pm_to9 hk ?_)) (pm_S.put hS e2 e3 (hR a (by omega)).1) hL hc9 hs9
  rw [e1, arrV_store]
  show some (arrV _ (pm_n S a) _) = some (arrV _ (pm_n S a) _)
  congr 2
  funext q
  simp only [updV, pm_x_sx, h2]
  by_cases hq : q = n <;> simp [hq]
theorem pm_bastore {a n : Nat} {i : Int32} {x : Int32} (hk : pm_k S a = 10) (hi : i = nI n) (hb : n < pm_n S a) (h31 : pm_n S a < 2 ^ 31) (hx : x = 0 ∨ x = 1) (hdg : decode cc pc = .ok (.bastore, 1)) (k : pm_W G l bs own cc nL ini d kc ks Q (pc + 1) L rest (pm_sx S a n x)) : pm_W G l bs own cc nL ini d kc ks Q pc L (.int x :: .int i :: .ref a :: rest) S := by
  intro p e R s m args below meth c9 Z hX hE H locs cells slots ls hR hS hL hc9 hs9
  obtain ⟨h1, h2⟩ := pm_ai hi hb h31
  refine W.zast hX.1 hX.2.1 (pm_at10 hR hk) ((hX.2.2.2.2.2.1.1.2 1 _ rfl).1 _ _) (fun q => by cases q) (by rw [arrV_size]; exact h1) rfl rfl hdg fun H1 e1 e2 e3 => ?_
  refine k p e R s m args below meth c9 Z hX hE H1 _ cells slots ls (hR.put (pm_off_sx S a n x) rfl e2 e3 (fun _ => pm_to10 hk ?_)) (pm_S.put hS e2 e3 (hR a (by omega)).1) hL hc9 hs9
  have hnz : narrow .boolean (.int x) = .int x := by rcases hx with rfl | rfl <;> rfl
  rw [hnz] at e1
  rw [e1, arrV_store]
  show some (arrV _ (pm_n S a) _) = some (arrV _ (pm_n S a) _)
  congr 2
  funext q
  simp only [updV, pm_x_sx, h2]
  by_cases hq : q = n <;> simp [hq]
theorem pm_lastore {a n : Nat} {i : Int32} {x : Int64} (hk : pm_k S a = 11) (hi : i = nI n) (hb : n < pm_n S a) (h31 : pm_n S a < 2 ^ 31) (hdg : decode cc pc = .ok (.lastore, 1)) (k : pm_W G l bs own cc nL ini d kc ks Q (pc + 1) L rest (pm_sy S a n x)) : pm_W G l bs own cc nL ini d kc ks Q pc L (.long x :: .int i :: .ref a :: rest) S := by
  intro p e R s m args below meth c9 Z hX hE H locs cells slots ls hR hS hL hc9 hs9
  obtain ⟨h1, h2⟩ := pm_ai hi hb h31
  refine W.last hX.1 hX.2.1 (pm_at11 hR hk) ((hX.2.2.2.2.2.1.1.2 2 _ rfl).1 _ _) (fun q => by cases q) (by rw [arrV_size]; exact h1) rfl rfl hdg fun H1 e1 e2 e3 => ?_
  refine k p e R s m args below meth c9 Z hX hE H1 _ cells slots ls (hR.put (pm_off_sy S a n x) rfl e2 e3 (fun _ => pm_to11 hk ?_)) (pm_S.put hS e2 e3 (hR a (by omega)).1) hL hc9 hs9
  rw [e1, arrV_store]
  show some (arrV _ (pm_n S a) _) = some (arrV _ (pm_n S a) _)
  congr 2
  funext q
  simp only [updV, pm_y_sy, h2]
  by_cases hq : q = n <;> simp [hq]
theorem pm_aastoreP {a n v : Nat} {i : Int32} (hk : pm_k S a = 12) (hi : i = nI n) (hb : n < pm_n S a) (h31 : pm_n S a < 2 ^ 31) (hv : pm_k S v = 2) (hdg : decode cc pc = .ok (.aastore, 1)) (k : pm_W G l bs own cc nL ini d kc ks Q (pc + 1) L rest (pm_sz S a n (some v))) : pm_W G l bs own cc nL ini d kc ks Q pc L (.ref v :: .int i :: .ref a :: rest) S := by
  intro p e R s m args below meth c9 Z hX hE H locs cells slots ls hR hS hL hc9 hs9
  obtain ⟨h1, h2⟩ := pm_ai hi hb h31
  have h0 : ¬ i < 0 := fun q => h1 (Or.inl q)
  obtain ⟨r', hr', cellV, g1, g2, g3, -⟩ := hR.ob (c := 1) (by decide) hv
  have hcls := (hX.2.2.2.2.2.1.1.1 1 _ rfl).2
  obtain ⟨kA, comp, k1, k2, k3, -⟩ := (hX.2.2.2.2.2.1.1.2 3 _ rfl).2
  have hcomp : comp = G.1.1 1 := Option.some.inj (k3.symm.trans hcls.1)
  subst hcomp
  obtain ⟨kC, hkC, -⟩ := hcls.2
  refine W.aast hX.1 hX.2.1 (pm_at12 hR hk) (fun q h => by cases h) (fun h => by cases h) k1 k2 rfl hkC ⟨h0, by rw [arrV_size, h2]; exact hb⟩ g1 (fun q h => by rw [g3] at h; cases h) (by rw [g2]; exact hkC) (by rw [g2]; exact va_assign hcls) rfl rfl hdg fun H1 e1 e2 e3 => ?_
  refine k p e R s m args below meth c9 Z hX hE H1 _ cells slots ls (hR.put (pm_off_sz S a n (some v)) rfl e2 e3 (fun _ => pm_to12 hk ?_)) (pm_S.put hS e2 e3 (hR a (by omega)).1) hL hc9 hs9
  rw [e1, arrV_store]
  show some (arrV _ (pm_n S a) _) = some (arrV _ (pm_n S a) _)
  congr 2
  funext q
  simp only [updV, pm_z_sz, h2]
  by_cases hq : q = n <;> simp [hq, va_rf]
theorem pm_aastorePN {a n : Nat} {i : Int32} (hk : pm_k S a = 12) (hi : i = nI n) (hb : n < pm_n S a) (h31 : pm_n S a < 2 ^ 31) (hdg : decode cc pc = .ok (.aastore, 1)) (k : pm_W G l bs own cc nL ini d kc ks Q (pc + 1) L rest (pm_sz S a n none)) : pm_W G l bs own cc nL ini d kc ks Q pc L (.null :: .int i :: .ref a :: rest) S := by
  intro p e R s m args below meth c9 Z hX hE H locs cells slots ls hR hS hL hc9 hs9
  obtain ⟨h1, h2⟩ := pm_ai hi hb h31
  refine va_WaastN (C := "ProcessMill$Proc") hX.1 hX.2.1 (pm_at12 hR hk) ((hX.2.2.2.2.2.1.1.2 3 _ rfl).1 _ _) (fun h => by cases h) (by rw [arrV_size]; exact h1) rfl rfl hdg fun H1 e1 e2 e3 => ?_
  refine k p e R s m args below meth c9 Z hX hE H1 _ cells slots ls (hR.put (pm_off_sz S a n none) rfl e2 e3 (fun _ => pm_to12 hk ?_)) (pm_S.put hS e2 e3 (hR a (by omega)).1) hL hc9 hs9
  rw [e1, arrV_store]
  show some (arrV _ (pm_n S a) _) = some (arrV _ (pm_n S a) _)
  congr 2
  funext q
  simp only [updV, pm_z_sz, h2]
  by_cases hq : q = n <;> simp [hq, va_rf]
theorem pm_aastoreT {a n v : Nat} {i : Int32} (hk : pm_k S a = 13) (hi : i = nI n) (hb : n < pm_n S a) (h31 : pm_n S a < 2 ^ 31) (hv : pm_k S v = 4) (hdg : decode cc pc = .ok (.aastore, 1)) (k : pm_W G l bs own cc nL ini d kc ks Q (pc + 1) L rest (pm_sz S a n (some v))) : pm_W G l bs own cc nL ini d kc ks Q pc L (.ref v :: .int i :: .ref a :: rest) S := by
  intro p e R s m args below meth c9 Z hX hE H locs cells slots ls hR hS hL hc9 hs9
  obtain ⟨h1, h2⟩ := pm_ai hi hb h31
  have h0 : ¬ i < 0 := fun q => h1 (Or.inl q)
  obtain ⟨r', hr', cellV, g1, g2, g3, -⟩ := hR.ob (c := 3) (by decide) hv
  have hcls := (hX.2.2.2.2.2.1.1.1 3 _ rfl).2
  obtain ⟨kA, comp, k1, k2, k3, -⟩ := (hX.2.2.2.2.2.1.1.2 4 _ rfl).2
  have hcomp : comp = G.1.1 3 := Option.some.inj (k3.symm.trans hcls.1)
  subst hcomp
  obtain ⟨kC, hkC, -⟩ := hcls.2
  refine W.aast hX.1 hX.2.1 (pm_at13 hR hk) (fun q h => by cases h) (fun h => by cases h) k1 k2 rfl hkC ⟨h0, by rw [arrV_size, h2]; exact hb⟩ g1 (fun q h => by rw [g3] at h; cases h) (by rw [g2]; exact hkC) (by rw [g2]; exact va_assign hcls) rfl rfl hdg fun H1 e1 e2 e3 => ?_
  refine k p e R s m args below meth c9 Z hX hE H1 _ cells slots ls (hR.put (pm_off_sz S a n (some v)) rfl e2 e3 (fun _ => pm_to13 hk ?_)) (pm_S.put hS e2 e3 (hR a (by omega)).1) hL hc9 hs9
  rw [e1, arrV_store]
  show some (arrV _ (pm_n S a) _) = some (arrV _ (pm_n S a) _)
  congr 2
  funext q
  simp only [updV, pm_z_sz, h2]
  by_cases hq : q = n <;> simp [hq, va_rf]
theorem pm_aastoreTN {a n : Nat} {i : Int32} (hk : pm_k S a = 13) (hi : i = nI n) (hb : n < pm_n S a) (h31 : pm_n S a < 2 ^ 31) (hdg : decode cc pc = .ok (.aastore, 1)) (k : pm_W G l bs own cc nL ini d kc ks Q (pc + 1) L rest (pm_sz S a n none)) : pm_W G l bs own cc nL ini d kc ks Q pc L (.null :: .int i :: .ref a :: rest) S := by
  intro p e R s m args below meth c9 Z hX hE H locs cells slots ls hR hS hL hc9 hs9
  obtain ⟨h1, h2⟩ := pm_ai hi hb h31
  refine va_WaastN (C := "ProcessMill$Term") hX.1 hX.2.1 (pm_at13 hR hk) ((hX.2.2.2.2.2.1.1.2 4 _ rfl).1 _ _) (fun h => by cases h) (by rw [arrV_size]; exact h1) rfl rfl hdg fun H1 e1 e2 e3 => ?_
  refine k p e R s m args below meth c9 Z hX hE H1 _ cells slots ls (hR.put (pm_off_sz S a n none) rfl e2 e3 (fun _ => pm_to13 hk ?_)) (pm_S.put hS e2 e3 (hR a (by omega)).1) hL hc9 hs9
  rw [e1, arrV_store]
  show some (arrV _ (pm_n S a) _) = some (arrV _ (pm_n S a) _)
  congr 2
  funext q
  simp only [updV, pm_z_sz, h2]
  by_cases hq : q = n <;> simp [hq, va_rf]
theorem pm_new {c index kc' ks' : Nat} {r : vw_C} (hr : vwCl[c]? = some r) (hw1 : Cond.classLink own index r.1 ∈ pm_ws) (hw2 : Cond.instantiable r.1 r.2.2 ∈ pm_ws) (hw3 : Cond.initialized r.1 ∈ pm_ws) (hkc : kc' + 1 ≤ kc) (hks : ks' + r.2.2 ≤ ks) (hdf : ∀ (S : pm_S) (a j : Nat), pm_k S a = 0 → j < r.2.2 → ∀ ty, pm_ty[c]? = some ty → defaultValue (ty j) = pm_fv (pm_nw S a (c + 1) 0) c a j) (hdg : decode cc pc = .ok (.new index, 3)) (k : ∀ a : Nat, pm_k S a = 0 → bs ≤ a → pm_W G l bs own cc nL ini d kc' ks' Q (pc + 3) L (.ref a :: rest) (pm_nw S a (c + 1) 0)) : pm_W G l bs own cc nL ini d kc ks Q pc L rest S := by
  intro p e R s m args below meth c9 Z hX hE H locs cells slots ls hR hS hL hc9 hs9
  obtain ⟨hin, ⟨ty, hty0, hty⟩, hnm, hc⟩ := pm_cl hr
  have hKn := hX.2.2.2.2.2.1.1.1 c _ hr
  have hf := pm_fresh hR
  have hb : bs ≤ H.size := Nat.le_trans hX.2.2.2.2.2.2.1 hS.1
  refine W.newcK hX.1 hX.2.1 hX.2.2.2.1 (hX.2.2.2.2.1 _ hw1) (hX.2.2.2.2.1 _ hw2) (hX.2.2.2.2.1 _ hw3) rfl hdg (by omega) (by omega) hKn.2.1 rfl fun H1 kC hkC e1 z1 o1 => ?_
  refine k H.size hf hb p e R s m args below meth c9 Z hX hE H1 locs (cells + 1) (slots + r.2.2) ls (hR.new hb z1 o1 (pm_at_ob hc (by rw [pm_k_nw, if_pos rfl]) ⟨_, hr, ?_⟩)) (pm_S.new hS z1 o1) hL (by omega) (by omega)
  exact (u_born ty hX.2.2.2.2.1 hin hKn hkC e1 hty).to (fun j hj => hdf S H.size j hf hj ty hty0)
theorem pm_newarrI {n : Int32} {N kc' ks' : Nat} (hn : n = nI N) (hN : N ≤ 1000000) (hw : Cond.arrayClass .int ∈ pm_ws) (hkc : kc' + 1 ≤ kc) (hks : ks' + N ≤ ks) (hdg : decode cc pc = .ok (.newarray .int, 2)) (k : ∀ a : Nat, pm_k S a = 0 → bs ≤ a → pm_W G l bs own cc nL ini d kc' ks' Q (pc + 2) L (.ref a :: rest) (pm_nw S a 9 N)) : pm_W G l bs own cc nL ini d kc ks Q pc L (.int n :: rest) S := by
  intro p e R s m args below meth c9 Z hX hE H locs cells slots ls hR hS hL hc9 hs9
  have hf := pm_fresh hR
  have hb : bs ≤ H.size := Nat.le_trans hX.2.2.2.2.2.2.1 hS.1
  subst hn
  refine va_newaK (atype := .int) (N := N) hX.1 hX.2.1 (hX.2.2.2.2.1 _ hw) rfl hdg rfl (nI_pos (by omega)) (nI_clamp (by omega)) (by show N * 4 ≤ _; omega) (by omega) (by omega) rfl fun H1 cA e1 z1 o1 hAr hNm => ?_
  have hcA : cA = G.2 0 := by
    have h9 : s.vm.findClass ("[" ++ (FieldType.int).toString) = some (G.2 0) := (hX.2.2.2.2.2.1.1.2 0 _ rfl).2
    exact Option.some.inj (hNm.symm.trans h9)
  subst hcA
  refine k H.size hf hb p e R s m args below meth c9 Z hX hE H1 locs (cells + 1) (slots + N) ls (hR.new hb z1 o1 (pm_to9 (by rw [pm_k_nw, if_pos rfl]) ?_)) (pm_S.new hS z1 o1) hL (by omega) (by omega)
  rw [e1, pm_n_nw, if_pos rfl]
  simp only [pm_x_nw, if_true]
  rfl
theorem pm_newarrZ {n : Int32} {N kc' ks' : Nat} (hn : n = nI N) (hN : N ≤ 1000000) (hw : Cond.arrayClass .boolean ∈ pm_ws) (hkc : kc' + 1 ≤ kc) (hks : ks' + N ≤ ks) (hdg : decode cc pc = .ok (.newarray .boolean, 2)) (k : ∀ a : Nat, pm_k S a = 0 → bs ≤ a → pm_W G l bs own cc nL ini d kc' ks' Q (pc + 2) L (.ref a :: rest) (pm_nw S a 10 N)) : pm_W G l bs own cc nL ini d kc ks Q pc L (.int n :: rest) S := by
  intro p e R s m args below meth c9 Z hX hE H locs cells slots ls hR hS hL hc9 hs9
  have hf := pm_fresh hR
  have hb : bs ≤ H.size := Nat.le_trans hX.2.2.2.2.2.2.1 hS.1
  subst hn
  refine va_newaK (atype := .boolean) (N := N) hX.1 hX.2.1 (hX.2.2.2.2.1 _ hw) rfl hdg rfl (nI_pos (by omega)) (nI_clamp (by omega)) (by show N * 1 ≤ _; omega) (by omega) (by omega) rfl fun H1 cA e1 z1 o1 hAr hNm => ?_
  have hcA : cA = G.2 1 := by
    have h9 : s.vm.findClass ("[" ++ (FieldType.boolean).toString) = some (G.2 1) := (hX.2.2.2.2.2.1.1.2 1 _ rfl).2
    exact Option.some.inj (hNm.symm.trans h9)
  subst hcA
  refine k H.size hf hb p e R s m args below meth c9 Z hX hE H1 locs (cells + 1) (slots + N) ls (hR.new hb z1 o1 (pm_to10 (by rw [pm_k_nw, if_pos rfl]) ?_)) (pm_S.new hS z1 o1) hL (by omega) (by omega)
  rw [e1, pm_n_nw, if_pos rfl]
  simp only [pm_x_nw, if_true]
  rfl
theorem pm_newarrJ {n : Int32} {N kc' ks' : Nat} (hn : n = nI N) (hN : N ≤ 1000000) (hw : Cond.arrayClass .long ∈ pm_ws) (hkc : kc' + 1 ≤ kc) (hks : ks' + N ≤ ks) (hdg : decode cc pc = .ok (.newarray .long, 2)) (k : ∀ a : Nat, pm_k S a = 0 → bs ≤ a → pm_W G l bs own cc nL ini d kc' ks' Q (pc + 2) L (.ref a :: rest) (pm_nw S a 11 N)) : pm_W G l bs own cc nL ini d kc ks Q pc L (.int n :: rest) S := by
  intro p e R s m args below meth c9 Z hX hE H locs cells slots ls hR hS hL hc9 hs9
  have hf := pm_fresh hR
  have hb : bs ≤ H.size := Nat.le_trans hX.2.2.2.2.2.2.1 hS.1
  subst hn
  refine va_newaK (atype := .long) (N := N) hX.1 hX.2.1 (hX.2.2.2.2.1 _ hw) rfl hdg rfl (nI_pos (by omega)) (nI_clamp (by omega)) (by show N * 8 ≤ _; omega) (by omega) (by omega) rfl fun H1 cA e1 z1 o1 hAr hNm => ?_
  have hcA : cA = G.2 2 := by
    have h9 : s.vm.findClass ("[" ++ (FieldType.long).toString) = some (G.2 2) := (hX.2.2.2.2.2.1.1.2 2 _ rfl).2
    exact Option.some.inj (hNm.symm.trans h9)
  subst hcA
  refine k H.size hf hb p e R s m args below meth c9 Z hX hE H1 locs (cells + 1) (slots + N) ls (hR.new hb z1 o1 (pm_to11 (by rw [pm_k_nw, if_pos rfl]) ?_)) (pm_S.new hS z1 o1) hL (by omega) (by omega)
  rw [e1, pm_n_nw, if_pos rfl]
  simp only [pm_y_nw, if_true]
  rfl
theorem pm_anewP {index : Nat} {n : Int32} {N kc' ks' : Nat} (hn : n = nI N) (hN : N ≤ 1000000) (hw : Cond.classLink own index "ProcessMill$Proc" ∈ pm_ws) (hkc : kc' + 1 ≤ kc) (hks : ks' + N ≤ ks) (hdg : decode cc pc = .ok (.anewarray index, 3)) (k : ∀ a : Nat, pm_k S a = 0 → bs ≤ a → pm_W G l bs own cc nL ini d kc' ks' Q (pc + 3) L (.ref a :: rest) (pm_nw S a 12 N)) : pm_W G l bs own cc nL ini d kc ks Q pc L (.int n :: rest) S := by
  intro p e R s m args below meth c9 Z hX hE H locs cells slots ls hR hS hL hc9 hs9
  have hf := pm_fresh hR
  have hb : bs ≤ H.size := Nat.le_trans hX.2.2.2.2.2.2.1 hS.1
  subst hn
  have hcl : (nI N).toNatClampNeg = N := nI_clamp (by omega)
  refine W.anew hX.1 hX.2.1 hX.2.2.2.1 (hX.2.2.2.2.1 _ hw) (va_AO.use (hX.2.2.2.2.2.1.2.2.1)) rfl hdg rfl (nI_pos (by omega)) (by rw [hcl]; omega) (by omega) (by rw [hcl]; omega) fun cA kA comp f1 f2 f3 f4 => ?_
  rw [hcl]
  obtain ⟨-, kA', comp', g1, g2, g3, g4⟩ := hX.2.2.2.2.2.1.1.2 3 _ rfl
  have hcA : cA = G.2 3 := Option.some.inj (f1.symm.trans g4)
  subst hcA
  generalize hH1 : H.push ({ cls := G.2 3, slots := Array.replicate N .null, vm := .none } : Cell) = H1
  have z1 : H1.size = H.size + 1 := by rw [← hH1, Array.size_push]
  have e1 : H1[H.size]? = some (arrV (G.2 3) N (fun _ => .null)) := by rw [← hH1, Array.getElem?_push_size, ← arrV_new]
  have o1 : ∀ q : Nat, q < H.size → H1[q]? = H[q]? := fun q hq => by rw [← hH1, Array.getElem?_push, if_neg (Nat.ne_of_lt hq)]
  refine k H.size hf hb p e R s m args below meth c9 Z hX hE H1 locs (cells + 1) (slots + N) ls (hR.new hb z1 o1 (pm_to12 (by rw [pm_k_nw, if_pos rfl]) ?_)) (pm_S.new hS z1 o1) hL (by omega) (by omega)
  rw [e1, pm_n_nw, if_pos rfl]
  simp only [pm_z_nw, if_true]
  rfl
theorem pm_anewT {index : Nat} {n : Int32} {N kc' ks' : Nat} (hn : n = nI N) (hN : N ≤ 1000000) (hw : Cond.classLink own index "ProcessMill$Term" ∈ pm_ws) (hkc : kc' + 1 ≤ kc) (hks : ks' + N ≤ ks) (hdg : decode cc pc = .ok (.anewarray index, 3)) (k : ∀ a : Nat, pm_k S a = 0 → bs ≤ a → pm_W G l bs own cc nL ini d kc' ks' Q (pc + 3) L (.ref a :: rest) (pm_nw S a 13 N)) : pm_W G l bs own cc nL ini d kc ks Q pc L (.int n :: rest) S := by
  intro p e R s m args below meth c9 Z hX hE H locs cells slots ls hR hS hL hc9 hs9
  have hf := pm_fresh hR
  have hb : bs ≤ H.size := Nat.le_trans hX.2.2.2.2.2.2.1 hS.1
  subst hn
  have hcl : (nI N).toNatClampNeg = N := nI_clamp (by omega)
  refine W.anew hX.1 hX.2.1 hX.2.2.2.1 (hX.2.2.2.2.1 _ hw) (va_AO.use (hX.2.2.2.2.2.1.2.2.2)) rfl hdg rfl (nI_pos (by omega)) (by rw [hcl]; omega) (by omega) (by rw [hcl]; omega) fun cA kA comp f1 f2 f3 f4 => ?_
  rw [hcl]
  obtain ⟨-, kA', comp', g1, g2, g3, g4⟩ := hX.2.2.2.2.2.1.1.2 4 _ rfl
  have hcA : cA = G.2 4 := Option.some.inj (f1.symm.trans g4)
  subst hcA
  generalize hH1 : H.push ({ cls := G.2 4, slots := Array.replicate N .null, vm := .none } : Cell) = H1
  have z1 : H1.size = H.size + 1 := by rw [← hH1, Array.size_push]
  have e1 : H1[H.size]? = some (arrV (G.2 4) N (fun _ => .null)) := by rw [← hH1, Array.getElem?_push_size, ← arrV_new]
  have o1 : ∀ q : Nat, q < H.size → H1[q]? = H[q]? := fun q hq => by rw [← hH1, Array.getElem?_push, if_neg (Nat.ne_of_lt hq)]
  refine k H.size hf hb p e R s m args below meth c9 Z hX hE H1 locs (cells + 1) (slots + N) ls (hR.new hb z1 o1 (pm_to13 (by rw [pm_k_nw, if_pos rfl]) ?_)) (pm_S.new hS z1 o1) hL (by omega) (by omega)
  rw [e1, pm_n_nw, if_pos rfl]
  simp only [pm_z_nw, if_true]
  rfl
theorem pm_ifnull_r {a : Nat} {off : Int} (hdg : decode cc pc = .ok (.ifnull off, 3)) (k : pm_W G l bs own cc nL ini d kc ks Q (pc + 3) L rest S) : pm_W G l bs own cc nL ini d kc ks Q pc L (.ref a :: rest) S := by
  intro p e R s m args below meth c9 Z hX hE H locs cells slots ls hR hS hL hc9 hs9
  exact lv_ifnull hX.1 hX.2.1 hdg (k p e R s m args below meth c9 Z hX hE H locs cells slots ls hR hS hL hc9 hs9)
theorem pm_ifnull_n {off : Int} {tgt : Nat} (hdg : decode cc pc = .ok (.ifnull off, 3)) (ht : (pc : Int) + off = (tgt : Int)) (k : pm_W G l bs own cc nL ini d kc ks Q tgt L rest S) : pm_W G l bs own cc nL ini d kc ks Q pc L (.null :: rest) S := by
  intro p e R s m args below meth c9 Z hX hE H locs cells slots ls hR hS hL hc9 hs9
  exact lv_ifnullN hX.1 hX.2.1 hdg ht (k p e R s m args below meth c9 Z hX hE H locs cells slots ls hR hS hL hc9 hs9)
theorem pm_ifnonnull_r {a : Nat} {off : Int} {tgt : Nat} (hdg : decode cc pc = .ok (.ifnonnull off, 3)) (ht : (pc : Int) + off = (tgt : Int)) (k : pm_W G l bs own cc nL ini d kc ks Q tgt L rest S) : pm_W G l bs own cc nL ini d kc ks Q pc L (.ref a :: rest) S := by
  intro p e R s m args below meth c9 Z hX hE H locs cells slots ls hR hS hL hc9 hs9
  exact lv_ifnonnull hX.1 hX.2.1 hdg ht (k p e R s m args below meth c9 Z hX hE H locs cells slots ls hR hS hL hc9 hs9)
theorem pm_ifnonnull_n {off : Int} (hdg : decode cc pc = .ok (.ifnonnull off, 3)) (k : pm_W G l bs own cc nL ini d kc ks Q (pc + 3) L rest S) : pm_W G l bs own cc nL ini d kc ks Q pc L (.null :: rest) S := by
  intro p e R s m args below meth c9 Z hX hE H locs cells slots ls hR hS hL hc9 hs9
  exact lv_ifnonnullN hX.1 hX.2.1 hdg (k p e R s m args below meth c9 Z hX hE H locs cells slots ls hR hS hL hc9 hs9)
theorem pm_acmp_eq {x y : Nat} {off : Int} {tgt : Nat} (hdg : decode cc pc = .ok (.if_acmp .eq off, 3)) (ht : (pc : Int) + off = (tgt : Int)) (kt : x = y → pm_W G l bs own cc nL ini d kc ks Q tgt L rest S) (kf : ¬ x = y → pm_W G l bs own cc nL ini d kc ks Q (pc + 3) L rest S) : pm_W G l bs own cc nL ini d kc ks Q pc L (.ref y :: .ref x :: rest) S := by
  intro p e R s m args below meth c9 Z hX hE H locs cells slots ls hR hS hL hc9 hs9
  exact lv_acmp_eq (rx := some x) (ry := some y) hX.1 hX.2.1 hdg ht (fun q => kt (Option.some.inj q) p e R s m args below meth c9 Z hX hE H locs cells slots ls hR hS hL hc9 hs9) (fun q => kf (fun z => q (by rw [z])) p e R s m args below meth c9 Z hX hE H locs cells slots ls hR hS hL hc9 hs9)
theorem pm_tableIn {dflt lo hi : Int} {offs : Array Int} {len : Nat} {x : Int32} {off : Int} {tgt : Nat} (hdg : decode cc pc = .ok (.tableswitch dflt lo hi offs, len)) (h1 : ¬ x.toInt < lo) (h2 : ¬ hi < x.toInt) (ho : offs[(x.toInt - lo).toNat]? = some off) (ht : (pc : Int) + off = (tgt : Int)) (k : pm_W G l bs own cc nL ini d kc ks Q tgt L rest S) : pm_W G l bs own cc nL ini d kc ks Q pc L (.int x :: rest) S := by
  intro p e R s m args below meth c9 Z hX hE H locs cells slots ls hR hS hL hc9 hs9
  exact lv_tableIn hX.1 hX.2.1 hdg h1 h2 ho ht (k p e R s m args below meth c9 Z hX hE H locs cells slots ls hR hS hL hc9 hs9)
theorem pm_tableOut {dflt lo hi : Int} {offs : Array Int} {len : Nat} {x : Int32} {tgt : Nat} (hdg : decode cc pc = .ok (.tableswitch dflt lo hi offs, len)) (h : x.toInt < lo ∨ hi < x.toInt) (ht : (pc : Int) + dflt = (tgt : Int)) (k : pm_W G l bs own cc nL ini d kc ks Q tgt L rest S) : pm_W G l bs own cc nL ini d kc ks Q pc L (.int x :: rest) S := by
  intro p e R s m args below meth c9 Z hX hE H locs cells slots ls hR hS hL hc9 hs9
  exact lv_tableOut hX.1 hX.2.1 hdg h ht (k p e R s m args below meth c9 Z hX hE H locs cells slots ls hR hS hL hc9 hs9)
end PMH
end
section
/-! contracts over the small memory, and calls -/
/-- the words of a method's contract -/
def pm_wy (y : MethodName) (bytes : ByteArray) (maxL : Nat) (ret : Option FieldType) : List Cond := .code y bytes maxL ret :: pm_ws
def pm_rm (d kc ks : Nat) : Room := { frames := d, cells := kc, slots := ks, locals := 32 * d + 40 }
def pm_Pc (G : pm_G) (bs : Nat) (av : List Value) (S : pm_S) : Array Value → State → Prop := va_Pc av (fun U => bs ≤ U.heap.size ∧ pm_R G bs S U.heap ∧ pm_K G U)
def pm_Qc (G : pm_G) (bs : Nat) (Q : Option Value → pm_S → Prop) : Array Value → State → Outcome → State → Prop := fun _ st o t => (∃ (v : Option Value) (S' : pm_S), o = .returned v ∧ Q v S' ∧ pm_R G bs S' t.heap) ∧ va_F (fun q => bs ≤ q) st t
/-- method y, called with av on the memory S, with d frames of room and at most kc cells of ks slots, returns as Q says -/
def pm_M (G : pm_G) (l : Launch) (bs : Nat) (y : MethodName) (bytes : ByteArray) (maxL : Nat) (ret : Option FieldType) (d kc ks : Nat) (av : List Value) (S : pm_S) (Q : Option Value → pm_S → Prop) : Prop :=
  Met l y (pm_wy y bytes maxL ret) (pm_rm d kc ks) (pm_Pc G bs av S) (pm_Qc G bs Q) kc ks (fun q => bs ≤ q)
def pm_qv (post : pm_S → Prop) : Option Value → pm_S → Prop := fun v S => v = none ∧ post S
def pm_qi (post : Int32 → pm_S → Prop) : Option Value → pm_S → Prop := fun v S => ∃ x, v = some (.int x) ∧ post x S
def pm_qr (post : Option Nat → pm_S → Prop) : Option Value → pm_S → Prop := fun v S => ∃ r, v = some (va_rf r) ∧ post r S
def pm_xv (post : pm_S → Prop) : Instr → List Value → pm_S → Prop := fun i st S => i = .return_ ∧ st = [] ∧ post S
def pm_xi (post : Int32 → pm_S → Prop) : Instr → List Value → pm_S → Prop := fun i st S => i = .ireturn ∧ ∃ x, st = [.int x] ∧ post x S
def pm_xz (post : Int32 → pm_S → Prop) : Instr → List Value → pm_S → Prop := fun i st S => i = .ireturn ∧ ∃ x, st = [.int x] ∧ (x = 0 ∨ x = 1) ∧ post x S
def pm_xr (post : Option Nat → pm_S → Prop) : Instr → List Value → pm_S → Prop := fun i st S => i = .areturn ∧ ∃ r, st = [va_rf r] ∧ post r S
/-- the locals with which a method begins -/
def pm_en : List Value → List Value → Prop
  | [], L => L = List.replicate L.length pm_u
  | v :: av, w :: L => v = w ∧ ((v.category = 1 ∧ pm_en av L) ∨ (v.category = 2 ∧ ∃ L', L = pm_u :: L' ∧ pm_en av L'))
  | _ :: _, [] => False
theorem pm_en_0 {L : List Value} (h : L = List.replicate L.length pm_u) : pm_en [] L := h
theorem pm_en_1 {v : Value} {av L : List Value} (hc : v.category = 1) (h : pm_en av L) : pm_en (v :: av) (v :: L) := ⟨rfl, Or.inl ⟨hc, h⟩⟩
theorem pm_en_2 {v : Value} {av L : List Value} (hc : v.category = 2) (h : pm_en av L) : pm_en (v :: av) (v :: pm_u :: L) := ⟨rfl, Or.inr ⟨hc, L, rfl, h⟩⟩
theorem pm_en_mem : ∀ (av L : List Value), pm_en av L → ∀ (k i : Nat) (v : Value), L[i]? = some v → v ≠ pm_u → (k + i, v) ∈ lv_args k av
  | [], L, h, k, i, v, hi, hv => by
    have h' : L = List.replicate L.length pm_u := h
    rw [h'] at hi
    exact absurd (List.eq_of_mem_replicate (List.mem_of_getElem? hi)) hv
  | a :: av, [], h, k, i, v, hi, hv => h.elim
  | a :: av, w :: L, h, k, i, v, hi, hv => by
    obtain ⟨e, h⟩ := h
    subst e
    unfold lv_args
    cases i with
    | zero =>
      have e : a = v := Option.some.inj hi
      subst e
      exact List.mem_cons_self
    | succ i =>
      rw [List.getElem?_cons_succ] at hi
      refine List.mem_cons_of_mem _ ?_
      rcases h with ⟨hc, h⟩ | ⟨hc, L', e, h⟩
      · rw [if_neg (by omega)]
        have := pm_en_mem av L h (k + 1) i v hi hv
        rwa [show k + 1 + i = k + (i + 1) by omega] at this
      · subst e
        rw [if_pos hc]
        cases i with
        | zero => exact absurd (Option.some.inj hi).symm hv
        | succ i =>
          rw [List.getElem?_cons_succ] at hi
          have := pm_en_mem av L' h (k + 2) i v hi hv
          rwa [show k + 2 + i = k + (i + 1 + 1) by omega] at this
theorem pm_en_len : ∀ (av L : List Value), pm_en av L → (lg_sl av).length ≤ L.length
  | [], L, _ => by simp [lg_sl]
  | a :: av, [], h => h.elim
  | a :: av, w :: L, h => by
    obtain ⟨e, h⟩ := h
    subst e
    rcases h with ⟨hc, h⟩ | ⟨hc, L', e, h⟩
    · have := pm_en_len av L h
      simp only [lg_sl, List.flatMap_cons, if_neg (show ¬ a.category = 2 by omega), List.length_append, List.length_cons, List.length_nil] at this ⊢
      omega
    · subst e
      have := pm_en_len av L' h
      simp only [lg_sl, List.flatMap_cons, if_pos hc, List.length_append, List.length_cons, List.length_nil] at this ⊢
      omega
section PMM
variable {G : pm_G} {l : Launch} {bs : Nat} {y : MethodName} {bytes : ByteArray} {maxL d kc ks : Nat} {av L : List Value} {S : pm_S}
theorem pm_M.mk {ret : Option FieldType} {Q : Option Value → pm_S → Prop} {X : Instr → List Value → pm_S → Prop} {ini : Bool} (hy : plainName y.cls = true) (hini : ini = true → y.name = "<init>") (hL : L.length = maxL) (hen : pm_en av L)
    (hret : ∀ (p : Program) (e : Env) (R : Room) (s : State) (m : MethodId) (args : Array Value) (below : List Frame) (meth : Method) (c : Code) (i : Instr) (st : List Value) (S' : pm_S) (H : Heap) (locs : List Loc) (pc : Nat) (ls : Array Slot), p.tables.exec = Jvm.exec → c.code = bytes → meth.sig.returnType = ret → meth.locks = false → X i st S' → decode bytes pc = .ok (i, 1) → pm_R G bs S' H → va_S (fun q => bs ≤ q) s.heap H locs → W p l e R s m args below meth c H locs kc ks (MQ below (pm_Qc G bs Q) args s kc ks (fun q => bs ≤ q)) (F0 m pc ls st))
    (body : pm_W G l bs y.cls bytes maxL ini d kc ks X 0 L [] S) : pm_M G l bs y bytes maxL ret d kc ks av S Q := by
  refine Met.ofW (cc := bytes) (maxL := maxL) (ret := ret) hy rfl ?_
  intro p e s m args below meth c s₁ B hml hv
  obtain ⟨rfl, hbs, hR, hK⟩ := hv
  have hts := atoms_spec (ws := pm_wy y bytes maxL ret) B.pre
  have hl := lv_entry av (n := maxL) (by rw [← hL]; exact pm_en_len av L hen)
  rw [lg_entry_eq]
  refine body p e (pm_rm d kc ks) s m _ below meth c _ ⟨B.exec, B.bytes, hml, findClass_of_methodNamed B.named, fun w hw => hts w (List.mem_cons_of_mem _ hw), hK, hbs, Nat.le_refl _, Nat.le_refl _, fun h => ?_⟩ ?_ s.heap [] 0 0 _ hR va_S.rf ⟨hL, hl.1, hl.2.1, fun q hq => ?_⟩ (by rw [Nat.zero_add]; exact Nat.le_refl _) (by rw [Nat.zero_add]; exact Nat.le_refl _)
  · rw [← hini h]
    exact (name_of_methodNamed B.named B.method).1
  · intro i st S' H locs cells slots pc ls hq hdg hR' hS' h1 h2
    exact W.widen (k := kc) (n := ks) h1 h2 (hret p e _ s m _ below meth c i st S' H locs pc ls B.exec B.bytes B.returns B.notSynchronized hq hdg hR' hS')
  · obtain ⟨h1, h2⟩ := pm_lv_mem.mp hq
    have := pm_en_mem av L hen 0 q.1 q.2 h1 h2
    rw [Nat.zero_add] at this
    exact hl.2.2 _ this
theorem pm_Mv {post : pm_S → Prop} (ini : Bool) (hy : plainName y.cls = true) (hini : ini = true → y.name = "<init>") (hL : L.length = maxL) (hen : pm_en av L) (body : pm_W G l bs y.cls bytes maxL ini d kc ks (pm_xv post) 0 L [] S) : pm_M G l bs y bytes maxL none d kc ks av S (pm_qv post) := by
  refine pm_M.mk hy hini hL hen ?_ body
  intro p e R s m args below meth c i st S' H locs pc ls hx hb hr hlocks hq hdg hR hS
  obtain ⟨rfl, rfl, hp⟩ := hq
  exact W.vret hx hb hr (fun t ht hW => ⟨⟨none, S', rfl, ⟨rfl, hp⟩, by rw [ht]; exact hR⟩, hS.F ht⟩) hS.2.2 hdg
theorem pm_Mi {post : Int32 → pm_S → Prop} (hy : plainName y.cls = true) (hL : L.length = maxL) (hen : pm_en av L) (body : pm_W G l bs y.cls bytes maxL false d kc ks (pm_xi post) 0 L [] S) : pm_M G l bs y bytes maxL (some .int) d kc ks av S (pm_qi post) := by
  refine pm_M.mk hy (fun h => by cases h) hL hen ?_ body
  intro p e R s m args below meth c i st S' H locs pc ls hx hb hr hlocks hq hdg hR hS
  obtain ⟨rfl, x, rfl, hp⟩ := hq
  exact W.iret hx hb hr (fun t ht hW => ⟨⟨some (.int x), S', rfl, ⟨x, rfl, hp⟩, by rw [ht]; exact hR⟩, hS.F ht⟩) hS.2.2 hdg
theorem pm_Mz {post : Int32 → pm_S → Prop} (hy : plainName y.cls = true) (hL : L.length = maxL) (hen : pm_en av L) (body : pm_W G l bs y.cls bytes maxL false d kc ks (pm_xz post) 0 L [] S) : pm_M G l bs y bytes maxL (some .boolean) d kc ks av S (pm_qi post) := by
  refine pm_M.mk hy (fun h => by cases h) hL hen ?_ body
  intro p e R s m args below meth c i st S' H locs pc ls hx hb hr hlocks hq hdg hR hS
  obtain ⟨rfl, x, rfl, hx01, hp⟩ := hq
  exact W.zret hx hb hr (by rcases hx01 with rfl | rfl <;> rfl) (fun t ht hW => ⟨⟨some (.int x), S', rfl, ⟨x, rfl, hp⟩, by rw [ht]; exact hR⟩, hS.F ht⟩) hS.2.2 hdg
theorem pm_Mr {post : Option Nat → pm_S → Prop} {C : String} (hy : plainName y.cls = true) (hL : L.length = maxL) (hen : pm_en av L) (body : pm_W G l bs y.cls bytes maxL false d kc ks (pm_xr post) 0 L [] S) : pm_M G l bs y bytes maxL (some (.object C)) d kc ks av S (pm_qr post) := by
  refine pm_M.mk hy (fun h => by cases h) hL hen ?_ body
  intro p e R s m args below meth c i st S' H locs pc ls hx hb hr hlocks hq hdg hR hS
  obtain ⟨rfl, r, rfl, hp⟩ := hq
  exact W.aret hx hb hr (Or.inl ⟨_, rfl⟩) (pm_isr_rf r) (fun t ht hW => ⟨⟨some (va_rf r), S', rfl, ⟨r, rfl, hp⟩, by rw [ht]; exact hR⟩, hS.F ht⟩) hS.2.2 hdg
end PMM
/-- what a call needs of a method: its words, and how many arguments it takes (without the receiver) -/
def pm_yb (y : MethodName) (bytes : ByteArray) (maxL : Nat) (ret : Option FieldType) (n : Nat) : Prop :=
  Cond.code y bytes maxL ret ∈ pm_ws ∧ Cond.initialized y.cls ∈ pm_ws ∧ (y.cls ≠ "java/lang/invoke/MethodHandle" ∧ y.cls ≠ "java/lang/invoke/VarHandle") ∧ (parseMethodDescriptor y.desc).map (fun d => d.parameters.length) = some n ∧ maxL ≤ 13
theorem pm_blind {G : pm_G} {bs : Nat} {av : List Value} {S : pm_S} : FrameBlind (pm_Pc G bs av S) := fun a U g mk q => by
  obtain ⟨q0, q1, q2, q3⟩ := q
  exact ⟨q0, q1, q2, pm_K.same (s := U) (U := U.calling g mk a) rfl q3⟩
section PMC
variable {G : pm_G} {l : Launch} {bs : Nat} {own : String} {cc : ByteArray} {nL : Nat} {ini : Bool} {d kc ks : Nat} {Q : Instr → List Value → pm_S → Prop} {pc : Nat} {L rest : List Value} {S : pm_S}
variable {y : MethodName} {bytes : ByteArray} {maxL : Nat} {ret : Option FieldType} {n d' kc1 ks1 kc2 ks2 index : Nat} {Qm : Option Value → pm_S → Prop} {As : List Value} {b : Nat}
theorem pm_gw {y : MethodName} {bytes : ByteArray} {maxL : Nat} {ret : Option FieldType} (h : Cond.code y bytes maxL ret ∈ pm_ws) : GoodIn pm_ws (pm_wy y bytes maxL ret) := by
  intro w hw
  rcases List.mem_cons.mp hw with rfl | hw
  · exact ⟨h, Or.inl rfl⟩
  · exact pm_ws_good pm_ws (fun w h => h) w hw
theorem pm_len {y : MethodName} {n : Nat} (h : (parseMethodDescriptor y.desc).map (fun d => d.parameters.length) = some n) : ∀ sig, parseMethodDescriptor y.desc = some sig → n = sig.parameters.length := fun sig hs => by
  rw [hs] at h
  exact (Option.some.inj h).symm
theorem pm_after {p : Program} {e : Env} {R : Room} {s : State} {m : MethodId} {args a9 : Array Value} {below : List Frame} {meth : Method} {c : Code} {Z : State → Prop} {H : Heap} {locs : List Loc} {cells slots : Nat} {ls : Array Slot} {st0 : List Value}
    (hX : pm_X G bs own cc nL ini d p R s m args meth c) (hE : pm_E G l bs cc Q p e R s m args below meth c Z) (hS : va_S (fun q => bs ≤ q) s.heap H locs) (hL : pm_L L nL ls) (h1 : cells + kc1 + kc2 ≤ R.cells) (h2 : slots + ks1 + ks2 ≤ R.slots)
    (hr : va_Run p l e R s m args below meth c H locs cells slots kc1 ks1 (F0 m pc ls st0) rest (pm_Qc G bs Qm a9) (fun q => bs ≤ q))
    (k : ∀ (v : Option Value) (S' : pm_S), Qm v S' → pm_W G l bs own cc nL ini d kc2 ks2 Q (pc + 3) L (v.toList ++ rest) S') : W p l e R s m args below meth c H locs cells slots Z (F0 m pc ls st0) := by
  intro T hT X
  obtain ⟨v, st₀, t, T', L9, h0, X', hL9, e1, e2, ⟨⟨v', S', hv, hq, hR'⟩, hz, hk⟩, st⟩ := hr T hT X
  cases hv
  rw [h0] at hz hk
  obtain ⟨t2, a1, b1⟩ := k v S' hq p e R s m args below meth c Z hX hE T'.heap (locs ++ L9) (cells + kc1) (slots + ks1) ls (by rw [e1]; exact hR')
    ⟨Nat.le_trans hS.1 (by rw [e1]; exact hz), fun q g1 g2 => by rw [e1, hk q (Nat.lt_of_lt_of_le g1 hS.1) g2]; exact hS.2.1 q g1 g2, fun q hq => by
      rcases List.mem_append.mp hq with h | h
      · exact hS.2.2 q h
      · exact hL9 q h⟩ hL h1 h2 T' rfl X'
  exact ⟨t2, st t2 a1, b1⟩
theorem pm_callV (hM : pm_M G l bs y bytes maxL ret d' kc1 ks1 (.ref b :: As) S Qm) (hy : pm_yb y bytes maxL ret n) (hy2 : Cond.instanceMethod y ∈ pm_ws ∧ Cond.selects y.cls y y ∈ pm_ws) (hl : Cond.methodLink own index y ∈ pm_ws) {c : Nat} {r : vw_C} (hr : vwCl[c]? = some r) (hrc : r.1 = y.cls) (hb : pm_k S b = c + 1) (hn : As.length = n) (hd : d' + 1 ≤ d) (hkc : kc1 + kc2 ≤ kc) (hks : ks1 + ks2 ≤ ks) (hrs : (rest.map fun v => v.category).sum ≤ 8) (hdg : decode cc pc = .ok (.invokevirtual index, 3)) {st0 : List Value} (hst : st0 = As.reverse ++ .ref b :: rest)
    (k : ∀ (v : Option Value) (S' : pm_S), Qm v S' → pm_W G l bs own cc nL ini d kc2 ks2 Q (pc + 3) L (v.toList ++ rest) S') : pm_W G l bs own cc nL ini d kc ks Q pc L st0 S := by
  intro p e R s m args below meth c9 Z hX hE H locs cells slots ls hR hS hL hc9 hs9
  subst hst
  obtain ⟨hx, hbc, hml, hown, hts, hK, hbs, hdf, hdl, hin⟩ := id hX
  obtain ⟨-, -, -, hc8⟩ := pm_cl hr
  obtain ⟨r', h1, cell, q1, q2, q3, q4⟩ := hR.ob hc8 hb
  have e9 : r' = r := Option.some.inj (h1.symm.trans hr)
  subst e9
  obtain ⟨-, hfc, -⟩ := hK.1.1 c _ hr
  obtain ⟨w1, w2, w3, w4, w5⟩ := hy
  refine pm_after (kc1 := kc1) (ks1 := ks1) (kc2 := kc2) (ks2 := ks2) (rest := rest) hX hE hS hL (by omega) (by omega) (va_runV (As := As) (rest := rest) (n := n) (bytes := bytes) (maxL := maxL) (ret := ret) (C := y.cls) (Ts := pm_ws) ⟨hx, hbc, hml, hown, hts⟩ hM ⟨⟨rfl, rfl, by show d' + 1 ≤ _; omega, by show 8 + (maxL + 11) + (32 * d' + 40) ≤ _; omega, pay_in hts (pm_gw w1), List.mem_cons_self, hts _ w1, hts _ w2, w3, pm_len w4, hts _ hl⟩, hts _ hy2.1, hts _ hy2.2⟩ ⟨pm_blind, ⟨cell, q1, by rw [q3]; rfl, by rw [q2, ← hrc]; exact hfc⟩, fun U hU hW => ⟨rfl, by rw [hU]; exact Nat.le_trans hbs hS.1, by rw [hU]; exact hR, hK.warm hW⟩⟩ rfl hn hL.2.1 rfl (lv_room hrs) hdg ⟨by omega, by omega⟩) k
theorem pm_callS (hM : pm_M G l bs y bytes maxL ret d' kc1 ks1 As S Qm) (hy : pm_yb y bytes maxL ret n) (hy2 : Cond.static y ∈ pm_ws) (hl : Cond.methodLink own index y ∈ pm_ws) (hn : As.length = n) (hd : d' + 1 ≤ d) (hkc : kc1 + kc2 ≤ kc) (hks : ks1 + ks2 ≤ ks) (hrs : (rest.map fun v => v.category).sum ≤ 8) (hdg : decode cc pc = .ok (.invokestatic index, 3)) {st0 : List Value} (hst : st0 = As.reverse ++ rest)
    (k : ∀ (v : Option Value) (S' : pm_S), Qm v S' → pm_W G l bs own cc nL ini d kc2 ks2 Q (pc + 3) L (v.toList ++ rest) S') : pm_W G l bs own cc nL ini d kc ks Q pc L st0 S := by
  intro p e R s m args below meth c9 Z hX hE H locs cells slots ls hR hS hL hc9 hs9
  subst hst
  obtain ⟨hx, hbc, hml, hown, hts, hK, hbs, hdf, hdl, hin⟩ := id hX
  obtain ⟨w1, w2, w3, w4, w5⟩ := hy
  refine pm_after (kc1 := kc1) (ks1 := ks1) (kc2 := kc2) (ks2 := ks2) (rest := rest) hX hE hS hL (by omega) (by omega) (va_runS (As := As) (rest := rest) (n := n) (bytes := bytes) (maxL := maxL) (ret := ret) (Ts := pm_ws) ⟨hx, hbc, hml, hown, hts⟩ hM ⟨⟨rfl, rfl, by show d' + 1 ≤ _; omega, by show 8 + (maxL + 11) + (32 * d' + 40) ≤ _; omega, pay_in hts (pm_gw w1), List.mem_cons_self, hts _ w1, hts _ w2, w3, pm_len w4, hts _ hl⟩, hts _ hy2⟩ ⟨pm_blind, fun U hU hW => ⟨rfl, by rw [hU]; exact Nat.le_trans hbs hS.1, by rw [hU]; exact hR, hK.warm hW⟩⟩ rfl hn hL.2.1 rfl (lv_room hrs) hdg ⟨by omega, by omega⟩) k
theorem pm_callI (hM : pm_M G l bs y bytes maxL none d' kc1 ks1 (.ref b :: As) S Qm) (hy : pm_yb y bytes maxL none n) (hy2 : Cond.instanceMethod y ∈ pm_ws) (hyn : y.name = "<init>") (hl : Cond.methodLink own index y ∈ pm_ws ∨ ∃ host, Cond.methodLinkNest own index y host ∈ lw_tbl) (hn : As.length = n) (hd : d' + 1 ≤ d) (hkc : kc1 + kc2 ≤ kc) (hks : ks1 + ks2 ≤ ks) (hrs : (rest.map fun v => v.category).sum ≤ 8) (hdg : decode cc pc = .ok (.invokespecial index, 3)) {st0 : List Value} (hst : st0 = As.reverse ++ .ref b :: rest)
    (k : ∀ (v : Option Value) (S' : pm_S), Qm v S' → pm_W G l bs own cc nL ini d kc2 ks2 Q (pc + 3) L (v.toList ++ rest) S') : pm_W G l bs own cc nL ini d kc ks Q pc L st0 S := by
  intro p e R s m args below meth c9 Z hX hE H locs cells slots ls hR hS hL hc9 hs9
  subst hst
  obtain ⟨hx, hbc, hml, hown, hts, hK, hbs, hdf, hdl, hin⟩ := id hX
  obtain ⟨w1, w2, w3, w4, w5⟩ := hy
  rcases hl with hl | ⟨host, hl⟩
  · exact pm_after (kc1 := kc1) (ks1 := ks1) (kc2 := kc2) (ks2 := ks2) (rest := rest) hX hE hS hL (by omega) (by omega) (va_runI (As := As) (rest := rest) (n := n) (bytes := bytes) (maxL := maxL) (Ts := pm_ws) ⟨hx, hbc, hml, hown, hts⟩ hM ⟨⟨rfl, rfl, by show d' + 1 ≤ _; omega, by show 8 + (maxL + 11) + (32 * d' + 40) ≤ _; omega, pay_in hts (pm_gw w1), List.mem_cons_self, hts _ w1, hts _ w2, w3, pm_len w4, hts _ hl⟩, hyn, hts _ hy2⟩ ⟨pm_blind, fun U hU hW => ⟨rfl, by rw [hU]; exact Nat.le_trans hbs hS.1, by rw [hU]; exact hR, hK.warm hW⟩⟩ rfl hn hL.2.1 rfl (lv_room hrs) hdg ⟨by omega, by omega⟩) k
  · exact pm_after (kc1 := kc1) (ks1 := ks1) (kc2 := kc2) (ks2 := ks2) (rest := rest) hX hE hS hL (by omega) (by omega) (va_runIN (As := As) (rest := rest) (n := n) (bytes := bytes) (maxL := maxL) (host := host) (Ts := pm_ws) ⟨hx, hbc, hml, hown, hts⟩ hM ⟨⟨⟨rfl, rfl, by show d' + 1 ≤ _; omega, by show 8 + (maxL + 11) + (32 * d' + 40) ≤ _; omega, pay_in hts (pm_gw w1), List.mem_cons_self⟩, hts _ w1, hts _ w2, w3, pm_len w4, va_Nw.use rfl (hK.2.1 _ hl rfl)⟩, hyn, hts _ hy2⟩ ⟨pm_blind, fun U hU hW => ⟨rfl, by rw [hU]; exact Nat.le_trans hbs hS.1, by rw [hU]; exact hR, hK.warm hW⟩⟩ rfl hn hL.2.1 rfl (lv_room hrs) hdg ⟨by omega, by omega⟩) k
theorem pm_objInit {a : Nat} (hl : Cond.methodLink own index objectInit ∈ pm_ws) (hi : Cond.instanceMethod objectInit ∈ pm_ws) (hcd : Cond.code objectInit ⟨#[0xb1]⟩ 1 none ∈ pm_ws) (hd : 1 ≤ d) (hrs : (rest.map fun v => v.category).sum ≤ 8) (hdg : decode cc pc = .ok (.invokespecial index, 3)) (k : pm_W G l bs own cc nL ini d kc ks Q (pc + 3) L rest S) : pm_W G l bs own cc nL ini d kc ks Q pc L (.ref a :: rest) S := by
  intro p e R s m args below meth c9 Z hX hE H locs cells slots ls hR hS hL hc9 hs9
  obtain ⟨hx, hbc, hml, hown, hts, hK, hbs, hdf, hdl, hin⟩ := id hX
  exact W.objInit hx hbc hown (hts _ hl) (hts _ hi) (hts _ hcd) rfl (by rw [hml]; exact hL.2.1) rfl hdg (by omega) (by show 2 * 0 + _ + 12 ≤ _; omega) (k p e R s m args below meth c9 Z hX hE H locs cells slots ls hR hS hL hc9 hs9)
/-- System.arraycopy of ints -/
theorem pm_copy {a0 a sp dp n0 : Nat} {isp idp ino : Int32} (hk0 : pm_k S a0 = 9) (hk1 : pm_k S a = 9) (h1 : isp = nI sp) (h2 : idp = nI dp) (h3 : ino = nI n0) (h4 : sp + n0 ≤ pm_n S a0) (h5 : dp + n0 ≤ pm_n S a) (h6 : pm_n S a0 < 2 ^ 31) (h7 : pm_n S a < 2 ^ 31)
    (hl : Cond.methodLink own index arraycopyName ∈ pm_ws) (hnat : Cond.native arraycopyName ∈ pm_ws) (hstat : Cond.static arraycopyName ∈ pm_ws) (hini : Cond.initialized "java/lang/System" ∈ pm_ws) (hd : 1 ≤ d) (hrs : (rest.map fun v => v.category).sum ≤ 8) (hdg : decode cc pc = .ok (.invokestatic index, 3))
    (k : pm_W G l bs own cc nL ini d kc ks Q (pc + 3) L rest (pm_sr S a (va_cpy (pm_x S a0) (pm_x S a) sp dp n0))) : pm_W G l bs own cc nL ini d kc ks Q pc L (.int ino :: .int idp :: .ref a :: .int isp :: .ref a0 :: rest) S := by
  intro p e R s m args below meth c9 Z hX hE H locs cells slots ls hR hS hL hc9 hs9
  obtain ⟨hx, hbc, hml, hown, hts, hK, hbs, hdf, hdl, hin⟩ := id hX
  have c1 : isp.toNatClampNeg = sp := by rw [h1]; exact nI_clamp (by omega)
  have c2 : idp.toNatClampNeg = dp := by rw [h2]; exact nI_clamp (by omega)
  have c3 : ino.toNatClampNeg = n0 := by rw [h3]; exact nI_clamp (by omega)
  have t1 : isp.toInt = (sp : Int) := by rw [h1]; exact nI_toInt (by omega)
  have t2 : idp.toInt = (dp : Int) := by rw [h2]; exact nI_toInt (by omega)
  have t3 : ino.toInt = (n0 : Int) := by rw [h3]; exact nI_toInt (by omega)
  have p1 : ¬ isp < 0 := by rw [h1]; exact nI_pos (by omega)
  have p2 : ¬ idp < 0 := by rw [h2]; exact nI_pos (by omega)
  have p3 : ¬ ino < 0 := by rw [h3]; exact nI_pos (by omega)
  have hnf : nativeFrameWords "java/lang/System" "arraycopy" 5 ≤ 40 := by decide +kernel
  have hroom : 2 * 0 + (rest.map fun v => v.category).sum + (nativeFrameWords "java/lang/System" "arraycopy" 5 + 11) ≤ R.locals := by omega
  intro T hT X
  have hc0 := pm_at9 hR hk0
  have hc1 := pm_at9 hR hk1
  obtain ⟨-, k0, hk0', cm0, hkk0⟩ := (hK.1.2 0 _ rfl).1 (pm_n S a0) (fun i => .int (pm_x S a0 i))
  obtain ⟨-, k1, hk1', cm1, hkk1⟩ := (hK.1.2 0 _ rfl).1 (pm_n S a) (fun i => .int (pm_x S a i))
  obtain ⟨vm', X', step⟩ := X.arraycopy hx hown (hts _ hl) (hts _ hnat) (hts _ hstat) (hts _ hini) (src := a0) (dst := a) (srcPos := isp) (destPos := idp) (n := ino) (by rw [hT]; exact hc0) (by rw [hT]; exact hc1)
    (fun _ h => by cases h) (fun _ h => by cases h) (fun h => by cases h) (fun h => by cases h) hk0' hk1' hkk0 hkk1 (by simp [refKind]) p1 p2 p3
    (by rw [t1, t3, arrV_size]; omega) (by rw [t2, t3, arrV_size]; omega)
    (fun vm₁ _ i hi => by
      have e : (arrV (G.2 0) (pm_n S a0) (fun i => .int (pm_x S a0 i))).slots.getD (isp.toNatClampNeg + i) .null = .int (pm_x S a0 (sp + i)) := by
        rw [Array.getD_eq_getD_getElem?, c1, arrV_read _ _ (by rw [c3] at hi; omega)]
        rfl
      refine ⟨?_, ?_⟩
      · rw [e]
        rfl
      · rw [e]
        exact trivial)
    (g := F0 m pc ls (.int ino :: .int idp :: .ref a :: .int isp :: .ref a0 :: rest)) rfl (by rw [hml]; exact hL.2.1) (rest := rest) rfl (by rw [hbc]; exact hdg) (by omega) hroom
  have e1 : copied (arrV (G.2 0) (pm_n S a0) (fun i => .int (pm_x S a0 i))) (arrV (G.2 0) (pm_n S a) (fun i => .int (pm_x S a i))) isp idp ino = arrV (G.2 0) (pm_n S a) (fun i => .int (va_cpy (pm_x S a0) (pm_x S a) sp dp n0 i)) := by
    have := va_copied (fun z => Value.int z) (G.2 0) (G.2 0) (n0 := pm_n S a0) (n1 := pm_n S a) (sp := isp.toNatClampNeg) (dp := idp.toNatClampNeg) (n := ino.toNatClampNeg) (pm_x S a0) (pm_x S a) (by rw [c1, c3]; exact h4)
    rw [c1, c2, c3] at this
    unfold copied
    rw [c1, c2, c3]
    exact this
  rw [e1] at X' step
  have hlt : a < H.size := (Array.getElem?_eq_some_iff.mp hc1).1
  generalize hcell : arrV (G.2 0) (pm_n S a) (fun i => .int (va_cpy (pm_x S a0) (pm_x S a) sp dp n0 i)) = cell9 at X' step
  have hheap : ((T.setVm vm').setCell a cell9).heap = H.setIfInBounds a cell9 := by rw [← hT]; rfl
  have oq : ∀ q : Nat, q ≠ a → (H.setIfInBounds a cell9)[q]? = H[q]? := fun q hq => by simp [Array.getElem?_setIfInBounds, Ne.symm hq]
  have oa : (H.setIfInBounds a cell9)[a]? = some cell9 := by simp [Array.getElem?_setIfInBounds, hlt]
  have oz : (H.setIfInBounds a cell9).size = H.size := by simp
  obtain ⟨t, a1, b1⟩ := k p e R s m args below meth c9 Z hX hE (H.setIfInBounds a cell9) _ cells slots ls (hR.put (pm_off_sr S a _) rfl oz oq (fun _ => pm_to9 hk1 (by rw [oa, ← hcell, pm_n_sr]; congr 2; funext i; rw [pm_x_sr, if_pos rfl]))) ⟨by rw [oz]; exact hS.1, fun q g1 g2 => by
      rw [oq q (fun e => g2 (by rw [e]; exact (hR a (by omega)).1))]
      exact hS.2.1 q g1 g2, fun q hq => by
      rcases List.mem_append.mp hq with h | h
      · exact hS.2.2 q h
      · obtain ⟨z, -, hz⟩ := List.mem_map.mp h
        rw [← hz]
        exact (hR a (by omega)).1⟩ hL hc9 hs9 _ hheap X'
  exact ⟨t, step t a1, b1⟩
end PMC
end
section
theorem pm_ii_L : Cond.initialized RL ∈ pm_ws := pm_ws_of (List.mem_append_right _ (List.mem_of_getElem? (i := 0) (by decide +kernel))) rfl
theorem pm_ii_X6 : Cond.initialized RX6 ∈ pm_ws := pm_ws_of (List.mem_append_right _ (List.mem_of_getElem? (i := 1) (by decide +kernel))) rfl
theorem pm_ii_X5 : Cond.initialized RX5 ∈ pm_ws := pm_ws_of (List.mem_append_right _ (List.mem_of_getElem? (i := 2) (by decide +kernel))) rfl
theorem pm_ii_X2 : Cond.initialized RX2 ∈ pm_ws := pm_ws_of (List.mem_append_right _ (List.mem_of_getElem? (i := 3) (by decide +kernel))) rfl
theorem pm_ii_X3 : Cond.initialized RX3 ∈ pm_ws := pm_ws_of (List.mem_append_right _ (List.mem_of_getElem? (i := 4) (by decide +kernel))) rfl
theorem pm_ii_X7 : Cond.initialized RX7 ∈ pm_ws := pm_ws_of (List.mem_append_right _ (List.mem_of_getElem? (i := 5) (by decide +kernel))) rfl
theorem pm_ii_X1 : Cond.initialized RX1 ∈ pm_ws := pm_ws_of (List.mem_append_right _ (List.mem_of_getElem? (i := 11) (by decide +kernel))) rfl
theorem pm_ii_X0 : Cond.initialized RX0 ∈ pm_ws := pm_ws_of (List.mem_append_right _ (List.mem_of_getElem? (i := 12) (by decide +kernel))) rfl
theorem pm_ii_X4 : Cond.initialized RX4 ∈ pm_ws := pm_ws_of (List.mem_append_right _ (List.mem_of_getElem? (i := 13) (by decide +kernel))) rfl
theorem pm_ii_J10 : Cond.initialized RJ10 ∈ pm_ws := pm_ws_of (List.mem_append_right _ (List.mem_of_getElem? (i := 14) (by decide +kernel))) rfl
theorem pm_ii_J9 : Cond.initialized RJ9 ∈ pm_ws := pm_ws_of (List.mem_append_right _ (List.mem_of_getElem? (i := 15) (by decide +kernel))) rfl
theorem pm_ii_J13 : Cond.initialized RJ13 ∈ pm_ws := pm_ws_of (List.mem_append_right _ (List.mem_of_getElem? (i := 16) (by decide +kernel))) rfl
theorem pm_c_L_8 : Cond.classLink RL 8 RX6 ∈ pm_ws := pm_ws_of (List.mem_append_right _ (List.mem_of_getElem? (i := 17) (by decide +kernel))) rfl
theorem pm_in_X6 : Cond.instantiable RX6 16 ∈ pm_ws := pm_ws_of (List.mem_append_right _ (List.mem_of_getElem? (i := 18) (by decide +kernel))) rfl
theorem pm_m_L_45 : Cond.methodLink RL 45 yX6_init ∈ pm_ws := pm_ws_of (List.mem_append_right _ (List.mem_of_getElem? (i := 19) (by decide +kernel))) rfl
theorem pm_m_X6_1 : Cond.methodLink RX6 1 objectInit ∈ pm_ws := pm_ws_of (List.mem_append_right _ (List.mem_of_getElem? (i := 22) (by decide +kernel))) rfl
theorem pm_c_X6_13 : Cond.classLink RX6 13 RX1 ∈ pm_ws := pm_ws_of (List.mem_append_right _ (List.mem_of_getElem? (i := 25) (by decide +kernel))) rfl
theorem pm_c_X6_25 : Cond.classLink RX6 25 RX5 ∈ pm_ws := pm_ws_of (List.mem_append_right _ (List.mem_of_getElem? (i := 27) (by decide +kernel))) rfl
theorem pm_in_X5 : Cond.instantiable RX5 5 ∈ pm_ws := pm_ws_of (List.mem_append_right _ (List.mem_of_getElem? (i := 28) (by decide +kernel))) rfl
theorem pm_m_X6_27 : Cond.methodLinkNest RX6 27 yX5_init "ProcessMill" ∈ lw_tbl := List.mem_append_right _ (List.mem_of_getElem? (i := 29) (by decide +kernel))
theorem pm_m_X5_1 : Cond.methodLink RX5 1 objectInit ∈ pm_ws := pm_ws_of (List.mem_append_right _ (List.mem_of_getElem? (i := 32) (by decide +kernel))) rfl
theorem pm_f_X5_9 : pm_lk RX5 9 RX5 "numbers" "[I" := Or.inl (pm_ws_of (List.mem_append_right _ (List.mem_of_getElem? (i := 33) (by decide +kernel))) rfl)
theorem pm_f_X6_432 : pm_lk RX6 432 RX5 "numbers" "[I" := Or.inr ⟨"ProcessMill", List.mem_append_right _ (List.mem_of_getElem? (i := 34) (by decide +kernel))⟩
theorem pm_f_X5_13 : pm_lk RX5 13 RX5 "watchers" "[I" := Or.inl (pm_ws_of (List.mem_append_right _ (List.mem_of_getElem? (i := 35) (by decide +kernel))) rfl)
theorem pm_f_X6_429 : pm_lk RX6 429 RX5 "watchers" "[I" := Or.inr ⟨"ProcessMill", List.mem_append_right _ (List.mem_of_getElem? (i := 36) (by decide +kernel))⟩
theorem pm_f_X5_16 : pm_lk RX5 16 RX5 "watched" "[I" := Or.inl (pm_ws_of (List.mem_append_right _ (List.mem_of_getElem? (i := 37) (by decide +kernel))) rfl)
theorem pm_f_X6_426 : pm_lk RX6 426 RX5 "watched" "[I" := Or.inr ⟨"ProcessMill", List.mem_append_right _ (List.mem_of_getElem? (i := 38) (by decide +kernel))⟩
theorem pm_f_X5_19 : pm_lk RX5 19 RX5 "count" "I" := Or.inl (pm_ws_of (List.mem_append_right _ (List.mem_of_getElem? (i := 39) (by decide +kernel))) rfl)
theorem pm_f_X6_423 : pm_lk RX6 423 RX5 "count" "I" := Or.inr ⟨"ProcessMill", List.mem_append_right _ (List.mem_of_getElem? (i := 40) (by decide +kernel))⟩
theorem pm_f_X5_23 : pm_lk RX5 23 RX5 "made" "I" := Or.inl (pm_ws_of (List.mem_append_right _ (List.mem_of_getElem? (i := 41) (by decide +kernel))) rfl)
theorem pm_f_X6_158 : pm_lk RX6 158 RX5 "made" "I" := Or.inr ⟨"ProcessMill", List.mem_append_right _ (List.mem_of_getElem? (i := 42) (by decide +kernel))⟩
theorem pm_ac_int : Cond.arrayClass .int ∈ pm_ws := pm_ws_of (List.mem_append_right _ (List.mem_of_getElem? (i := 54) (by decide +kernel))) rfl
theorem pm_c_X6_32 : Cond.classLink RX6 32 RX2 ∈ pm_ws := pm_ws_of (List.mem_append_right _ (List.mem_of_getElem? (i := 55) (by decide +kernel))) rfl
theorem pm_in_X2 : Cond.instantiable RX2 2 ∈ pm_ws := pm_ws_of (List.mem_append_right _ (List.mem_of_getElem? (i := 56) (by decide +kernel))) rfl
theorem pm_m_X6_34 : Cond.methodLinkNest RX6 34 yX2_init "ProcessMill" ∈ lw_tbl := List.mem_append_right _ (List.mem_of_getElem? (i := 57) (by decide +kernel))
theorem pm_m_X2_3 : Cond.methodLink RX2 3 objectInit ∈ pm_ws := pm_ws_of (List.mem_append_right _ (List.mem_of_getElem? (i := 60) (by decide +kernel))) rfl
theorem pm_f_X2_11 : pm_lk RX2 11 RX2 "kept" "[I" := Or.inl (pm_ws_of (List.mem_append_right _ (List.mem_of_getElem? (i := 61) (by decide +kernel))) rfl)
theorem pm_f_X2_15 : pm_lk RX2 15 RX2 "printed" "I" := Or.inl (pm_ws_of (List.mem_append_right _ (List.mem_of_getElem? (i := 62) (by decide +kernel))) rfl)
theorem pm_f_X6_155 : pm_lk RX6 155 RX2 "printed" "I" := Or.inr ⟨"ProcessMill", List.mem_append_right _ (List.mem_of_getElem? (i := 63) (by decide +kernel))⟩
theorem pm_c_X6_39 : Cond.classLink RX6 39 RX3 ∈ pm_ws := pm_ws_of (List.mem_append_right _ (List.mem_of_getElem? (i := 69) (by decide +kernel))) rfl
theorem pm_in_X3 : Cond.instantiable RX3 2 ∈ pm_ws := pm_ws_of (List.mem_append_right _ (List.mem_of_getElem? (i := 70) (by decide +kernel))) rfl
theorem pm_m_X6_41 : Cond.methodLinkNest RX6 41 yX3_init "ProcessMill" ∈ lw_tbl := List.mem_append_right _ (List.mem_of_getElem? (i := 71) (by decide +kernel))
theorem pm_m_X3_3 : Cond.methodLink RX3 3 objectInit ∈ pm_ws := pm_ws_of (List.mem_append_right _ (List.mem_of_getElem? (i := 74) (by decide +kernel))) rfl
theorem pm_f_X3_11 : pm_lk RX3 11 RX3 "row" "[I" := Or.inl (pm_ws_of (List.mem_append_right _ (List.mem_of_getElem? (i := 75) (by decide +kernel))) rfl)
theorem pm_f_X2_24 : pm_lk RX2 24 RX3 "row" "[I" := Or.inr ⟨"ProcessMill", List.mem_append_right _ (List.mem_of_getElem? (i := 76) (by decide +kernel))⟩
theorem pm_f_X3_15 : pm_lk RX3 15 RX3 "length" "I" := Or.inl (pm_ws_of (List.mem_append_right _ (List.mem_of_getElem? (i := 77) (by decide +kernel))) rfl)
theorem pm_f_X2_19 : pm_lk RX2 19 RX3 "length" "I" := Or.inr ⟨"ProcessMill", List.mem_append_right _ (List.mem_of_getElem? (i := 78) (by decide +kernel))⟩
theorem pm_f_X6_9 : pm_lk RX6 9 RX6 "program" "[I" := Or.inl (pm_ws_of (List.mem_append_right _ (List.mem_of_getElem? (i := 84) (by decide +kernel))) rfl)
theorem pm_f_X6_15 : pm_lk RX6 15 RX6 "processes" "[LProcessMill$Proc;" := Or.inl (pm_ws_of (List.mem_append_right _ (List.mem_of_getElem? (i := 85) (by decide +kernel))) rfl)
theorem pm_f_X6_19 : pm_lk RX6 19 RX6 "named" "[LProcessMill$Proc;" := Or.inl (pm_ws_of (List.mem_append_right _ (List.mem_of_getElem? (i := 86) (by decide +kernel))) rfl)
theorem pm_f_X6_22 : pm_lk RX6 22 RX6 "dying" "[LProcessMill$Proc;" := Or.inl (pm_ws_of (List.mem_append_right _ (List.mem_of_getElem? (i := 87) (by decide +kernel))) rfl)
theorem pm_f_X6_28 : pm_lk RX6 28 RX6 "watches" "LProcessMill$Watches;" := Or.inl (pm_ws_of (List.mem_append_right _ (List.mem_of_getElem? (i := 88) (by decide +kernel))) rfl)
theorem pm_f_X6_35 : pm_lk RX6 35 RX6 "sheet" "LProcessMill$Sheet;" := Or.inl (pm_ws_of (List.mem_append_right _ (List.mem_of_getElem? (i := 89) (by decide +kernel))) rfl)
theorem pm_f_X6_42 : pm_lk RX6 42 RX6 "letter" "LProcessMill$Term;" := Or.inl (pm_ws_of (List.mem_append_right _ (List.mem_of_getElem? (i := 90) (by decide +kernel))) rfl)
theorem pm_f_X6_46 : pm_lk RX6 46 RX6 "cause" "LProcessMill$Term;" := Or.inl (pm_ws_of (List.mem_append_right _ (List.mem_of_getElem? (i := 91) (by decide +kernel))) rfl)
theorem pm_f_X6_49 : pm_lk RX6 49 RX6 "started" "I" := Or.inl (pm_ws_of (List.mem_append_right _ (List.mem_of_getElem? (i := 92) (by decide +kernel))) rfl)
theorem pm_f_X6_53 : pm_lk RX6 53 RX6 "deaths" "I" := Or.inl (pm_ws_of (List.mem_append_right _ (List.mem_of_getElem? (i := 93) (by decide +kernel))) rfl)
theorem pm_f_X6_56 : pm_lk RX6 56 RX6 "deathsSpread" "I" := Or.inl (pm_ws_of (List.mem_append_right _ (List.mem_of_getElem? (i := 94) (by decide +kernel))) rfl)
theorem pm_f_X6_59 : pm_lk RX6 59 RX6 "turns" "I" := Or.inl (pm_ws_of (List.mem_append_right _ (List.mem_of_getElem? (i := 95) (by decide +kernel))) rfl)
theorem pm_f_X6_62 : pm_lk RX6 62 RX6 "slices" "I" := Or.inl (pm_ws_of (List.mem_append_right _ (List.mem_of_getElem? (i := 96) (by decide +kernel))) rfl)
theorem pm_f_X6_65 : pm_lk RX6 65 RX6 "wordsDone" "I" := Or.inl (pm_ws_of (List.mem_append_right _ (List.mem_of_getElem? (i := 97) (by decide +kernel))) rfl)
theorem pm_f_X6_68 : pm_lk RX6 68 RX6 "time" "I" := Or.inl (pm_ws_of (List.mem_append_right _ (List.mem_of_getElem? (i := 98) (by decide +kernel))) rfl)
theorem pm_f_X6_71 : pm_lk RX6 71 RX6 "messagesCame" "I" := Or.inl (pm_ws_of (List.mem_append_right _ (List.mem_of_getElem? (i := 99) (by decide +kernel))) rfl)
theorem pm_m_L_73 : Cond.methodLink RL 73 yX6_out ∈ pm_ws := pm_ws_of (List.mem_append_right _ (List.mem_of_getElem? (i := 133) (by decide +kernel))) rfl
theorem pm_m_X6_130 : Cond.methodLink RX6 130 yX2_numberAt ∈ pm_ws := pm_ws_of (List.mem_append_right _ (List.mem_of_getElem? (i := 137) (by decide +kernel))) rfl
theorem pm_m_X2_27 : Cond.methodLink RX2 27 yJ9_min_7cf53 ∈ pm_ws := pm_ws_of (List.mem_append_right _ (List.mem_of_getElem? (i := 141) (by decide +kernel))) rfl
theorem pm_m_L_49 : Cond.methodLink RL 49 yL_word ∈ pm_ws := pm_ws_of (List.mem_append_right _ (List.mem_of_getElem? (i := 144) (by decide +kernel))) rfl
theorem pm_c_L_13 : Cond.classLink RL 13 "java/lang/IllegalArgumentException" ∈ pm_ws := pm_ws_of (List.mem_append_right _ (List.mem_of_getElem? (i := 147) (by decide +kernel))) rfl
theorem pm_m_L_7 : Cond.methodLink RL 7 yX6_word ∈ pm_ws := pm_ws_of (List.mem_append_right _ (List.mem_of_getElem? (i := 148) (by decide +kernel))) rfl
theorem pm_m_X6_74 : Cond.methodLink RX6 74 yX6_isBelow ∈ pm_ws := pm_ws_of (List.mem_append_right _ (List.mem_of_getElem? (i := 152) (by decide +kernel))) rfl
theorem pm_c_X6_78 : Cond.classLink RX6 78 "java/lang/IllegalArgumentException" ∈ pm_ws := pm_ws_of (List.mem_append_right _ (List.mem_of_getElem? (i := 155) (by decide +kernel))) rfl
theorem pm_m_L_59 : Cond.methodLink RL 59 yL_start ∈ pm_ws := pm_ws_of (List.mem_append_right _ (List.mem_of_getElem? (i := 217) (by decide +kernel))) rfl
theorem pm_c_L_19 : Cond.classLink RL 19 "java/lang/IllegalStateException" ∈ pm_ws := pm_ws_of (List.mem_append_right _ (List.mem_of_getElem? (i := 220) (by decide +kernel))) rfl
theorem pm_m_L_15 : Cond.methodLink RL 15 yX6_start ∈ pm_ws := pm_ws_of (List.mem_append_right _ (List.mem_of_getElem? (i := 221) (by decide +kernel))) rfl
theorem pm_c_X6_81 : Cond.classLink RX6 81 "java/lang/IllegalStateException" ∈ pm_ws := pm_ws_of (List.mem_append_right _ (List.mem_of_getElem? (i := 225) (by decide +kernel))) rfl
theorem pm_m_X6_84 : Cond.methodLink RX6 84 yX6_beginProcess ∈ pm_ws := pm_ws_of (List.mem_append_right _ (List.mem_of_getElem? (i := 240) (by decide +kernel))) rfl
theorem pm_in_X1 : Cond.instantiable RX1 16 ∈ pm_ws := pm_ws_of (List.mem_append_right _ (List.mem_of_getElem? (i := 244) (by decide +kernel))) rfl
theorem pm_m_X6_173 : Cond.methodLink RX6 173 yX1_init ∈ pm_ws := pm_ws_of (List.mem_append_right _ (List.mem_of_getElem? (i := 245) (by decide +kernel))) rfl
theorem pm_m_X1_3 : Cond.methodLink RX1 3 objectInit ∈ pm_ws := pm_ws_of (List.mem_append_right _ (List.mem_of_getElem? (i := 248) (by decide +kernel))) rfl
theorem pm_c_X1_9 : Cond.classLink RX1 9 RX3 ∈ pm_ws := pm_ws_of (List.mem_append_right _ (List.mem_of_getElem? (i := 249) (by decide +kernel))) rfl
theorem pm_m_X1_17 : Cond.methodLinkNest RX1 17 yX3_init "ProcessMill" ∈ lw_tbl := List.mem_append_right _ (List.mem_of_getElem? (i := 251) (by decide +kernel))
theorem pm_c_X1_22 : Cond.classLink RX1 22 RX0 ∈ pm_ws := pm_ws_of (List.mem_append_right _ (List.mem_of_getElem? (i := 252) (by decide +kernel))) rfl
theorem pm_in_X0 : Cond.instantiable RX0 3 ∈ pm_ws := pm_ws_of (List.mem_append_right _ (List.mem_of_getElem? (i := 253) (by decide +kernel))) rfl
theorem pm_m_X1_24 : Cond.methodLinkNest RX1 24 yX0_init "ProcessMill" ∈ lw_tbl := List.mem_append_right _ (List.mem_of_getElem? (i := 254) (by decide +kernel))
theorem pm_m_X0_1 : Cond.methodLink RX0 1 objectInit ∈ pm_ws := pm_ws_of (List.mem_append_right _ (List.mem_of_getElem? (i := 257) (by decide +kernel))) rfl
theorem pm_c_X0_9 : Cond.classLink RX0 9 RX3 ∈ pm_ws := pm_ws_of (List.mem_append_right _ (List.mem_of_getElem? (i := 258) (by decide +kernel))) rfl
theorem pm_f_X0_11 : pm_lk RX0 11 RX0 "rows" "[LProcessMill$Term;" := Or.inl (pm_ws_of (List.mem_append_right _ (List.mem_of_getElem? (i := 259) (by decide +kernel))) rfl)
theorem pm_f_X0_15 : pm_lk RX0 15 RX0 "count" "I" := Or.inl (pm_ws_of (List.mem_append_right _ (List.mem_of_getElem? (i := 260) (by decide +kernel))) rfl)
theorem pm_f_X1_85 : pm_lk RX1 85 RX0 "count" "I" := Or.inr ⟨"ProcessMill", List.mem_append_right _ (List.mem_of_getElem? (i := 261) (by decide +kernel))⟩
theorem pm_f_X0_19 : pm_lk RX0 19 RX0 "pointer" "I" := Or.inl (pm_ws_of (List.mem_append_right _ (List.mem_of_getElem? (i := 262) (by decide +kernel))) rfl)
theorem pm_f_X1_88 : pm_lk RX1 88 RX0 "pointer" "I" := Or.inr ⟨"ProcessMill", List.mem_append_right _ (List.mem_of_getElem? (i := 263) (by decide +kernel))⟩
theorem pm_c_X1_29 : Cond.classLink RX1 29 RX4 ∈ pm_ws := pm_ws_of (List.mem_append_right _ (List.mem_of_getElem? (i := 271) (by decide +kernel))) rfl
theorem pm_in_X4 : Cond.instantiable RX4 5 ∈ pm_ws := pm_ws_of (List.mem_append_right _ (List.mem_of_getElem? (i := 272) (by decide +kernel))) rfl
theorem pm_m_X1_31 : Cond.methodLinkNest RX1 31 yX4_init "ProcessMill" ∈ lw_tbl := List.mem_append_right _ (List.mem_of_getElem? (i := 273) (by decide +kernel))
theorem pm_m_X4_3 : Cond.methodLink RX4 3 objectInit ∈ pm_ws := pm_ws_of (List.mem_append_right _ (List.mem_of_getElem? (i := 276) (by decide +kernel))) rfl
theorem pm_f_X4_11 : pm_lk RX4 11 RX4 "backs" "[I" := Or.inl (pm_ws_of (List.mem_append_right _ (List.mem_of_getElem? (i := 277) (by decide +kernel))) rfl)
theorem pm_f_X4_15 : pm_lk RX4 15 RX4 "catches" "[I" := Or.inl (pm_ws_of (List.mem_append_right _ (List.mem_of_getElem? (i := 278) (by decide +kernel))) rfl)
theorem pm_f_X4_18 : pm_lk RX4 18 RX4 "backsAtCatch" "[I" := Or.inl (pm_ws_of (List.mem_append_right _ (List.mem_of_getElem? (i := 279) (by decide +kernel))) rfl)
theorem pm_f_X4_21 : pm_lk RX4 21 RX4 "backCount" "I" := Or.inl (pm_ws_of (List.mem_append_right _ (List.mem_of_getElem? (i := 280) (by decide +kernel))) rfl)
theorem pm_f_X1_97 : pm_lk RX1 97 RX4 "backCount" "I" := Or.inr ⟨"ProcessMill", List.mem_append_right _ (List.mem_of_getElem? (i := 281) (by decide +kernel))⟩
theorem pm_f_X4_25 : pm_lk RX4 25 RX4 "catchCount" "I" := Or.inl (pm_ws_of (List.mem_append_right _ (List.mem_of_getElem? (i := 282) (by decide +kernel))) rfl)
theorem pm_f_X1_100 : pm_lk RX1 100 RX4 "catchCount" "I" := Or.inr ⟨"ProcessMill", List.mem_append_right _ (List.mem_of_getElem? (i := 283) (by decide +kernel))⟩
theorem pm_cl_X1_49 : Cond.constantLong RX1 49 (9223372036854775807) ∈ pm_ws := pm_ws_of (List.mem_append_right _ (List.mem_of_getElem? (i := 295) (by decide +kernel))) rfl
theorem pm_f_X1_71 : pm_lk RX1 71 RX1 "pid" "I" := Or.inl (pm_ws_of (List.mem_append_right _ (List.mem_of_getElem? (i := 296) (by decide +kernel))) rfl)
theorem pm_f_X6_88 : pm_lk RX6 88 RX1 "pid" "I" := Or.inr ⟨"ProcessMill", List.mem_append_right _ (List.mem_of_getElem? (i := 297) (by decide +kernel))⟩
theorem pm_f_X1_74 : pm_lk RX1 74 RX1 "priority" "I" := Or.inl (pm_ws_of (List.mem_append_right _ (List.mem_of_getElem? (i := 298) (by decide +kernel))) rfl)
theorem pm_f_X6_342 : pm_lk RX6 342 RX1 "priority" "I" := Or.inr ⟨"ProcessMill", List.mem_append_right _ (List.mem_of_getElem? (i := 299) (by decide +kernel))⟩
theorem pm_f_X1_11 : pm_lk RX1 11 RX1 "registers" "[LProcessMill$Term;" := Or.inl (pm_ws_of (List.mem_append_right _ (List.mem_of_getElem? (i := 300) (by decide +kernel))) rfl)
theorem pm_f_X1_18 : pm_lk RX1 18 RX1 "reason" "LProcessMill$Term;" := Or.inl (pm_ws_of (List.mem_append_right _ (List.mem_of_getElem? (i := 301) (by decide +kernel))) rfl)
theorem pm_f_X6_145 : pm_lk RX6 145 RX1 "reason" "LProcessMill$Term;" := Or.inr ⟨"ProcessMill", List.mem_append_right _ (List.mem_of_getElem? (i := 302) (by decide +kernel))⟩
theorem pm_f_X1_25 : pm_lk RX1 25 RX1 "box" "LProcessMill$Mailbox;" := Or.inl (pm_ws_of (List.mem_append_right _ (List.mem_of_getElem? (i := 303) (by decide +kernel))) rfl)
theorem pm_f_X6_114 : pm_lk RX6 114 RX1 "box" "LProcessMill$Mailbox;" := Or.inr ⟨"ProcessMill", List.mem_append_right _ (List.mem_of_getElem? (i := 304) (by decide +kernel))⟩
theorem pm_f_X1_32 : pm_lk RX1 32 RX1 "trail" "LProcessMill$Trail;" := Or.inl (pm_ws_of (List.mem_append_right _ (List.mem_of_getElem? (i := 305) (by decide +kernel))) rfl)
theorem pm_f_X6_250 : pm_lk RX6 250 RX1 "trail" "LProcessMill$Trail;" := Or.inr ⟨"ProcessMill", List.mem_append_right _ (List.mem_of_getElem? (i := 306) (by decide +kernel))⟩
theorem pm_f_X1_36 : pm_lk RX1 36 RX1 "state" "I" := Or.inl (pm_ws_of (List.mem_append_right _ (List.mem_of_getElem? (i := 307) (by decide +kernel))) rfl)
theorem pm_f_X6_142 : pm_lk RX6 142 RX1 "state" "I" := Or.inr ⟨"ProcessMill", List.mem_append_right _ (List.mem_of_getElem? (i := 308) (by decide +kernel))⟩
theorem pm_f_X1_40 : pm_lk RX1 40 RX1 "at" "I" := Or.inl (pm_ws_of (List.mem_append_right _ (List.mem_of_getElem? (i := 309) (by decide +kernel))) rfl)
theorem pm_f_X6_175 : pm_lk RX6 175 RX1 "at" "I" := Or.inr ⟨"ProcessMill", List.mem_append_right _ (List.mem_of_getElem? (i := 310) (by decide +kernel))⟩
theorem pm_f_X1_43 : pm_lk RX1 43 RX1 "atIfMail" "I" := Or.inl (pm_ws_of (List.mem_append_right _ (List.mem_of_getElem? (i := 311) (by decide +kernel))) rfl)
theorem pm_f_X6_364 : pm_lk RX6 364 RX1 "atIfMail" "I" := Or.inr ⟨"ProcessMill", List.mem_append_right _ (List.mem_of_getElem? (i := 312) (by decide +kernel))⟩
theorem pm_f_X1_46 : pm_lk RX1 46 RX1 "atIfLate" "I" := Or.inl (pm_ws_of (List.mem_append_right _ (List.mem_of_getElem? (i := 313) (by decide +kernel))) rfl)
theorem pm_f_X6_123 : pm_lk RX6 123 RX1 "atIfLate" "I" := Or.inr ⟨"ProcessMill", List.mem_append_right _ (List.mem_of_getElem? (i := 314) (by decide +kernel))⟩
theorem pm_f_X1_51 : pm_lk RX1 51 RX1 "deadline" "J" := Or.inl (pm_ws_of (List.mem_append_right _ (List.mem_of_getElem? (i := 315) (by decide +kernel))) rfl)
theorem pm_f_X6_180 : pm_lk RX6 180 RX1 "deadline" "J" := Or.inr ⟨"ProcessMill", List.mem_append_right _ (List.mem_of_getElem? (i := 316) (by decide +kernel))⟩
theorem pm_f_X1_55 : pm_lk RX1 55 RX1 "turn" "I" := Or.inl (pm_ws_of (List.mem_append_right _ (List.mem_of_getElem? (i := 317) (by decide +kernel))) rfl)
theorem pm_f_X6_187 : pm_lk RX6 187 RX1 "turn" "I" := Or.inr ⟨"ProcessMill", List.mem_append_right _ (List.mem_of_getElem? (i := 318) (by decide +kernel))⟩
theorem pm_f_X1_58 : pm_lk RX1 58 RX1 "name" "I" := Or.inl (pm_ws_of (List.mem_append_right _ (List.mem_of_getElem? (i := 319) (by decide +kernel))) rfl)
theorem pm_f_X6_393 : pm_lk RX6 393 RX1 "name" "I" := Or.inr ⟨"ProcessMill", List.mem_append_right _ (List.mem_of_getElem? (i := 320) (by decide +kernel))⟩
theorem pm_f_X1_61 : pm_lk RX1 61 RX1 "traps" "Z" := Or.inl (pm_ws_of (List.mem_append_right _ (List.mem_of_getElem? (i := 321) (by decide +kernel))) rfl)
theorem pm_f_X6_389 : pm_lk RX6 389 RX1 "traps" "Z" := Or.inr ⟨"ProcessMill", List.mem_append_right _ (List.mem_of_getElem? (i := 322) (by decide +kernel))⟩
theorem pm_f_X1_65 : pm_lk RX1 65 RX1 "links" "J" := Or.inl (pm_ws_of (List.mem_append_right _ (List.mem_of_getElem? (i := 323) (by decide +kernel))) rfl)
theorem pm_f_X1_68 : pm_lk RX1 68 RX1 "wordsDone" "I" := Or.inl (pm_ws_of (List.mem_append_right _ (List.mem_of_getElem? (i := 324) (by decide +kernel))) rfl)
theorem pm_f_X6_197 : pm_lk RX6 197 RX1 "wordsDone" "I" := Or.inr ⟨"ProcessMill", List.mem_append_right _ (List.mem_of_getElem? (i := 325) (by decide +kernel))⟩
theorem pm_m_X6_126 : Cond.methodLink RX6 126 yX6_makeReady ∈ pm_ws := pm_ws_of (List.mem_append_right _ (List.mem_of_getElem? (i := 359) (by decide +kernel))) rfl
theorem pm_cl_X6_178 : Cond.constantLong RX6 178 (9223372036854775807) ∈ pm_ws := pm_ws_of (List.mem_append_right _ (List.mem_of_getElem? (i := 363) (by decide +kernel))) rfl
theorem pm_m_X6_184 : Cond.methodLink RX6 184 yX6_takeLastTurn ∈ pm_ws := pm_ws_of (List.mem_append_right _ (List.mem_of_getElem? (i := 364) (by decide +kernel))) rfl
theorem pm_m_L_63 : Cond.methodLink RL 63 yL_send ∈ pm_ws := pm_ws_of (List.mem_append_right _ (List.mem_of_getElem? (i := 368) (by decide +kernel))) rfl
theorem pm_m_L_21 : Cond.methodLink RL 21 yX6_send ∈ pm_ws := pm_ws_of (List.mem_append_right _ (List.mem_of_getElem? (i := 371) (by decide +kernel))) rfl
theorem pm_m_X6_91 : Cond.methodLink RX6 91 yX6_find ∈ pm_ws := pm_ws_of (List.mem_append_right _ (List.mem_of_getElem? (i := 375) (by decide +kernel))) rfl
theorem pm_m_X6_95 : Cond.methodLink RX6 95 yX3_setSingle ∈ pm_ws := pm_ws_of (List.mem_append_right _ (List.mem_of_getElem? (i := 379) (by decide +kernel))) rfl
theorem pm_m_X3_23 : Cond.methodLink RX3 23 yX3_addSingle ∈ pm_ws := pm_ws_of (List.mem_append_right _ (List.mem_of_getElem? (i := 383) (by decide +kernel))) rfl
theorem pm_m_X6_99 : Cond.methodLink RX6 99 yX6_deliver ∈ pm_ws := pm_ws_of (List.mem_append_right _ (List.mem_of_getElem? (i := 387) (by decide +kernel))) rfl
theorem pm_m_X6_361 : Cond.methodLink RX6 361 yX0_newRow ∈ pm_ws := pm_ws_of (List.mem_append_right _ (List.mem_of_getElem? (i := 391) (by decide +kernel))) rfl
theorem pm_m_X0_26 : Cond.methodLinkNest RX0 26 yX3_init "ProcessMill" ∈ lw_tbl := List.mem_append_right _ (List.mem_of_getElem? (i := 395) (by decide +kernel))
theorem pm_m_X6_323 : Cond.methodLink RX6 323 yX3_copy ∈ pm_ws := pm_ws_of (List.mem_append_right _ (List.mem_of_getElem? (i := 396) (by decide +kernel))) rfl
theorem pm_m_X3_27 : Cond.methodLink RX3 27 arraycopyName ∈ pm_ws := pm_ws_of (List.mem_append_right _ (List.mem_of_getElem? (i := 400) (by decide +kernel))) rfl
theorem pm_m_L_66 : Cond.methodLink RL 66 yL_run ∈ pm_ws := pm_ws_of (List.mem_append_right _ (List.mem_of_getElem? (i := 403) (by decide +kernel))) rfl
theorem pm_m_L_25 : Cond.methodLink RL 25 yX6_run ∈ pm_ws := pm_ws_of (List.mem_append_right _ (List.mem_of_getElem? (i := 406) (by decide +kernel))) rfl
theorem pm_m_X6_103 : Cond.methodLink RX6 103 yX6_nextInTurn ∈ pm_ws := pm_ws_of (List.mem_append_right _ (List.mem_of_getElem? (i := 410) (by decide +kernel))) rfl
theorem pm_m_X6_190 : Cond.methodLink RX6 190 yX1_comesBefore ∈ pm_ws := pm_ws_of (List.mem_append_right _ (List.mem_of_getElem? (i := 414) (by decide +kernel))) rfl
theorem pm_m_X6_107 : Cond.methodLink RX6 107 yX6_doSlice ∈ pm_ws := pm_ws_of (List.mem_append_right _ (List.mem_of_getElem? (i := 418) (by decide +kernel))) rfl
theorem pm_m_X6_194 : Cond.methodLink RX6 194 yX6_place ∈ pm_ws := pm_ws_of (List.mem_append_right _ (List.mem_of_getElem? (i := 422) (by decide +kernel))) rfl
theorem pm_m_X6_161 : Cond.methodLink RX6 161 yJ9_floorMod_7cf53 ∈ pm_ws := pm_ws_of (List.mem_append_right _ (List.mem_of_getElem? (i := 425) (by decide +kernel))) rfl
theorem pm_m_X6_198 : Cond.methodLink RX6 198 yX6_doWord ∈ pm_ws := pm_ws_of (List.mem_append_right _ (List.mem_of_getElem? (i := 428) (by decide +kernel))) rfl
theorem pm_m_X6_137 : Cond.methodLink RX6 137 yX1_x ∈ pm_ws := pm_ws_of (List.mem_append_right _ (List.mem_of_getElem? (i := 432) (by decide +kernel))) rfl
theorem pm_m_X1_77 : Cond.methodLink RX1 77 yJ9_floorMod_7cf53 ∈ pm_ws := pm_ws_of (List.mem_append_right _ (List.mem_of_getElem? (i := 436) (by decide +kernel))) rfl
theorem pm_m_X6_209 : Cond.methodLink RX6 209 yX6_end ∈ pm_ws := pm_ws_of (List.mem_append_right _ (List.mem_of_getElem? (i := 437) (by decide +kernel))) rfl
theorem pm_m_X6_333 : Cond.methodLink RX6 333 yX6_die ∈ pm_ws := pm_ws_of (List.mem_append_right _ (List.mem_of_getElem? (i := 441) (by decide +kernel))) rfl
theorem pm_m_X6_405 : Cond.methodLink RX6 405 yX0_clear ∈ pm_ws := pm_ws_of (List.mem_append_right _ (List.mem_of_getElem? (i := 445) (by decide +kernel))) rfl
theorem pm_m_X6_408 : Cond.methodLink RX6 408 yX4_clear ∈ pm_ws := pm_ws_of (List.mem_append_right _ (List.mem_of_getElem? (i := 449) (by decide +kernel))) rfl
theorem pm_m_X6_409 : Cond.methodLink RX6 409 yX5_dropMadeBy ∈ pm_ws := pm_ws_of (List.mem_append_right _ (List.mem_of_getElem? (i := 453) (by decide +kernel))) rfl
theorem pm_m_X5_30 : Cond.methodLink RX5 30 yX5_dropWhere ∈ pm_ws := pm_ws_of (List.mem_append_right _ (List.mem_of_getElem? (i := 457) (by decide +kernel))) rfl
theorem pm_m_X6_213 : Cond.methodLink RX6 213 yX6_give ∈ pm_ws := pm_ws_of (List.mem_append_right _ (List.mem_of_getElem? (i := 461) (by decide +kernel))) rfl
theorem pm_m_X6_217 : Cond.methodLink RX6 217 yX6_giveCopy ∈ pm_ws := pm_ws_of (List.mem_append_right _ (List.mem_of_getElem? (i := 464) (by decide +kernel))) rfl
theorem pm_m_X6_221 : Cond.methodLink RX6 221 yX6_areNumbers ∈ pm_ws := pm_ws_of (List.mem_append_right _ (List.mem_of_getElem? (i := 467) (by decide +kernel))) rfl
theorem pm_m_X6_167 : Cond.methodLink RX6 167 yX3_kind ∈ pm_ws := pm_ws_of (List.mem_append_right _ (List.mem_of_getElem? (i := 470) (by decide +kernel))) rfl
theorem pm_m_X3_19 : Cond.methodLink RX3 19 yX3_kindOf ∈ pm_ws := pm_ws_of (List.mem_append_right _ (List.mem_of_getElem? (i := 474) (by decide +kernel))) rfl
theorem pm_m_X6_170 : Cond.methodLink RX6 170 yX3_value ∈ pm_ws := pm_ws_of (List.mem_append_right _ (List.mem_of_getElem? (i := 477) (by decide +kernel))) rfl
theorem pm_m_X6_225 : Cond.methodLink RX6 225 yX3_setPair ∈ pm_ws := pm_ws_of (List.mem_append_right _ (List.mem_of_getElem? (i := 481) (by decide +kernel))) rfl
theorem pm_m_X6_228 : Cond.methodLink RX6 228 yX3_setFirst ∈ pm_ws := pm_ws_of (List.mem_append_right _ (List.mem_of_getElem? (i := 485) (by decide +kernel))) rfl
theorem pm_m_X3_33 : Cond.methodLink RX3 33 yX3_kind ∈ pm_ws := pm_ws_of (List.mem_append_right _ (List.mem_of_getElem? (i := 489) (by decide +kernel))) rfl
theorem pm_m_X3_37 : Cond.methodLink RX3 37 yX3_endOfFirst ∈ pm_ws := pm_ws_of (List.mem_append_right _ (List.mem_of_getElem? (i := 490) (by decide +kernel))) rfl
theorem pm_m_X3_40 : Cond.methodLink RX3 40 yX3_setPart ∈ pm_ws := pm_ws_of (List.mem_append_right _ (List.mem_of_getElem? (i := 494) (by decide +kernel))) rfl
theorem pm_m_X6_232 : Cond.methodLink RX6 232 yX3_setSecond ∈ pm_ws := pm_ws_of (List.mem_append_right _ (List.mem_of_getElem? (i := 498) (by decide +kernel))) rfl
theorem pm_m_X6_235 : Cond.methodLink RX6 235 yX6_goOn ∈ pm_ws := pm_ws_of (List.mem_append_right _ (List.mem_of_getElem? (i := 502) (by decide +kernel))) rfl
theorem pm_m_X6_239 : Cond.methodLink RX6 239 yX3_compareWith ∈ pm_ws := pm_ws_of (List.mem_append_right _ (List.mem_of_getElem? (i := 505) (by decide +kernel))) rfl
theorem pm_m_X3_44 : Cond.methodLink RX3 44 yJ9_min_7cf53 ∈ pm_ws := pm_ws_of (List.mem_append_right _ (List.mem_of_getElem? (i := 509) (by decide +kernel))) rfl
theorem pm_m_X6_243 : Cond.methodLink RX6 243 yX6_callWord ∈ pm_ws := pm_ws_of (List.mem_append_right _ (List.mem_of_getElem? (i := 510) (by decide +kernel))) rfl
theorem pm_m_X6_327 : Cond.methodLink RX6 327 yX4_addBack ∈ pm_ws := pm_ws_of (List.mem_append_right _ (List.mem_of_getElem? (i := 513) (by decide +kernel))) rfl
theorem pm_m_X6_247 : Cond.methodLink RX6 247 yX6_comeBack ∈ pm_ws := pm_ws_of (List.mem_append_right _ (List.mem_of_getElem? (i := 517) (by decide +kernel))) rfl
theorem pm_m_X6_330 : Cond.methodLink RX6 330 yX4_takeBack ∈ pm_ws := pm_ws_of (List.mem_append_right _ (List.mem_of_getElem? (i := 521) (by decide +kernel))) rfl
theorem pm_m_X6_254 : Cond.methodLink RX6 254 yX4_addCatch ∈ pm_ws := pm_ws_of (List.mem_append_right _ (List.mem_of_getElem? (i := 525) (by decide +kernel))) rfl
theorem pm_m_X6_260 : Cond.methodLink RX6 260 yX6_dropCatch ∈ pm_ws := pm_ws_of (List.mem_append_right _ (List.mem_of_getElem? (i := 529) (by decide +kernel))) rfl
theorem pm_m_X6_337 : Cond.methodLink RX6 337 yX4_dropCatch ∈ pm_ws := pm_ws_of (List.mem_append_right _ (List.mem_of_getElem? (i := 532) (by decide +kernel))) rfl
theorem pm_m_X6_202 : Cond.methodLink RX6 202 yX6_fail ∈ pm_ws := pm_ws_of (List.mem_append_right _ (List.mem_of_getElem? (i := 536) (by decide +kernel))) rfl
theorem pm_m_X6_339 : Cond.methodLink RX6 339 yX4_takeCatch ∈ pm_ws := pm_ws_of (List.mem_append_right _ (List.mem_of_getElem? (i := 540) (by decide +kernel))) rfl
theorem pm_m_X4_28 : Cond.methodLink RX4 28 yJ9_min_7cf53 ∈ pm_ws := pm_ws_of (List.mem_append_right _ (List.mem_of_getElem? (i := 544) (by decide +kernel))) rfl
theorem pm_m_X6_263 : Cond.methodLink RX6 263 yX6_beget ∈ pm_ws := pm_ws_of (List.mem_append_right _ (List.mem_of_getElem? (i := 545) (by decide +kernel))) rfl
theorem pm_m_X6_345 : Cond.methodLink RX6 345 yX1_linkWith ∈ pm_ws := pm_ws_of (List.mem_append_right _ (List.mem_of_getElem? (i := 549) (by decide +kernel))) rfl
theorem pm_m_X6_267 : Cond.methodLink RX6 267 yX6_post ∈ pm_ws := pm_ws_of (List.mem_append_right _ (List.mem_of_getElem? (i := 553) (by decide +kernel))) rfl
theorem pm_m_X6_313 : Cond.methodLink RX6 313 yX6_findByName ∈ pm_ws := pm_ws_of (List.mem_append_right _ (List.mem_of_getElem? (i := 557) (by decide +kernel))) rfl
theorem pm_m_X6_287 : Cond.methodLink RX6 287 yX6_findByTerm ∈ pm_ws := pm_ws_of (List.mem_append_right _ (List.mem_of_getElem? (i := 561) (by decide +kernel))) rfl
theorem pm_m_X6_270 : Cond.methodLink RX6 270 yX6_readMail ∈ pm_ws := pm_ws_of (List.mem_append_right _ (List.mem_of_getElem? (i := 565) (by decide +kernel))) rfl
theorem pm_m_X6_348 : Cond.methodLink RX6 348 yX0_atPointer ∈ pm_ws := pm_ws_of (List.mem_append_right _ (List.mem_of_getElem? (i := 568) (by decide +kernel))) rfl
theorem pm_m_X0_22 : Cond.methodLink RX0 22 yX0_rowAt ∈ pm_ws := pm_ws_of (List.mem_append_right _ (List.mem_of_getElem? (i := 572) (by decide +kernel))) rfl
theorem pm_m_X6_274 : Cond.methodLink RX6 274 yX6_dropMail ∈ pm_ws := pm_ws_of (List.mem_append_right _ (List.mem_of_getElem? (i := 576) (by decide +kernel))) rfl
theorem pm_m_X6_352 : Cond.methodLink RX6 352 yX0_dropAtPointer ∈ pm_ws := pm_ws_of (List.mem_append_right _ (List.mem_of_getElem? (i := 579) (by decide +kernel))) rfl
theorem pm_m_X6_277 : Cond.methodLink RX6 277 yX6_advance ∈ pm_ws := pm_ws_of (List.mem_append_right _ (List.mem_of_getElem? (i := 583) (by decide +kernel))) rfl
theorem pm_m_X6_355 : Cond.methodLink RX6 355 yX0_advance ∈ pm_ws := pm_ws_of (List.mem_append_right _ (List.mem_of_getElem? (i := 586) (by decide +kernel))) rfl
theorem pm_m_X6_280 : Cond.methodLink RX6 280 yX6_await ∈ pm_ws := pm_ws_of (List.mem_append_right _ (List.mem_of_getElem? (i := 590) (by decide +kernel))) rfl
theorem pm_m_X6_357 : Cond.methodLink RX6 357 yX1_beginToWait ∈ pm_ws := pm_ws_of (List.mem_append_right _ (List.mem_of_getElem? (i := 593) (by decide +kernel))) rfl
theorem pm_m_X6_283 : Cond.methodLink RX6 283 yX6_awaitFor ∈ pm_ws := pm_ws_of (List.mem_append_right _ (List.mem_of_getElem? (i := 597) (by decide +kernel))) rfl
theorem pm_m_X6_118 : Cond.methodLink RX6 118 yX0_pointToFirst ∈ pm_ws := pm_ws_of (List.mem_append_right _ (List.mem_of_getElem? (i := 601) (by decide +kernel))) rfl
theorem pm_m_X6_291 : Cond.methodLink RX6 291 yX6_link ∈ pm_ws := pm_ws_of (List.mem_append_right _ (List.mem_of_getElem? (i := 605) (by decide +kernel))) rfl
theorem pm_m_X6_367 : Cond.methodLink RX6 367 yX6_getExit ∈ pm_ws := pm_ws_of (List.mem_append_right _ (List.mem_of_getElem? (i := 609) (by decide +kernel))) rfl
theorem pm_m_X6_398 : Cond.methodLink RX6 398 yX3_isAtom ∈ pm_ws := pm_ws_of (List.mem_append_right _ (List.mem_of_getElem? (i := 613) (by decide +kernel))) rfl
theorem pm_m_X6_401 : Cond.methodLink RX6 401 yX3_setExit ∈ pm_ws := pm_ws_of (List.mem_append_right _ (List.mem_of_getElem? (i := 617) (by decide +kernel))) rfl
theorem pm_m_X3_50 : Cond.methodLink RX3 50 yX3_addPairSign ∈ pm_ws := pm_ws_of (List.mem_append_right _ (List.mem_of_getElem? (i := 621) (by decide +kernel))) rfl
theorem pm_m_X3_53 : Cond.methodLink RX3 53 yX3_addReason ∈ pm_ws := pm_ws_of (List.mem_append_right _ (List.mem_of_getElem? (i := 625) (by decide +kernel))) rfl
theorem pm_m_X6_295 : Cond.methodLink RX6 295 yX6_unlink ∈ pm_ws := pm_ws_of (List.mem_append_right _ (List.mem_of_getElem? (i := 629) (by decide +kernel))) rfl
theorem pm_m_X6_371 : Cond.methodLink RX6 371 yX1_unlinkFrom ∈ pm_ws := pm_ws_of (List.mem_append_right _ (List.mem_of_getElem? (i := 632) (by decide +kernel))) rfl
theorem pm_cl_X1_83 : Cond.constantLong RX1 83 (-1) ∈ pm_ws := pm_ws_of (List.mem_append_right _ (List.mem_of_getElem? (i := 636) (by decide +kernel))) rfl
theorem pm_m_X6_298 : Cond.methodLink RX6 298 yX6_watch ∈ pm_ws := pm_ws_of (List.mem_append_right _ (List.mem_of_getElem? (i := 637) (by decide +kernel))) rfl
theorem pm_m_X6_374 : Cond.methodLink RX6 374 yX5_isFull ∈ pm_ws := pm_ws_of (List.mem_append_right _ (List.mem_of_getElem? (i := 641) (by decide +kernel))) rfl
theorem pm_m_X6_378 : Cond.methodLink RX6 378 yX5_nextNumber ∈ pm_ws := pm_ws_of (List.mem_append_right _ (List.mem_of_getElem? (i := 645) (by decide +kernel))) rfl
theorem pm_m_X6_381 : Cond.methodLink RX6 381 yX3_setDown ∈ pm_ws := pm_ws_of (List.mem_append_right _ (List.mem_of_getElem? (i := 649) (by decide +kernel))) rfl
theorem pm_m_X6_385 : Cond.methodLink RX6 385 yX5_add ∈ pm_ws := pm_ws_of (List.mem_append_right _ (List.mem_of_getElem? (i := 653) (by decide +kernel))) rfl
theorem pm_m_X5_26 : Cond.methodLink RX5 26 yX5_isFull ∈ pm_ws := pm_ws_of (List.mem_append_right _ (List.mem_of_getElem? (i := 657) (by decide +kernel))) rfl
theorem pm_m_X6_302 : Cond.methodLink RX6 302 yX6_exit ∈ pm_ws := pm_ws_of (List.mem_append_right _ (List.mem_of_getElem? (i := 658) (by decide +kernel))) rfl
theorem pm_m_X6_306 : Cond.methodLink RX6 306 yX6_trap ∈ pm_ws := pm_ws_of (List.mem_append_right _ (List.mem_of_getElem? (i := 662) (by decide +kernel))) rfl
theorem pm_m_X6_310 : Cond.methodLink RX6 310 yX6_takeName ∈ pm_ws := pm_ws_of (List.mem_append_right _ (List.mem_of_getElem? (i := 665) (by decide +kernel))) rfl
theorem pm_m_X6_316 : Cond.methodLink RX6 316 yX6_lookUp ∈ pm_ws := pm_ws_of (List.mem_append_right _ (List.mem_of_getElem? (i := 669) (by decide +kernel))) rfl
theorem pm_m_X6_320 : Cond.methodLink RX6 320 yX6_print ∈ pm_ws := pm_ws_of (List.mem_append_right _ (List.mem_of_getElem? (i := 672) (by decide +kernel))) rfl
theorem pm_m_X6_396 : Cond.methodLink RX6 396 yX2_print ∈ pm_ws := pm_ws_of (List.mem_append_right _ (List.mem_of_getElem? (i := 676) (by decide +kernel))) rfl
theorem pm_m_X6_206 : Cond.methodLink RX6 206 yX6_spreadDeaths ∈ pm_ws := pm_ws_of (List.mem_append_right _ (List.mem_of_getElem? (i := 680) (by decide +kernel))) rfl
theorem pm_m_X6_413 : Cond.methodLink RX6 413 yX6_tellLinked ∈ pm_ws := pm_ws_of (List.mem_append_right _ (List.mem_of_getElem? (i := 684) (by decide +kernel))) rfl
theorem pm_m_X6_419 : Cond.methodLink RX6 419 yX1_isLinkedWith ∈ pm_ws := pm_ws_of (List.mem_append_right _ (List.mem_of_getElem? (i := 688) (by decide +kernel))) rfl
theorem pm_m_X6_416 : Cond.methodLink RX6 416 yX6_tellWatchers ∈ pm_ws := pm_ws_of (List.mem_append_right _ (List.mem_of_getElem? (i := 692) (by decide +kernel))) rfl
theorem pm_m_X6_435 : Cond.methodLink RX6 435 yX5_dropThoseOf ∈ pm_ws := pm_ws_of (List.mem_append_right _ (List.mem_of_getElem? (i := 696) (by decide +kernel))) rfl
theorem pm_m_L_70 : Cond.methodLink RL 70 yL_pass ∈ pm_ws := pm_ws_of (List.mem_append_right _ (List.mem_of_getElem? (i := 700) (by decide +kernel))) rfl
theorem pm_m_L_29 : Cond.methodLink RL 29 yX6_pass ∈ pm_ws := pm_ws_of (List.mem_append_right _ (List.mem_of_getElem? (i := 703) (by decide +kernel))) rfl
theorem pm_m_X6_111 : Cond.methodLink RX6 111 yX6_firstDue ∈ pm_ws := pm_ws_of (List.mem_append_right _ (List.mem_of_getElem? (i := 707) (by decide +kernel))) rfl
theorem pm_m_L_77 : Cond.methodLink RL 77 yL_process ∈ pm_ws := pm_ws_of (List.mem_append_right _ (List.mem_of_getElem? (i := 711) (by decide +kernel))) rfl
theorem pm_m_L_32 : Cond.methodLink RL 32 yX6_process ∈ pm_ws := pm_ws_of (List.mem_append_right _ (List.mem_of_getElem? (i := 714) (by decide +kernel))) rfl
theorem pm_m_X6_134 : Cond.methodLink RX6 134 yX1_fact ∈ pm_ws := pm_ws_of (List.mem_append_right _ (List.mem_of_getElem? (i := 718) (by decide +kernel))) rfl
theorem pm_m_X1_91 : Cond.methodLink RX1 91 yJ13_bitCount_95d88 ∈ pm_ws := pm_ws_of (List.mem_append_right _ (List.mem_of_getElem? (i := 722) (by decide +kernel))) rfl
theorem pm_cl_J13_314 : Cond.constantLong RJ13 314 (6148914691236517205) ∈ pm_ws := pm_ws_of (List.mem_append_right _ (List.mem_of_getElem? (i := 725) (by decide +kernel))) rfl
theorem pm_cl_J13_316 : Cond.constantLong RJ13 316 (3689348814741910323) ∈ pm_ws := pm_ws_of (List.mem_append_right _ (List.mem_of_getElem? (i := 726) (by decide +kernel))) rfl
theorem pm_cl_J13_318 : Cond.constantLong RJ13 318 (1085102592571150095) ∈ pm_ws := pm_ws_of (List.mem_append_right _ (List.mem_of_getElem? (i := 727) (by decide +kernel))) rfl
theorem pm_m_L_80 : Cond.methodLink RL 80 yL_register ∈ pm_ws := pm_ws_of (List.mem_append_right _ (List.mem_of_getElem? (i := 728) (by decide +kernel))) rfl
theorem pm_m_L_35 : Cond.methodLink RL 35 yX6_register ∈ pm_ws := pm_ws_of (List.mem_append_right _ (List.mem_of_getElem? (i := 731) (by decide +kernel))) rfl
theorem pm_m_X6_141 : Cond.methodLink RX6 141 yX3_numberAt ∈ pm_ws := pm_ws_of (List.mem_append_right _ (List.mem_of_getElem? (i := 735) (by decide +kernel))) rfl
theorem pm_m_L_84 : Cond.methodLink RL 84 yL_message ∈ pm_ws := pm_ws_of (List.mem_append_right _ (List.mem_of_getElem? (i := 739) (by decide +kernel))) rfl
theorem pm_m_L_39 : Cond.methodLink RL 39 yX6_message ∈ pm_ws := pm_ws_of (List.mem_append_right _ (List.mem_of_getElem? (i := 742) (by decide +kernel))) rfl
theorem pm_m_X6_148 : Cond.methodLink RX6 148 yX0_rowAt ∈ pm_ws := pm_ws_of (List.mem_append_right _ (List.mem_of_getElem? (i := 746) (by decide +kernel))) rfl
theorem pm_m_L_87 : Cond.methodLink RL 87 yL_total ∈ pm_ws := pm_ws_of (List.mem_append_right _ (List.mem_of_getElem? (i := 747) (by decide +kernel))) rfl
theorem pm_m_L_42 : Cond.methodLink RL 42 yX6_total ∈ pm_ws := pm_ws_of (List.mem_append_right _ (List.mem_of_getElem? (i := 750) (by decide +kernel))) rfl
theorem pm_m_X6_151 : Cond.methodLink RX6 151 yX6_readyOnes ∈ pm_ws := pm_ws_of (List.mem_append_right _ (List.mem_of_getElem? (i := 754) (by decide +kernel))) rfl
theorem pm_c_L_46 : Cond.classLink RL 46 RX7 ∈ pm_ws := pm_ws_of (List.mem_append_right _ (List.mem_of_getElem? (i := 758) (by decide +kernel))) rfl
theorem pm_in_X7 : Cond.instantiable RX7 41 ∈ pm_ws := pm_ws_of (List.mem_append_right _ (List.mem_of_getElem? (i := 759) (by decide +kernel))) rfl
theorem pm_m_L_48 : Cond.methodLink RL 48 yX7_init ∈ pm_ws := pm_ws_of (List.mem_append_right _ (List.mem_of_getElem? (i := 760) (by decide +kernel))) rfl
theorem pm_m_X7_1 : Cond.methodLink RX7 1 objectInit ∈ pm_ws := pm_ws_of (List.mem_append_right _ (List.mem_of_getElem? (i := 763) (by decide +kernel))) rfl
theorem pm_cn_X7_7 : Cond.constant RX7 7 279775 ∈ pm_ws := pm_ws_of (List.mem_append_right _ (List.mem_of_getElem? (i := 764) (by decide +kernel))) rfl
theorem pm_f_X7_8 : pm_lk RX7 8 RX7 "told" "[I" := Or.inl (pm_ws_of (List.mem_append_right _ (List.mem_of_getElem? (i := 765) (by decide +kernel))) rfl)
theorem pm_f_X7_14 : pm_lk RX7 14 RX7 "sizes" "[I" := Or.inl (pm_ws_of (List.mem_append_right _ (List.mem_of_getElem? (i := 766) (by decide +kernel))) rfl)
theorem pm_f_X7_17 : pm_lk RX7 17 RX7 "operations" "[I" := Or.inl (pm_ws_of (List.mem_append_right _ (List.mem_of_getElem? (i := 767) (by decide +kernel))) rfl)
theorem pm_f_X7_20 : pm_lk RX7 20 RX7 "as" "[I" := Or.inl (pm_ws_of (List.mem_append_right _ (List.mem_of_getElem? (i := 768) (by decide +kernel))) rfl)
theorem pm_f_X7_23 : pm_lk RX7 23 RX7 "bs" "[I" := Or.inl (pm_ws_of (List.mem_append_right _ (List.mem_of_getElem? (i := 769) (by decide +kernel))) rfl)
theorem pm_f_X7_26 : pm_lk RX7 26 RX7 "cs" "[I" := Or.inl (pm_ws_of (List.mem_append_right _ (List.mem_of_getElem? (i := 770) (by decide +kernel))) rfl)
theorem pm_f_X7_29 : pm_lk RX7 29 RX7 "state" "[I" := Or.inl (pm_ws_of (List.mem_append_right _ (List.mem_of_getElem? (i := 771) (by decide +kernel))) rfl)
theorem pm_f_X7_32 : pm_lk RX7 32 RX7 "place" "[I" := Or.inl (pm_ws_of (List.mem_append_right _ (List.mem_of_getElem? (i := 772) (by decide +kernel))) rfl)
theorem pm_f_X7_35 : pm_lk RX7 35 RX7 "priority" "[I" := Or.inl (pm_ws_of (List.mem_append_right _ (List.mem_of_getElem? (i := 773) (by decide +kernel))) rfl)
theorem pm_f_X7_38 : pm_lk RX7 38 RX7 "name" "[I" := Or.inl (pm_ws_of (List.mem_append_right _ (List.mem_of_getElem? (i := 774) (by decide +kernel))) rfl)
theorem pm_f_X7_41 : pm_lk RX7 41 RX7 "traps" "[Z" := Or.inl (pm_ws_of (List.mem_append_right _ (List.mem_of_getElem? (i := 775) (by decide +kernel))) rfl)
theorem pm_f_X7_45 : pm_lk RX7 45 RX7 "mail" "[I" := Or.inl (pm_ws_of (List.mem_append_right _ (List.mem_of_getElem? (i := 776) (by decide +kernel))) rfl)
theorem pm_f_X7_48 : pm_lk RX7 48 RX7 "pointer" "[I" := Or.inl (pm_ws_of (List.mem_append_right _ (List.mem_of_getElem? (i := 777) (by decide +kernel))) rfl)
theorem pm_f_X7_51 : pm_lk RX7 51 RX7 "backs" "[I" := Or.inl (pm_ws_of (List.mem_append_right _ (List.mem_of_getElem? (i := 778) (by decide +kernel))) rfl)
theorem pm_f_X7_54 : pm_lk RX7 54 RX7 "backCount" "[I" := Or.inl (pm_ws_of (List.mem_append_right _ (List.mem_of_getElem? (i := 779) (by decide +kernel))) rfl)
theorem pm_f_X7_57 : pm_lk RX7 57 RX7 "catches" "[I" := Or.inl (pm_ws_of (List.mem_append_right _ (List.mem_of_getElem? (i := 780) (by decide +kernel))) rfl)
theorem pm_f_X7_60 : pm_lk RX7 60 RX7 "caught" "[I" := Or.inl (pm_ws_of (List.mem_append_right _ (List.mem_of_getElem? (i := 781) (by decide +kernel))) rfl)
theorem pm_f_X7_63 : pm_lk RX7 63 RX7 "catchCount" "[I" := Or.inl (pm_ws_of (List.mem_append_right _ (List.mem_of_getElem? (i := 782) (by decide +kernel))) rfl)
theorem pm_f_X7_66 : pm_lk RX7 66 RX7 "done" "[I" := Or.inl (pm_ws_of (List.mem_append_right _ (List.mem_of_getElem? (i := 783) (by decide +kernel))) rfl)
theorem pm_f_X7_69 : pm_lk RX7 69 RX7 "onTo" "[I" := Or.inl (pm_ws_of (List.mem_append_right _ (List.mem_of_getElem? (i := 784) (by decide +kernel))) rfl)
theorem pm_f_X7_72 : pm_lk RX7 72 RX7 "lateTo" "[I" := Or.inl (pm_ws_of (List.mem_append_right _ (List.mem_of_getElem? (i := 785) (by decide +kernel))) rfl)
theorem pm_f_X7_75 : pm_lk RX7 75 RX7 "due" "[I" := Or.inl (pm_ws_of (List.mem_append_right _ (List.mem_of_getElem? (i := 786) (by decide +kernel))) rfl)
theorem pm_f_X7_78 : pm_lk RX7 78 RX7 "timed" "[Z" := Or.inl (pm_ws_of (List.mem_append_right _ (List.mem_of_getElem? (i := 787) (by decide +kernel))) rfl)
theorem pm_f_X7_81 : pm_lk RX7 81 RX7 "since" "[I" := Or.inl (pm_ws_of (List.mem_append_right _ (List.mem_of_getElem? (i := 788) (by decide +kernel))) rfl)
theorem pm_f_X7_84 : pm_lk RX7 84 RX7 "linked" "[Z" := Or.inl (pm_ws_of (List.mem_append_right _ (List.mem_of_getElem? (i := 789) (by decide +kernel))) rfl)
theorem pm_f_X7_121 : pm_lk RX7 121 RX7 "count" "I" := Or.inl (pm_ws_of (List.mem_append_right _ (List.mem_of_getElem? (i := 790) (by decide +kernel))) rfl)
theorem pm_f_X7_118 : pm_lk RX7 118 RX7 "readies" "I" := Or.inl (pm_ws_of (List.mem_append_right _ (List.mem_of_getElem? (i := 791) (by decide +kernel))) rfl)
theorem pm_f_X7_87 : pm_lk RX7 87 RX7 "watchers" "[I" := Or.inl (pm_ws_of (List.mem_append_right _ (List.mem_of_getElem? (i := 792) (by decide +kernel))) rfl)
theorem pm_f_X7_90 : pm_lk RX7 90 RX7 "watched" "[I" := Or.inl (pm_ws_of (List.mem_append_right _ (List.mem_of_getElem? (i := 793) (by decide +kernel))) rfl)
theorem pm_f_X7_93 : pm_lk RX7 93 RX7 "numbers" "[I" := Or.inl (pm_ws_of (List.mem_append_right _ (List.mem_of_getElem? (i := 794) (by decide +kernel))) rfl)
theorem pm_f_X7_151 : pm_lk RX7 151 RX7 "watchCount" "I" := Or.inl (pm_ws_of (List.mem_append_right _ (List.mem_of_getElem? (i := 795) (by decide +kernel))) rfl)
theorem pm_f_X7_257 : pm_lk RX7 257 RX7 "made" "I" := Or.inl (pm_ws_of (List.mem_append_right _ (List.mem_of_getElem? (i := 796) (by decide +kernel))) rfl)
theorem pm_f_X7_96 : pm_lk RX7 96 RX7 "fallen" "[I" := Or.inl (pm_ws_of (List.mem_append_right _ (List.mem_of_getElem? (i := 797) (by decide +kernel))) rfl)
theorem pm_f_X7_157 : pm_lk RX7 157 RX7 "fallenCount" "I" := Or.inl (pm_ws_of (List.mem_append_right _ (List.mem_of_getElem? (i := 798) (by decide +kernel))) rfl)
theorem pm_f_X7_99 : pm_lk RX7 99 RX7 "out" "[I" := Or.inl (pm_ws_of (List.mem_append_right _ (List.mem_of_getElem? (i := 799) (by decide +kernel))) rfl)
theorem pm_f_X7_260 : pm_lk RX7 260 RX7 "printed" "I" := Or.inl (pm_ws_of (List.mem_append_right _ (List.mem_of_getElem? (i := 800) (by decide +kernel))) rfl)
theorem pm_f_X7_263 : pm_lk RX7 263 RX7 "slices" "I" := Or.inl (pm_ws_of (List.mem_append_right _ (List.mem_of_getElem? (i := 801) (by decide +kernel))) rfl)
theorem pm_f_X7_206 : pm_lk RX7 206 RX7 "allDone" "I" := Or.inl (pm_ws_of (List.mem_append_right _ (List.mem_of_getElem? (i := 802) (by decide +kernel))) rfl)
theorem pm_f_X7_251 : pm_lk RX7 251 RX7 "time" "I" := Or.inl (pm_ws_of (List.mem_append_right _ (List.mem_of_getElem? (i := 803) (by decide +kernel))) rfl)
theorem pm_f_X7_140 : pm_lk RX7 140 RX7 "came" "I" := Or.inl (pm_ws_of (List.mem_append_right _ (List.mem_of_getElem? (i := 804) (by decide +kernel))) rfl)
theorem pm_f_X7_102 : pm_lk RX7 102 RX7 "thrown" "I" := Or.inl (pm_ws_of (List.mem_append_right _ (List.mem_of_getElem? (i := 805) (by decide +kernel))) rfl)
theorem pm_ac_boolean : Cond.arrayClass .boolean ∈ pm_ws := pm_ws_of (List.mem_append_right _ (List.mem_of_getElem? (i := 889) (by decide +kernel))) rfl
theorem pm_m_L_55 : Cond.methodLink RL 55 yX7_thrown ∈ pm_ws := pm_ws_of (List.mem_append_right _ (List.mem_of_getElem? (i := 890) (by decide +kernel))) rfl
theorem pm_m_L_54 : Cond.methodLink RL 54 yX7_word ∈ pm_ws := pm_ws_of (List.mem_append_right _ (List.mem_of_getElem? (i := 894) (by decide +kernel))) rfl
theorem pm_m_X7_110 : Cond.methodLink RX7 110 yX7_within ∈ pm_ws := pm_ws_of (List.mem_append_right _ (List.mem_of_getElem? (i := 898) (by decide +kernel))) rfl
theorem pm_m_X7_114 : Cond.methodLink RX7 114 yX7_fails ∈ pm_ws := pm_ws_of (List.mem_append_right _ (List.mem_of_getElem? (i := 901) (by decide +kernel))) rfl
theorem pm_m_L_62 : Cond.methodLink RL 62 yX7_start ∈ pm_ws := pm_ws_of (List.mem_append_right _ (List.mem_of_getElem? (i := 905) (by decide +kernel))) rfl
theorem pm_m_X7_132 : Cond.methodLink RX7 132 yX7_create ∈ pm_ws := pm_ws_of (List.mem_append_right _ (List.mem_of_getElem? (i := 909) (by decide +kernel))) rfl
theorem pm_m_X7_124 : Cond.methodLink RX7 124 yX7_set ∈ pm_ws := pm_ws_of (List.mem_append_right _ (List.mem_of_getElem? (i := 913) (by decide +kernel))) rfl
theorem pm_m_X7_128 : Cond.methodLink RX7 128 yX7_becomesReady ∈ pm_ws := pm_ws_of (List.mem_append_right _ (List.mem_of_getElem? (i := 917) (by decide +kernel))) rfl
theorem pm_m_L_65 : Cond.methodLink RL 65 yX7_send ∈ pm_ws := pm_ws_of (List.mem_append_right _ (List.mem_of_getElem? (i := 921) (by decide +kernel))) rfl
theorem pm_m_X7_143 : Cond.methodLink RX7 143 yX7_isProcess ∈ pm_ws := pm_ws_of (List.mem_append_right _ (List.mem_of_getElem? (i := 925) (by decide +kernel))) rfl
theorem pm_m_X7_147 : Cond.methodLink RX7 147 yX7_comes ∈ pm_ws := pm_ws_of (List.mem_append_right _ (List.mem_of_getElem? (i := 929) (by decide +kernel))) rfl
theorem pm_m_X7_136 : Cond.methodLink RX7 136 yX7_copy ∈ pm_ws := pm_ws_of (List.mem_append_right _ (List.mem_of_getElem? (i := 933) (by decide +kernel))) rfl
theorem pm_m_L_69 : Cond.methodLink RL 69 yX7_run ∈ pm_ws := pm_ws_of (List.mem_append_right _ (List.mem_of_getElem? (i := 937) (by decide +kernel))) rfl
theorem pm_m_X7_266 : Cond.methodLink RX7 266 yX7_nextReady ∈ pm_ws := pm_ws_of (List.mem_append_right _ (List.mem_of_getElem? (i := 941) (by decide +kernel))) rfl
theorem pm_m_X7_270 : Cond.methodLink RX7 270 yX7_step ∈ pm_ws := pm_ws_of (List.mem_append_right _ (List.mem_of_getElem? (i := 945) (by decide +kernel))) rfl
theorem pm_m_X7_209 : Cond.methodLink RX7 209 yX7_registerOf ∈ pm_ws := pm_ws_of (List.mem_append_right _ (List.mem_of_getElem? (i := 949) (by decide +kernel))) rfl
theorem pm_m_X7_199 : Cond.methodLink RX7 199 yX7_mod ∈ pm_ws := pm_ws_of (List.mem_append_right _ (List.mem_of_getElem? (i := 952) (by decide +kernel))) rfl
theorem pm_m_X7_212 : Cond.methodLink RX7 212 yX7_simple ∈ pm_ws := pm_ws_of (List.mem_append_right _ (List.mem_of_getElem? (i := 955) (by decide +kernel))) rfl
theorem pm_m_X7_229 : Cond.methodLink RX7 229 yX7_endsBy ∈ pm_ws := pm_ws_of (List.mem_append_right _ (List.mem_of_getElem? (i := 959) (by decide +kernel))) rfl
theorem pm_m_X7_187 : Cond.methodLink RX7 187 yX7_dies ∈ pm_ws := pm_ws_of (List.mem_append_right _ (List.mem_of_getElem? (i := 963) (by decide +kernel))) rfl
theorem pm_m_X7_154 : Cond.methodLink RX7 154 yX7_dropWatch ∈ pm_ws := pm_ws_of (List.mem_append_right _ (List.mem_of_getElem? (i := 967) (by decide +kernel))) rfl
theorem pm_m_X7_232 : Cond.methodLink RX7 232 yX7_reckons ∈ pm_ws := pm_ws_of (List.mem_append_right _ (List.mem_of_getElem? (i := 971) (by decide +kernel))) rfl
theorem pm_m_X7_178 : Cond.methodLink RX7 178 yX7_is ∈ pm_ws := pm_ws_of (List.mem_append_right _ (List.mem_of_getElem? (i := 975) (by decide +kernel))) rfl
theorem pm_m_X7_106 : Cond.methodLink RX7 106 yX7_kindOf ∈ pm_ws := pm_ws_of (List.mem_append_right _ (List.mem_of_getElem? (i := 979) (by decide +kernel))) rfl
theorem pm_m_X7_202 : Cond.methodLink RX7 202 yX7_bad ∈ pm_ws := pm_ws_of (List.mem_append_right _ (List.mem_of_getElem? (i := 983) (by decide +kernel))) rfl
theorem pm_m_X7_193 : Cond.methodLink RX7 193 yX7_failsWith ∈ pm_ws := pm_ws_of (List.mem_append_right _ (List.mem_of_getElem? (i := 987) (by decide +kernel))) rfl
theorem pm_m_X7_196 : Cond.methodLink RX7 196 yX7_failsOf ∈ pm_ws := pm_ws_of (List.mem_append_right _ (List.mem_of_getElem? (i := 991) (by decide +kernel))) rfl
theorem pm_m_X7_181 : Cond.methodLink RX7 181 yX7_valueOf ∈ pm_ws := pm_ws_of (List.mem_append_right _ (List.mem_of_getElem? (i := 995) (by decide +kernel))) rfl
theorem pm_m_X7_172 : Cond.methodLink RX7 172 yX7_ends ∈ pm_ws := pm_ws_of (List.mem_append_right _ (List.mem_of_getElem? (i := 999) (by decide +kernel))) rfl
theorem pm_m_X7_175 : Cond.methodLink RX7 175 yX7_pair ∈ pm_ws := pm_ws_of (List.mem_append_right _ (List.mem_of_getElem? (i := 1003) (by decide +kernel))) rfl
theorem pm_m_X7_236 : Cond.methodLink RX7 236 yX7_behind ∈ pm_ws := pm_ws_of (List.mem_append_right _ (List.mem_of_getElem? (i := 1007) (by decide +kernel))) rfl
theorem pm_m_X7_239 : Cond.methodLink RX7 239 yX7_part ∈ pm_ws := pm_ws_of (List.mem_append_right _ (List.mem_of_getElem? (i := 1011) (by decide +kernel))) rfl
theorem pm_m_X7_242 : Cond.methodLink RX7 242 yX7_compare ∈ pm_ws := pm_ws_of (List.mem_append_right _ (List.mem_of_getElem? (i := 1015) (by decide +kernel))) rfl
theorem pm_m_X7_216 : Cond.methodLink RX7 216 yX7_calls ∈ pm_ws := pm_ws_of (List.mem_append_right _ (List.mem_of_getElem? (i := 1019) (by decide +kernel))) rfl
theorem pm_m_X7_160 : Cond.methodLink RX7 160 yX7_link ∈ pm_ws := pm_ws_of (List.mem_append_right _ (List.mem_of_getElem? (i := 1023) (by decide +kernel))) rfl
theorem pm_m_X7_220 : Cond.methodLink RX7 220 yX7_mails ∈ pm_ws := pm_ws_of (List.mem_append_right _ (List.mem_of_getElem? (i := 1027) (by decide +kernel))) rfl
theorem pm_m_X7_245 : Cond.methodLink RX7 245 yX7_withName ∈ pm_ws := pm_ws_of (List.mem_append_right _ (List.mem_of_getElem? (i := 1031) (by decide +kernel))) rfl
theorem pm_m_X7_248 : Cond.methodLink RX7 248 yX7_waits ∈ pm_ws := pm_ws_of (List.mem_append_right _ (List.mem_of_getElem? (i := 1035) (by decide +kernel))) rfl
theorem pm_cl_X7_254 : Cond.constantLong RX7 254 (2000000000) ∈ pm_ws := pm_ws_of (List.mem_append_right _ (List.mem_of_getElem? (i := 1039) (by decide +kernel))) rfl
theorem pm_cn_X7_256 : Cond.constant RX7 256 2000000000 ∈ pm_ws := pm_ws_of (List.mem_append_right _ (List.mem_of_getElem? (i := 1040) (by decide +kernel))) rfl
theorem pm_m_X7_223 : Cond.methodLink RX7 223 yX7_others ∈ pm_ws := pm_ws_of (List.mem_append_right _ (List.mem_of_getElem? (i := 1041) (by decide +kernel))) rfl
theorem pm_m_X7_164 : Cond.methodLink RX7 164 yX7_exit ∈ pm_ws := pm_ws_of (List.mem_append_right _ (List.mem_of_getElem? (i := 1045) (by decide +kernel))) rfl
theorem pm_m_X7_184 : Cond.methodLink RX7 184 yX7_isAtom ∈ pm_ws := pm_ws_of (List.mem_append_right _ (List.mem_of_getElem? (i := 1049) (by decide +kernel))) rfl
theorem pm_m_X7_190 : Cond.methodLink RX7 190 yX7_tells ∈ pm_ws := pm_ws_of (List.mem_append_right _ (List.mem_of_getElem? (i := 1053) (by decide +kernel))) rfl
theorem pm_m_X7_168 : Cond.methodLink RX7 168 yX7_tellsDown ∈ pm_ws := pm_ws_of (List.mem_append_right _ (List.mem_of_getElem? (i := 1057) (by decide +kernel))) rfl
theorem pm_m_X7_226 : Cond.methodLink RX7 226 yX7_spread ∈ pm_ws := pm_ws_of (List.mem_append_right _ (List.mem_of_getElem? (i := 1061) (by decide +kernel))) rfl
theorem pm_m_L_72 : Cond.methodLink RL 72 yX7_pass ∈ pm_ws := pm_ws_of (List.mem_append_right _ (List.mem_of_getElem? (i := 1065) (by decide +kernel))) rfl
theorem pm_m_L_76 : Cond.methodLink RL 76 yX7_out ∈ pm_ws := pm_ws_of (List.mem_append_right _ (List.mem_of_getElem? (i := 1069) (by decide +kernel))) rfl
theorem pm_m_L_79 : Cond.methodLink RL 79 yX7_process ∈ pm_ws := pm_ws_of (List.mem_append_right _ (List.mem_of_getElem? (i := 1073) (by decide +kernel))) rfl
theorem pm_m_L_83 : Cond.methodLink RL 83 yX7_register ∈ pm_ws := pm_ws_of (List.mem_append_right _ (List.mem_of_getElem? (i := 1077) (by decide +kernel))) rfl
theorem pm_m_X7_273 : Cond.methodLink RX7 273 yX7_numberOf ∈ pm_ws := pm_ws_of (List.mem_append_right _ (List.mem_of_getElem? (i := 1081) (by decide +kernel))) rfl
theorem pm_m_L_86 : Cond.methodLink RL 86 yX7_message ∈ pm_ws := pm_ws_of (List.mem_append_right _ (List.mem_of_getElem? (i := 1085) (by decide +kernel))) rfl
theorem pm_m_L_89 : Cond.methodLink RL 89 yX7_total ∈ pm_ws := pm_ws_of (List.mem_append_right _ (List.mem_of_getElem? (i := 1089) (by decide +kernel))) rfl
theorem pm_ac_long : Cond.arrayClass .long ∈ pm_ws := pm_ws_of (List.mem_append_right _ (List.mem_of_getElem? (i := 1093) (by decide +kernel))) rfl
theorem pm_i_X6_init : Cond.instanceMethod yX6_init ∈ pm_ws := pm_ws_of (List.mem_append_right _ (List.mem_of_getElem? (i := 20) (by decide +kernel))) rfl
theorem pm_i_X5_init : Cond.instanceMethod yX5_init ∈ pm_ws := pm_ws_of (List.mem_append_right _ (List.mem_of_getElem? (i := 30) (by decide +kernel))) rfl
theorem pm_i_X2_init : Cond.instanceMethod yX2_init ∈ pm_ws := pm_ws_of (List.mem_append_right _ (List.mem_of_getElem? (i := 58) (by decide +kernel))) rfl
theorem pm_i_X3_init : Cond.instanceMethod yX3_init ∈ pm_ws := pm_ws_of (List.mem_append_right _ (List.mem_of_getElem? (i := 72) (by decide +kernel))) rfl
theorem pm_v_X6_out : Cond.instanceMethod yX6_out ∈ pm_ws ∧ Cond.selects yX6_out.cls yX6_out yX6_out ∈ pm_ws := ⟨pm_ws_of (List.mem_append_right _ (List.mem_of_getElem? (i := 134) (by decide +kernel))) rfl, pm_ws_of (List.mem_append_right _ (List.mem_of_getElem? (i := 135) (by decide +kernel))) rfl⟩
theorem pm_v_X2_numberAt : Cond.instanceMethod yX2_numberAt ∈ pm_ws ∧ Cond.selects yX2_numberAt.cls yX2_numberAt yX2_numberAt ∈ pm_ws := ⟨pm_ws_of (List.mem_append_right _ (List.mem_of_getElem? (i := 138) (by decide +kernel))) rfl, pm_ws_of (List.mem_append_right _ (List.mem_of_getElem? (i := 139) (by decide +kernel))) rfl⟩
theorem pm_s_J9_min_7cf53 : Cond.static yJ9_min_7cf53 ∈ pm_ws := pm_ws_of (List.mem_append_right _ (List.mem_of_getElem? (i := 142) (by decide +kernel))) rfl
theorem pm_v_X6_word : Cond.instanceMethod yX6_word ∈ pm_ws ∧ Cond.selects yX6_word.cls yX6_word yX6_word ∈ pm_ws := ⟨pm_ws_of (List.mem_append_right _ (List.mem_of_getElem? (i := 149) (by decide +kernel))) rfl, pm_ws_of (List.mem_append_right _ (List.mem_of_getElem? (i := 150) (by decide +kernel))) rfl⟩
theorem pm_s_X6_isBelow : Cond.static yX6_isBelow ∈ pm_ws := pm_ws_of (List.mem_append_right _ (List.mem_of_getElem? (i := 153) (by decide +kernel))) rfl
theorem pm_v_X6_start : Cond.instanceMethod yX6_start ∈ pm_ws ∧ Cond.selects yX6_start.cls yX6_start yX6_start ∈ pm_ws := ⟨pm_ws_of (List.mem_append_right _ (List.mem_of_getElem? (i := 222) (by decide +kernel))) rfl, pm_ws_of (List.mem_append_right _ (List.mem_of_getElem? (i := 223) (by decide +kernel))) rfl⟩
theorem pm_v_X6_beginProcess : Cond.instanceMethod yX6_beginProcess ∈ pm_ws ∧ Cond.selects yX6_beginProcess.cls yX6_beginProcess yX6_beginProcess ∈ pm_ws := ⟨pm_ws_of (List.mem_append_right _ (List.mem_of_getElem? (i := 242) (by decide +kernel))) rfl, pm_ws_of (List.mem_append_left _ (List.mem_of_getElem? (i := 1) (by decide +kernel))) rfl⟩
theorem pm_i_X1_init : Cond.instanceMethod yX1_init ∈ pm_ws := pm_ws_of (List.mem_append_right _ (List.mem_of_getElem? (i := 246) (by decide +kernel))) rfl
theorem pm_i_X0_init : Cond.instanceMethod yX0_init ∈ pm_ws := pm_ws_of (List.mem_append_right _ (List.mem_of_getElem? (i := 255) (by decide +kernel))) rfl
theorem pm_i_X4_init : Cond.instanceMethod yX4_init ∈ pm_ws := pm_ws_of (List.mem_append_right _ (List.mem_of_getElem? (i := 274) (by decide +kernel))) rfl
theorem pm_v_X6_makeReady : Cond.instanceMethod yX6_makeReady ∈ pm_ws ∧ Cond.selects yX6_makeReady.cls yX6_makeReady yX6_makeReady ∈ pm_ws := ⟨pm_ws_of (List.mem_append_right _ (List.mem_of_getElem? (i := 361) (by decide +kernel))) rfl, pm_ws_of (List.mem_append_left _ (List.mem_of_getElem? (i := 2) (by decide +kernel))) rfl⟩
theorem pm_v_X6_takeLastTurn : Cond.instanceMethod yX6_takeLastTurn ∈ pm_ws ∧ Cond.selects yX6_takeLastTurn.cls yX6_takeLastTurn yX6_takeLastTurn ∈ pm_ws := ⟨pm_ws_of (List.mem_append_right _ (List.mem_of_getElem? (i := 366) (by decide +kernel))) rfl, pm_ws_of (List.mem_append_left _ (List.mem_of_getElem? (i := 3) (by decide +kernel))) rfl⟩
theorem pm_v_X6_send : Cond.instanceMethod yX6_send ∈ pm_ws ∧ Cond.selects yX6_send.cls yX6_send yX6_send ∈ pm_ws := ⟨pm_ws_of (List.mem_append_right _ (List.mem_of_getElem? (i := 372) (by decide +kernel))) rfl, pm_ws_of (List.mem_append_right _ (List.mem_of_getElem? (i := 373) (by decide +kernel))) rfl⟩
theorem pm_v_X6_find : Cond.instanceMethod yX6_find ∈ pm_ws ∧ Cond.selects yX6_find.cls yX6_find yX6_find ∈ pm_ws := ⟨pm_ws_of (List.mem_append_right _ (List.mem_of_getElem? (i := 377) (by decide +kernel))) rfl, pm_ws_of (List.mem_append_left _ (List.mem_of_getElem? (i := 4) (by decide +kernel))) rfl⟩
theorem pm_v_X3_setSingle : Cond.instanceMethod yX3_setSingle ∈ pm_ws ∧ Cond.selects yX3_setSingle.cls yX3_setSingle yX3_setSingle ∈ pm_ws := ⟨pm_ws_of (List.mem_append_right _ (List.mem_of_getElem? (i := 380) (by decide +kernel))) rfl, pm_ws_of (List.mem_append_right _ (List.mem_of_getElem? (i := 381) (by decide +kernel))) rfl⟩
theorem pm_v_X3_addSingle : Cond.instanceMethod yX3_addSingle ∈ pm_ws ∧ Cond.selects yX3_addSingle.cls yX3_addSingle yX3_addSingle ∈ pm_ws := ⟨pm_ws_of (List.mem_append_right _ (List.mem_of_getElem? (i := 385) (by decide +kernel))) rfl, pm_ws_of (List.mem_append_left _ (List.mem_of_getElem? (i := 5) (by decide +kernel))) rfl⟩
theorem pm_v_X6_deliver : Cond.instanceMethod yX6_deliver ∈ pm_ws ∧ Cond.selects yX6_deliver.cls yX6_deliver yX6_deliver ∈ pm_ws := ⟨pm_ws_of (List.mem_append_right _ (List.mem_of_getElem? (i := 389) (by decide +kernel))) rfl, pm_ws_of (List.mem_append_left _ (List.mem_of_getElem? (i := 6) (by decide +kernel))) rfl⟩
theorem pm_v_X0_newRow : Cond.instanceMethod yX0_newRow ∈ pm_ws ∧ Cond.selects yX0_newRow.cls yX0_newRow yX0_newRow ∈ pm_ws := ⟨pm_ws_of (List.mem_append_right _ (List.mem_of_getElem? (i := 392) (by decide +kernel))) rfl, pm_ws_of (List.mem_append_right _ (List.mem_of_getElem? (i := 393) (by decide +kernel))) rfl⟩
theorem pm_v_X3_copy : Cond.instanceMethod yX3_copy ∈ pm_ws ∧ Cond.selects yX3_copy.cls yX3_copy yX3_copy ∈ pm_ws := ⟨pm_ws_of (List.mem_append_right _ (List.mem_of_getElem? (i := 397) (by decide +kernel))) rfl, pm_ws_of (List.mem_append_right _ (List.mem_of_getElem? (i := 398) (by decide +kernel))) rfl⟩
theorem pm_v_X6_run : Cond.instanceMethod yX6_run ∈ pm_ws ∧ Cond.selects yX6_run.cls yX6_run yX6_run ∈ pm_ws := ⟨pm_ws_of (List.mem_append_right _ (List.mem_of_getElem? (i := 407) (by decide +kernel))) rfl, pm_ws_of (List.mem_append_right _ (List.mem_of_getElem? (i := 408) (by decide +kernel))) rfl⟩
theorem pm_v_X6_nextInTurn : Cond.instanceMethod yX6_nextInTurn ∈ pm_ws ∧ Cond.selects yX6_nextInTurn.cls yX6_nextInTurn yX6_nextInTurn ∈ pm_ws := ⟨pm_ws_of (List.mem_append_right _ (List.mem_of_getElem? (i := 412) (by decide +kernel))) rfl, pm_ws_of (List.mem_append_left _ (List.mem_of_getElem? (i := 7) (by decide +kernel))) rfl⟩
theorem pm_v_X1_comesBefore : Cond.instanceMethod yX1_comesBefore ∈ pm_ws ∧ Cond.selects yX1_comesBefore.cls yX1_comesBefore yX1_comesBefore ∈ pm_ws := ⟨pm_ws_of (List.mem_append_right _ (List.mem_of_getElem? (i := 415) (by decide +kernel))) rfl, pm_ws_of (List.mem_append_right _ (List.mem_of_getElem? (i := 416) (by decide +kernel))) rfl⟩
theorem pm_v_X6_doSlice : Cond.instanceMethod yX6_doSlice ∈ pm_ws ∧ Cond.selects yX6_doSlice.cls yX6_doSlice yX6_doSlice ∈ pm_ws := ⟨pm_ws_of (List.mem_append_right _ (List.mem_of_getElem? (i := 420) (by decide +kernel))) rfl, pm_ws_of (List.mem_append_left _ (List.mem_of_getElem? (i := 8) (by decide +kernel))) rfl⟩
theorem pm_s_X6_place : Cond.static yX6_place ∈ pm_ws := pm_ws_of (List.mem_append_right _ (List.mem_of_getElem? (i := 423) (by decide +kernel))) rfl
theorem pm_s_J9_floorMod_7cf53 : Cond.static yJ9_floorMod_7cf53 ∈ pm_ws := pm_ws_of (List.mem_append_right _ (List.mem_of_getElem? (i := 426) (by decide +kernel))) rfl
theorem pm_v_X6_doWord : Cond.instanceMethod yX6_doWord ∈ pm_ws ∧ Cond.selects yX6_doWord.cls yX6_doWord yX6_doWord ∈ pm_ws := ⟨pm_ws_of (List.mem_append_right _ (List.mem_of_getElem? (i := 430) (by decide +kernel))) rfl, pm_ws_of (List.mem_append_left _ (List.mem_of_getElem? (i := 9) (by decide +kernel))) rfl⟩
theorem pm_v_X1_x : Cond.instanceMethod yX1_x ∈ pm_ws ∧ Cond.selects yX1_x.cls yX1_x yX1_x ∈ pm_ws := ⟨pm_ws_of (List.mem_append_right _ (List.mem_of_getElem? (i := 433) (by decide +kernel))) rfl, pm_ws_of (List.mem_append_right _ (List.mem_of_getElem? (i := 434) (by decide +kernel))) rfl⟩
theorem pm_v_X6_end : Cond.instanceMethod yX6_end ∈ pm_ws ∧ Cond.selects yX6_end.cls yX6_end yX6_end ∈ pm_ws := ⟨pm_ws_of (List.mem_append_right _ (List.mem_of_getElem? (i := 439) (by decide +kernel))) rfl, pm_ws_of (List.mem_append_left _ (List.mem_of_getElem? (i := 10) (by decide +kernel))) rfl⟩
theorem pm_v_X6_die : Cond.instanceMethod yX6_die ∈ pm_ws ∧ Cond.selects yX6_die.cls yX6_die yX6_die ∈ pm_ws := ⟨pm_ws_of (List.mem_append_right _ (List.mem_of_getElem? (i := 443) (by decide +kernel))) rfl, pm_ws_of (List.mem_append_left _ (List.mem_of_getElem? (i := 11) (by decide +kernel))) rfl⟩
theorem pm_v_X0_clear : Cond.instanceMethod yX0_clear ∈ pm_ws ∧ Cond.selects yX0_clear.cls yX0_clear yX0_clear ∈ pm_ws := ⟨pm_ws_of (List.mem_append_right _ (List.mem_of_getElem? (i := 446) (by decide +kernel))) rfl, pm_ws_of (List.mem_append_right _ (List.mem_of_getElem? (i := 447) (by decide +kernel))) rfl⟩
theorem pm_v_X4_clear : Cond.instanceMethod yX4_clear ∈ pm_ws ∧ Cond.selects yX4_clear.cls yX4_clear yX4_clear ∈ pm_ws := ⟨pm_ws_of (List.mem_append_right _ (List.mem_of_getElem? (i := 450) (by decide +kernel))) rfl, pm_ws_of (List.mem_append_right _ (List.mem_of_getElem? (i := 451) (by decide +kernel))) rfl⟩
theorem pm_v_X5_dropMadeBy : Cond.instanceMethod yX5_dropMadeBy ∈ pm_ws ∧ Cond.selects yX5_dropMadeBy.cls yX5_dropMadeBy yX5_dropMadeBy ∈ pm_ws := ⟨pm_ws_of (List.mem_append_right _ (List.mem_of_getElem? (i := 454) (by decide +kernel))) rfl, pm_ws_of (List.mem_append_right _ (List.mem_of_getElem? (i := 455) (by decide +kernel))) rfl⟩
theorem pm_v_X5_dropWhere : Cond.instanceMethod yX5_dropWhere ∈ pm_ws ∧ Cond.selects yX5_dropWhere.cls yX5_dropWhere yX5_dropWhere ∈ pm_ws := ⟨pm_ws_of (List.mem_append_right _ (List.mem_of_getElem? (i := 459) (by decide +kernel))) rfl, pm_ws_of (List.mem_append_left _ (List.mem_of_getElem? (i := 12) (by decide +kernel))) rfl⟩
theorem pm_s_X6_give : Cond.static yX6_give ∈ pm_ws := pm_ws_of (List.mem_append_right _ (List.mem_of_getElem? (i := 462) (by decide +kernel))) rfl
theorem pm_s_X6_giveCopy : Cond.static yX6_giveCopy ∈ pm_ws := pm_ws_of (List.mem_append_right _ (List.mem_of_getElem? (i := 465) (by decide +kernel))) rfl
theorem pm_s_X6_areNumbers : Cond.static yX6_areNumbers ∈ pm_ws := pm_ws_of (List.mem_append_right _ (List.mem_of_getElem? (i := 468) (by decide +kernel))) rfl
theorem pm_v_X3_kind : Cond.instanceMethod yX3_kind ∈ pm_ws ∧ Cond.selects yX3_kind.cls yX3_kind yX3_kind ∈ pm_ws := ⟨pm_ws_of (List.mem_append_right _ (List.mem_of_getElem? (i := 471) (by decide +kernel))) rfl, pm_ws_of (List.mem_append_right _ (List.mem_of_getElem? (i := 472) (by decide +kernel))) rfl⟩
theorem pm_s_X3_kindOf : Cond.static yX3_kindOf ∈ pm_ws := pm_ws_of (List.mem_append_right _ (List.mem_of_getElem? (i := 475) (by decide +kernel))) rfl
theorem pm_v_X3_value : Cond.instanceMethod yX3_value ∈ pm_ws ∧ Cond.selects yX3_value.cls yX3_value yX3_value ∈ pm_ws := ⟨pm_ws_of (List.mem_append_right _ (List.mem_of_getElem? (i := 478) (by decide +kernel))) rfl, pm_ws_of (List.mem_append_right _ (List.mem_of_getElem? (i := 479) (by decide +kernel))) rfl⟩
theorem pm_v_X3_setPair : Cond.instanceMethod yX3_setPair ∈ pm_ws ∧ Cond.selects yX3_setPair.cls yX3_setPair yX3_setPair ∈ pm_ws := ⟨pm_ws_of (List.mem_append_right _ (List.mem_of_getElem? (i := 482) (by decide +kernel))) rfl, pm_ws_of (List.mem_append_right _ (List.mem_of_getElem? (i := 483) (by decide +kernel))) rfl⟩
theorem pm_v_X3_setFirst : Cond.instanceMethod yX3_setFirst ∈ pm_ws ∧ Cond.selects yX3_setFirst.cls yX3_setFirst yX3_setFirst ∈ pm_ws := ⟨pm_ws_of (List.mem_append_right _ (List.mem_of_getElem? (i := 486) (by decide +kernel))) rfl, pm_ws_of (List.mem_append_right _ (List.mem_of_getElem? (i := 487) (by decide +kernel))) rfl⟩
theorem pm_v_X3_endOfFirst : Cond.instanceMethod yX3_endOfFirst ∈ pm_ws ∧ Cond.selects yX3_endOfFirst.cls yX3_endOfFirst yX3_endOfFirst ∈ pm_ws := ⟨pm_ws_of (List.mem_append_right _ (List.mem_of_getElem? (i := 492) (by decide +kernel))) rfl, pm_ws_of (List.mem_append_left _ (List.mem_of_getElem? (i := 13) (by decide +kernel))) rfl⟩
theorem pm_v_X3_setPart : Cond.instanceMethod yX3_setPart ∈ pm_ws ∧ Cond.selects yX3_setPart.cls yX3_setPart yX3_setPart ∈ pm_ws := ⟨pm_ws_of (List.mem_append_right _ (List.mem_of_getElem? (i := 496) (by decide +kernel))) rfl, pm_ws_of (List.mem_append_left _ (List.mem_of_getElem? (i := 14) (by decide +kernel))) rfl⟩
theorem pm_v_X3_setSecond : Cond.instanceMethod yX3_setSecond ∈ pm_ws ∧ Cond.selects yX3_setSecond.cls yX3_setSecond yX3_setSecond ∈ pm_ws := ⟨pm_ws_of (List.mem_append_right _ (List.mem_of_getElem? (i := 499) (by decide +kernel))) rfl, pm_ws_of (List.mem_append_right _ (List.mem_of_getElem? (i := 500) (by decide +kernel))) rfl⟩
theorem pm_s_X6_goOn : Cond.static yX6_goOn ∈ pm_ws := pm_ws_of (List.mem_append_right _ (List.mem_of_getElem? (i := 503) (by decide +kernel))) rfl
theorem pm_v_X3_compareWith : Cond.instanceMethod yX3_compareWith ∈ pm_ws ∧ Cond.selects yX3_compareWith.cls yX3_compareWith yX3_compareWith ∈ pm_ws := ⟨pm_ws_of (List.mem_append_right _ (List.mem_of_getElem? (i := 506) (by decide +kernel))) rfl, pm_ws_of (List.mem_append_right _ (List.mem_of_getElem? (i := 507) (by decide +kernel))) rfl⟩
theorem pm_s_X6_callWord : Cond.static yX6_callWord ∈ pm_ws := pm_ws_of (List.mem_append_right _ (List.mem_of_getElem? (i := 511) (by decide +kernel))) rfl
theorem pm_v_X4_addBack : Cond.instanceMethod yX4_addBack ∈ pm_ws ∧ Cond.selects yX4_addBack.cls yX4_addBack yX4_addBack ∈ pm_ws := ⟨pm_ws_of (List.mem_append_right _ (List.mem_of_getElem? (i := 514) (by decide +kernel))) rfl, pm_ws_of (List.mem_append_right _ (List.mem_of_getElem? (i := 515) (by decide +kernel))) rfl⟩
theorem pm_v_X6_comeBack : Cond.instanceMethod yX6_comeBack ∈ pm_ws ∧ Cond.selects yX6_comeBack.cls yX6_comeBack yX6_comeBack ∈ pm_ws := ⟨pm_ws_of (List.mem_append_right _ (List.mem_of_getElem? (i := 519) (by decide +kernel))) rfl, pm_ws_of (List.mem_append_left _ (List.mem_of_getElem? (i := 15) (by decide +kernel))) rfl⟩
theorem pm_v_X4_takeBack : Cond.instanceMethod yX4_takeBack ∈ pm_ws ∧ Cond.selects yX4_takeBack.cls yX4_takeBack yX4_takeBack ∈ pm_ws := ⟨pm_ws_of (List.mem_append_right _ (List.mem_of_getElem? (i := 522) (by decide +kernel))) rfl, pm_ws_of (List.mem_append_right _ (List.mem_of_getElem? (i := 523) (by decide +kernel))) rfl⟩
theorem pm_v_X4_addCatch : Cond.instanceMethod yX4_addCatch ∈ pm_ws ∧ Cond.selects yX4_addCatch.cls yX4_addCatch yX4_addCatch ∈ pm_ws := ⟨pm_ws_of (List.mem_append_right _ (List.mem_of_getElem? (i := 526) (by decide +kernel))) rfl, pm_ws_of (List.mem_append_right _ (List.mem_of_getElem? (i := 527) (by decide +kernel))) rfl⟩
theorem pm_s_X6_dropCatch : Cond.static yX6_dropCatch ∈ pm_ws := pm_ws_of (List.mem_append_right _ (List.mem_of_getElem? (i := 530) (by decide +kernel))) rfl
theorem pm_v_X4_dropCatch : Cond.instanceMethod yX4_dropCatch ∈ pm_ws ∧ Cond.selects yX4_dropCatch.cls yX4_dropCatch yX4_dropCatch ∈ pm_ws := ⟨pm_ws_of (List.mem_append_right _ (List.mem_of_getElem? (i := 533) (by decide +kernel))) rfl, pm_ws_of (List.mem_append_right _ (List.mem_of_getElem? (i := 534) (by decide +kernel))) rfl⟩
theorem pm_v_X6_fail : Cond.instanceMethod yX6_fail ∈ pm_ws ∧ Cond.selects yX6_fail.cls yX6_fail yX6_fail ∈ pm_ws := ⟨pm_ws_of (List.mem_append_right _ (List.mem_of_getElem? (i := 538) (by decide +kernel))) rfl, pm_ws_of (List.mem_append_left _ (List.mem_of_getElem? (i := 16) (by decide +kernel))) rfl⟩
theorem pm_v_X4_takeCatch : Cond.instanceMethod yX4_takeCatch ∈ pm_ws ∧ Cond.selects yX4_takeCatch.cls yX4_takeCatch yX4_takeCatch ∈ pm_ws := ⟨pm_ws_of (List.mem_append_right _ (List.mem_of_getElem? (i := 541) (by decide +kernel))) rfl, pm_ws_of (List.mem_append_right _ (List.mem_of_getElem? (i := 542) (by decide +kernel))) rfl⟩
theorem pm_v_X6_beget : Cond.instanceMethod yX6_beget ∈ pm_ws ∧ Cond.selects yX6_beget.cls yX6_beget yX6_beget ∈ pm_ws := ⟨pm_ws_of (List.mem_append_right _ (List.mem_of_getElem? (i := 547) (by decide +kernel))) rfl, pm_ws_of (List.mem_append_left _ (List.mem_of_getElem? (i := 17) (by decide +kernel))) rfl⟩
theorem pm_v_X1_linkWith : Cond.instanceMethod yX1_linkWith ∈ pm_ws ∧ Cond.selects yX1_linkWith.cls yX1_linkWith yX1_linkWith ∈ pm_ws := ⟨pm_ws_of (List.mem_append_right _ (List.mem_of_getElem? (i := 550) (by decide +kernel))) rfl, pm_ws_of (List.mem_append_right _ (List.mem_of_getElem? (i := 551) (by decide +kernel))) rfl⟩
theorem pm_v_X6_post : Cond.instanceMethod yX6_post ∈ pm_ws ∧ Cond.selects yX6_post.cls yX6_post yX6_post ∈ pm_ws := ⟨pm_ws_of (List.mem_append_right _ (List.mem_of_getElem? (i := 555) (by decide +kernel))) rfl, pm_ws_of (List.mem_append_left _ (List.mem_of_getElem? (i := 18) (by decide +kernel))) rfl⟩
theorem pm_v_X6_findByName : Cond.instanceMethod yX6_findByName ∈ pm_ws ∧ Cond.selects yX6_findByName.cls yX6_findByName yX6_findByName ∈ pm_ws := ⟨pm_ws_of (List.mem_append_right _ (List.mem_of_getElem? (i := 559) (by decide +kernel))) rfl, pm_ws_of (List.mem_append_left _ (List.mem_of_getElem? (i := 19) (by decide +kernel))) rfl⟩
theorem pm_v_X6_findByTerm : Cond.instanceMethod yX6_findByTerm ∈ pm_ws ∧ Cond.selects yX6_findByTerm.cls yX6_findByTerm yX6_findByTerm ∈ pm_ws := ⟨pm_ws_of (List.mem_append_right _ (List.mem_of_getElem? (i := 563) (by decide +kernel))) rfl, pm_ws_of (List.mem_append_left _ (List.mem_of_getElem? (i := 20) (by decide +kernel))) rfl⟩
theorem pm_s_X6_readMail : Cond.static yX6_readMail ∈ pm_ws := pm_ws_of (List.mem_append_right _ (List.mem_of_getElem? (i := 566) (by decide +kernel))) rfl
theorem pm_v_X0_atPointer : Cond.instanceMethod yX0_atPointer ∈ pm_ws ∧ Cond.selects yX0_atPointer.cls yX0_atPointer yX0_atPointer ∈ pm_ws := ⟨pm_ws_of (List.mem_append_right _ (List.mem_of_getElem? (i := 569) (by decide +kernel))) rfl, pm_ws_of (List.mem_append_right _ (List.mem_of_getElem? (i := 570) (by decide +kernel))) rfl⟩
theorem pm_v_X0_rowAt : Cond.instanceMethod yX0_rowAt ∈ pm_ws ∧ Cond.selects yX0_rowAt.cls yX0_rowAt yX0_rowAt ∈ pm_ws := ⟨pm_ws_of (List.mem_append_right _ (List.mem_of_getElem? (i := 573) (by decide +kernel))) rfl, pm_ws_of (List.mem_append_right _ (List.mem_of_getElem? (i := 574) (by decide +kernel))) rfl⟩
theorem pm_s_X6_dropMail : Cond.static yX6_dropMail ∈ pm_ws := pm_ws_of (List.mem_append_right _ (List.mem_of_getElem? (i := 577) (by decide +kernel))) rfl
theorem pm_v_X0_dropAtPointer : Cond.instanceMethod yX0_dropAtPointer ∈ pm_ws ∧ Cond.selects yX0_dropAtPointer.cls yX0_dropAtPointer yX0_dropAtPointer ∈ pm_ws := ⟨pm_ws_of (List.mem_append_right _ (List.mem_of_getElem? (i := 580) (by decide +kernel))) rfl, pm_ws_of (List.mem_append_right _ (List.mem_of_getElem? (i := 581) (by decide +kernel))) rfl⟩
theorem pm_s_X6_advance : Cond.static yX6_advance ∈ pm_ws := pm_ws_of (List.mem_append_right _ (List.mem_of_getElem? (i := 584) (by decide +kernel))) rfl
theorem pm_v_X0_advance : Cond.instanceMethod yX0_advance ∈ pm_ws ∧ Cond.selects yX0_advance.cls yX0_advance yX0_advance ∈ pm_ws := ⟨pm_ws_of (List.mem_append_right _ (List.mem_of_getElem? (i := 587) (by decide +kernel))) rfl, pm_ws_of (List.mem_append_right _ (List.mem_of_getElem? (i := 588) (by decide +kernel))) rfl⟩
theorem pm_s_X6_await : Cond.static yX6_await ∈ pm_ws := pm_ws_of (List.mem_append_right _ (List.mem_of_getElem? (i := 591) (by decide +kernel))) rfl
theorem pm_v_X1_beginToWait : Cond.instanceMethod yX1_beginToWait ∈ pm_ws ∧ Cond.selects yX1_beginToWait.cls yX1_beginToWait yX1_beginToWait ∈ pm_ws := ⟨pm_ws_of (List.mem_append_right _ (List.mem_of_getElem? (i := 594) (by decide +kernel))) rfl, pm_ws_of (List.mem_append_right _ (List.mem_of_getElem? (i := 595) (by decide +kernel))) rfl⟩
theorem pm_v_X6_awaitFor : Cond.instanceMethod yX6_awaitFor ∈ pm_ws ∧ Cond.selects yX6_awaitFor.cls yX6_awaitFor yX6_awaitFor ∈ pm_ws := ⟨pm_ws_of (List.mem_append_right _ (List.mem_of_getElem? (i := 599) (by decide +kernel))) rfl, pm_ws_of (List.mem_append_left _ (List.mem_of_getElem? (i := 21) (by decide +kernel))) rfl⟩
theorem pm_v_X0_pointToFirst : Cond.instanceMethod yX0_pointToFirst ∈ pm_ws ∧ Cond.selects yX0_pointToFirst.cls yX0_pointToFirst yX0_pointToFirst ∈ pm_ws := ⟨pm_ws_of (List.mem_append_right _ (List.mem_of_getElem? (i := 602) (by decide +kernel))) rfl, pm_ws_of (List.mem_append_right _ (List.mem_of_getElem? (i := 603) (by decide +kernel))) rfl⟩
theorem pm_v_X6_link : Cond.instanceMethod yX6_link ∈ pm_ws ∧ Cond.selects yX6_link.cls yX6_link yX6_link ∈ pm_ws := ⟨pm_ws_of (List.mem_append_right _ (List.mem_of_getElem? (i := 607) (by decide +kernel))) rfl, pm_ws_of (List.mem_append_left _ (List.mem_of_getElem? (i := 22) (by decide +kernel))) rfl⟩
theorem pm_v_X6_getExit : Cond.instanceMethod yX6_getExit ∈ pm_ws ∧ Cond.selects yX6_getExit.cls yX6_getExit yX6_getExit ∈ pm_ws := ⟨pm_ws_of (List.mem_append_right _ (List.mem_of_getElem? (i := 611) (by decide +kernel))) rfl, pm_ws_of (List.mem_append_left _ (List.mem_of_getElem? (i := 23) (by decide +kernel))) rfl⟩
theorem pm_v_X3_isAtom : Cond.instanceMethod yX3_isAtom ∈ pm_ws ∧ Cond.selects yX3_isAtom.cls yX3_isAtom yX3_isAtom ∈ pm_ws := ⟨pm_ws_of (List.mem_append_right _ (List.mem_of_getElem? (i := 614) (by decide +kernel))) rfl, pm_ws_of (List.mem_append_right _ (List.mem_of_getElem? (i := 615) (by decide +kernel))) rfl⟩
theorem pm_v_X3_setExit : Cond.instanceMethod yX3_setExit ∈ pm_ws ∧ Cond.selects yX3_setExit.cls yX3_setExit yX3_setExit ∈ pm_ws := ⟨pm_ws_of (List.mem_append_right _ (List.mem_of_getElem? (i := 618) (by decide +kernel))) rfl, pm_ws_of (List.mem_append_right _ (List.mem_of_getElem? (i := 619) (by decide +kernel))) rfl⟩
theorem pm_v_X3_addPairSign : Cond.instanceMethod yX3_addPairSign ∈ pm_ws ∧ Cond.selects yX3_addPairSign.cls yX3_addPairSign yX3_addPairSign ∈ pm_ws := ⟨pm_ws_of (List.mem_append_right _ (List.mem_of_getElem? (i := 623) (by decide +kernel))) rfl, pm_ws_of (List.mem_append_left _ (List.mem_of_getElem? (i := 24) (by decide +kernel))) rfl⟩
theorem pm_v_X3_addReason : Cond.instanceMethod yX3_addReason ∈ pm_ws ∧ Cond.selects yX3_addReason.cls yX3_addReason yX3_addReason ∈ pm_ws := ⟨pm_ws_of (List.mem_append_right _ (List.mem_of_getElem? (i := 627) (by decide +kernel))) rfl, pm_ws_of (List.mem_append_left _ (List.mem_of_getElem? (i := 25) (by decide +kernel))) rfl⟩
theorem pm_s_X6_unlink : Cond.static yX6_unlink ∈ pm_ws := pm_ws_of (List.mem_append_right _ (List.mem_of_getElem? (i := 630) (by decide +kernel))) rfl
theorem pm_v_X1_unlinkFrom : Cond.instanceMethod yX1_unlinkFrom ∈ pm_ws ∧ Cond.selects yX1_unlinkFrom.cls yX1_unlinkFrom yX1_unlinkFrom ∈ pm_ws := ⟨pm_ws_of (List.mem_append_right _ (List.mem_of_getElem? (i := 633) (by decide +kernel))) rfl, pm_ws_of (List.mem_append_right _ (List.mem_of_getElem? (i := 634) (by decide +kernel))) rfl⟩
theorem pm_v_X6_watch : Cond.instanceMethod yX6_watch ∈ pm_ws ∧ Cond.selects yX6_watch.cls yX6_watch yX6_watch ∈ pm_ws := ⟨pm_ws_of (List.mem_append_right _ (List.mem_of_getElem? (i := 639) (by decide +kernel))) rfl, pm_ws_of (List.mem_append_left _ (List.mem_of_getElem? (i := 26) (by decide +kernel))) rfl⟩
theorem pm_v_X5_isFull : Cond.instanceMethod yX5_isFull ∈ pm_ws ∧ Cond.selects yX5_isFull.cls yX5_isFull yX5_isFull ∈ pm_ws := ⟨pm_ws_of (List.mem_append_right _ (List.mem_of_getElem? (i := 642) (by decide +kernel))) rfl, pm_ws_of (List.mem_append_right _ (List.mem_of_getElem? (i := 643) (by decide +kernel))) rfl⟩
theorem pm_v_X5_nextNumber : Cond.instanceMethod yX5_nextNumber ∈ pm_ws ∧ Cond.selects yX5_nextNumber.cls yX5_nextNumber yX5_nextNumber ∈ pm_ws := ⟨pm_ws_of (List.mem_append_right _ (List.mem_of_getElem? (i := 646) (by decide +kernel))) rfl, pm_ws_of (List.mem_append_right _ (List.mem_of_getElem? (i := 647) (by decide +kernel))) rfl⟩
theorem pm_v_X3_setDown : Cond.instanceMethod yX3_setDown ∈ pm_ws ∧ Cond.selects yX3_setDown.cls yX3_setDown yX3_setDown ∈ pm_ws := ⟨pm_ws_of (List.mem_append_right _ (List.mem_of_getElem? (i := 650) (by decide +kernel))) rfl, pm_ws_of (List.mem_append_right _ (List.mem_of_getElem? (i := 651) (by decide +kernel))) rfl⟩
theorem pm_v_X5_add : Cond.instanceMethod yX5_add ∈ pm_ws ∧ Cond.selects yX5_add.cls yX5_add yX5_add ∈ pm_ws := ⟨pm_ws_of (List.mem_append_right _ (List.mem_of_getElem? (i := 654) (by decide +kernel))) rfl, pm_ws_of (List.mem_append_right _ (List.mem_of_getElem? (i := 655) (by decide +kernel))) rfl⟩
theorem pm_v_X6_exit : Cond.instanceMethod yX6_exit ∈ pm_ws ∧ Cond.selects yX6_exit.cls yX6_exit yX6_exit ∈ pm_ws := ⟨pm_ws_of (List.mem_append_right _ (List.mem_of_getElem? (i := 660) (by decide +kernel))) rfl, pm_ws_of (List.mem_append_left _ (List.mem_of_getElem? (i := 27) (by decide +kernel))) rfl⟩
theorem pm_s_X6_trap : Cond.static yX6_trap ∈ pm_ws := pm_ws_of (List.mem_append_right _ (List.mem_of_getElem? (i := 663) (by decide +kernel))) rfl
theorem pm_v_X6_takeName : Cond.instanceMethod yX6_takeName ∈ pm_ws ∧ Cond.selects yX6_takeName.cls yX6_takeName yX6_takeName ∈ pm_ws := ⟨pm_ws_of (List.mem_append_right _ (List.mem_of_getElem? (i := 667) (by decide +kernel))) rfl, pm_ws_of (List.mem_append_left _ (List.mem_of_getElem? (i := 28) (by decide +kernel))) rfl⟩
theorem pm_s_X6_lookUp : Cond.static yX6_lookUp ∈ pm_ws := pm_ws_of (List.mem_append_right _ (List.mem_of_getElem? (i := 670) (by decide +kernel))) rfl
theorem pm_v_X6_print : Cond.instanceMethod yX6_print ∈ pm_ws ∧ Cond.selects yX6_print.cls yX6_print yX6_print ∈ pm_ws := ⟨pm_ws_of (List.mem_append_right _ (List.mem_of_getElem? (i := 674) (by decide +kernel))) rfl, pm_ws_of (List.mem_append_left _ (List.mem_of_getElem? (i := 29) (by decide +kernel))) rfl⟩
theorem pm_v_X2_print : Cond.instanceMethod yX2_print ∈ pm_ws ∧ Cond.selects yX2_print.cls yX2_print yX2_print ∈ pm_ws := ⟨pm_ws_of (List.mem_append_right _ (List.mem_of_getElem? (i := 677) (by decide +kernel))) rfl, pm_ws_of (List.mem_append_right _ (List.mem_of_getElem? (i := 678) (by decide +kernel))) rfl⟩
theorem pm_v_X6_spreadDeaths : Cond.instanceMethod yX6_spreadDeaths ∈ pm_ws ∧ Cond.selects yX6_spreadDeaths.cls yX6_spreadDeaths yX6_spreadDeaths ∈ pm_ws := ⟨pm_ws_of (List.mem_append_right _ (List.mem_of_getElem? (i := 682) (by decide +kernel))) rfl, pm_ws_of (List.mem_append_left _ (List.mem_of_getElem? (i := 30) (by decide +kernel))) rfl⟩
theorem pm_v_X6_tellLinked : Cond.instanceMethod yX6_tellLinked ∈ pm_ws ∧ Cond.selects yX6_tellLinked.cls yX6_tellLinked yX6_tellLinked ∈ pm_ws := ⟨pm_ws_of (List.mem_append_right _ (List.mem_of_getElem? (i := 686) (by decide +kernel))) rfl, pm_ws_of (List.mem_append_left _ (List.mem_of_getElem? (i := 31) (by decide +kernel))) rfl⟩
theorem pm_v_X1_isLinkedWith : Cond.instanceMethod yX1_isLinkedWith ∈ pm_ws ∧ Cond.selects yX1_isLinkedWith.cls yX1_isLinkedWith yX1_isLinkedWith ∈ pm_ws := ⟨pm_ws_of (List.mem_append_right _ (List.mem_of_getElem? (i := 689) (by decide +kernel))) rfl, pm_ws_of (List.mem_append_right _ (List.mem_of_getElem? (i := 690) (by decide +kernel))) rfl⟩
theorem pm_v_X6_tellWatchers : Cond.instanceMethod yX6_tellWatchers ∈ pm_ws ∧ Cond.selects yX6_tellWatchers.cls yX6_tellWatchers yX6_tellWatchers ∈ pm_ws := ⟨pm_ws_of (List.mem_append_right _ (List.mem_of_getElem? (i := 694) (by decide +kernel))) rfl, pm_ws_of (List.mem_append_left _ (List.mem_of_getElem? (i := 32) (by decide +kernel))) rfl⟩
theorem pm_v_X5_dropThoseOf : Cond.instanceMethod yX5_dropThoseOf ∈ pm_ws ∧ Cond.selects yX5_dropThoseOf.cls yX5_dropThoseOf yX5_dropThoseOf ∈ pm_ws := ⟨pm_ws_of (List.mem_append_right _ (List.mem_of_getElem? (i := 697) (by decide +kernel))) rfl, pm_ws_of (List.mem_append_right _ (List.mem_of_getElem? (i := 698) (by decide +kernel))) rfl⟩
theorem pm_v_X6_pass : Cond.instanceMethod yX6_pass ∈ pm_ws ∧ Cond.selects yX6_pass.cls yX6_pass yX6_pass ∈ pm_ws := ⟨pm_ws_of (List.mem_append_right _ (List.mem_of_getElem? (i := 704) (by decide +kernel))) rfl, pm_ws_of (List.mem_append_right _ (List.mem_of_getElem? (i := 705) (by decide +kernel))) rfl⟩
theorem pm_v_X6_firstDue : Cond.instanceMethod yX6_firstDue ∈ pm_ws ∧ Cond.selects yX6_firstDue.cls yX6_firstDue yX6_firstDue ∈ pm_ws := ⟨pm_ws_of (List.mem_append_right _ (List.mem_of_getElem? (i := 709) (by decide +kernel))) rfl, pm_ws_of (List.mem_append_left _ (List.mem_of_getElem? (i := 33) (by decide +kernel))) rfl⟩
theorem pm_v_X6_process : Cond.instanceMethod yX6_process ∈ pm_ws ∧ Cond.selects yX6_process.cls yX6_process yX6_process ∈ pm_ws := ⟨pm_ws_of (List.mem_append_right _ (List.mem_of_getElem? (i := 715) (by decide +kernel))) rfl, pm_ws_of (List.mem_append_right _ (List.mem_of_getElem? (i := 716) (by decide +kernel))) rfl⟩
theorem pm_v_X1_fact : Cond.instanceMethod yX1_fact ∈ pm_ws ∧ Cond.selects yX1_fact.cls yX1_fact yX1_fact ∈ pm_ws := ⟨pm_ws_of (List.mem_append_right _ (List.mem_of_getElem? (i := 719) (by decide +kernel))) rfl, pm_ws_of (List.mem_append_right _ (List.mem_of_getElem? (i := 720) (by decide +kernel))) rfl⟩
theorem pm_s_J13_bitCount_95d88 : Cond.static yJ13_bitCount_95d88 ∈ pm_ws := pm_ws_of (List.mem_append_right _ (List.mem_of_getElem? (i := 723) (by decide +kernel))) rfl
theorem pm_v_X6_register : Cond.instanceMethod yX6_register ∈ pm_ws ∧ Cond.selects yX6_register.cls yX6_register yX6_register ∈ pm_ws := ⟨pm_ws_of (List.mem_append_right _ (List.mem_of_getElem? (i := 732) (by decide +kernel))) rfl, pm_ws_of (List.mem_append_right _ (List.mem_of_getElem? (i := 733) (by decide +kernel))) rfl⟩
theorem pm_v_X3_numberAt : Cond.instanceMethod yX3_numberAt ∈ pm_ws ∧ Cond.selects yX3_numberAt.cls yX3_numberAt yX3_numberAt ∈ pm_ws := ⟨pm_ws_of (List.mem_append_right _ (List.mem_of_getElem? (i := 736) (by decide +kernel))) rfl, pm_ws_of (List.mem_append_right _ (List.mem_of_getElem? (i := 737) (by decide +kernel))) rfl⟩
theorem pm_v_X6_message : Cond.instanceMethod yX6_message ∈ pm_ws ∧ Cond.selects yX6_message.cls yX6_message yX6_message ∈ pm_ws := ⟨pm_ws_of (List.mem_append_right _ (List.mem_of_getElem? (i := 743) (by decide +kernel))) rfl, pm_ws_of (List.mem_append_right _ (List.mem_of_getElem? (i := 744) (by decide +kernel))) rfl⟩
theorem pm_v_X6_total : Cond.instanceMethod yX6_total ∈ pm_ws ∧ Cond.selects yX6_total.cls yX6_total yX6_total ∈ pm_ws := ⟨pm_ws_of (List.mem_append_right _ (List.mem_of_getElem? (i := 751) (by decide +kernel))) rfl, pm_ws_of (List.mem_append_right _ (List.mem_of_getElem? (i := 752) (by decide +kernel))) rfl⟩
theorem pm_v_X6_readyOnes : Cond.instanceMethod yX6_readyOnes ∈ pm_ws ∧ Cond.selects yX6_readyOnes.cls yX6_readyOnes yX6_readyOnes ∈ pm_ws := ⟨pm_ws_of (List.mem_append_right _ (List.mem_of_getElem? (i := 756) (by decide +kernel))) rfl, pm_ws_of (List.mem_append_left _ (List.mem_of_getElem? (i := 34) (by decide +kernel))) rfl⟩
theorem pm_i_X7_init : Cond.instanceMethod yX7_init ∈ pm_ws := pm_ws_of (List.mem_append_right _ (List.mem_of_getElem? (i := 761) (by decide +kernel))) rfl
theorem pm_v_X7_thrown : Cond.instanceMethod yX7_thrown ∈ pm_ws ∧ Cond.selects yX7_thrown.cls yX7_thrown yX7_thrown ∈ pm_ws := ⟨pm_ws_of (List.mem_append_right _ (List.mem_of_getElem? (i := 891) (by decide +kernel))) rfl, pm_ws_of (List.mem_append_right _ (List.mem_of_getElem? (i := 892) (by decide +kernel))) rfl⟩
theorem pm_v_X7_word : Cond.instanceMethod yX7_word ∈ pm_ws ∧ Cond.selects yX7_word.cls yX7_word yX7_word ∈ pm_ws := ⟨pm_ws_of (List.mem_append_right _ (List.mem_of_getElem? (i := 895) (by decide +kernel))) rfl, pm_ws_of (List.mem_append_right _ (List.mem_of_getElem? (i := 896) (by decide +kernel))) rfl⟩
theorem pm_s_X7_within : Cond.static yX7_within ∈ pm_ws := pm_ws_of (List.mem_append_right _ (List.mem_of_getElem? (i := 899) (by decide +kernel))) rfl
theorem pm_v_X7_fails : Cond.instanceMethod yX7_fails ∈ pm_ws ∧ Cond.selects yX7_fails.cls yX7_fails yX7_fails ∈ pm_ws := ⟨pm_ws_of (List.mem_append_right _ (List.mem_of_getElem? (i := 903) (by decide +kernel))) rfl, pm_ws_of (List.mem_append_left _ (List.mem_of_getElem? (i := 35) (by decide +kernel))) rfl⟩
theorem pm_v_X7_start : Cond.instanceMethod yX7_start ∈ pm_ws ∧ Cond.selects yX7_start.cls yX7_start yX7_start ∈ pm_ws := ⟨pm_ws_of (List.mem_append_right _ (List.mem_of_getElem? (i := 906) (by decide +kernel))) rfl, pm_ws_of (List.mem_append_right _ (List.mem_of_getElem? (i := 907) (by decide +kernel))) rfl⟩
theorem pm_v_X7_create : Cond.instanceMethod yX7_create ∈ pm_ws ∧ Cond.selects yX7_create.cls yX7_create yX7_create ∈ pm_ws := ⟨pm_ws_of (List.mem_append_right _ (List.mem_of_getElem? (i := 911) (by decide +kernel))) rfl, pm_ws_of (List.mem_append_left _ (List.mem_of_getElem? (i := 36) (by decide +kernel))) rfl⟩
theorem pm_v_X7_set : Cond.instanceMethod yX7_set ∈ pm_ws ∧ Cond.selects yX7_set.cls yX7_set yX7_set ∈ pm_ws := ⟨pm_ws_of (List.mem_append_right _ (List.mem_of_getElem? (i := 915) (by decide +kernel))) rfl, pm_ws_of (List.mem_append_left _ (List.mem_of_getElem? (i := 37) (by decide +kernel))) rfl⟩
theorem pm_v_X7_becomesReady : Cond.instanceMethod yX7_becomesReady ∈ pm_ws ∧ Cond.selects yX7_becomesReady.cls yX7_becomesReady yX7_becomesReady ∈ pm_ws := ⟨pm_ws_of (List.mem_append_right _ (List.mem_of_getElem? (i := 919) (by decide +kernel))) rfl, pm_ws_of (List.mem_append_left _ (List.mem_of_getElem? (i := 38) (by decide +kernel))) rfl⟩
theorem pm_v_X7_send : Cond.instanceMethod yX7_send ∈ pm_ws ∧ Cond.selects yX7_send.cls yX7_send yX7_send ∈ pm_ws := ⟨pm_ws_of (List.mem_append_right _ (List.mem_of_getElem? (i := 922) (by decide +kernel))) rfl, pm_ws_of (List.mem_append_right _ (List.mem_of_getElem? (i := 923) (by decide +kernel))) rfl⟩
theorem pm_v_X7_isProcess : Cond.instanceMethod yX7_isProcess ∈ pm_ws ∧ Cond.selects yX7_isProcess.cls yX7_isProcess yX7_isProcess ∈ pm_ws := ⟨pm_ws_of (List.mem_append_right _ (List.mem_of_getElem? (i := 927) (by decide +kernel))) rfl, pm_ws_of (List.mem_append_left _ (List.mem_of_getElem? (i := 39) (by decide +kernel))) rfl⟩
theorem pm_v_X7_comes : Cond.instanceMethod yX7_comes ∈ pm_ws ∧ Cond.selects yX7_comes.cls yX7_comes yX7_comes ∈ pm_ws := ⟨pm_ws_of (List.mem_append_right _ (List.mem_of_getElem? (i := 931) (by decide +kernel))) rfl, pm_ws_of (List.mem_append_left _ (List.mem_of_getElem? (i := 40) (by decide +kernel))) rfl⟩
theorem pm_v_X7_copy : Cond.instanceMethod yX7_copy ∈ pm_ws ∧ Cond.selects yX7_copy.cls yX7_copy yX7_copy ∈ pm_ws := ⟨pm_ws_of (List.mem_append_right _ (List.mem_of_getElem? (i := 935) (by decide +kernel))) rfl, pm_ws_of (List.mem_append_left _ (List.mem_of_getElem? (i := 41) (by decide +kernel))) rfl⟩
theorem pm_v_X7_run : Cond.instanceMethod yX7_run ∈ pm_ws ∧ Cond.selects yX7_run.cls yX7_run yX7_run ∈ pm_ws := ⟨pm_ws_of (List.mem_append_right _ (List.mem_of_getElem? (i := 938) (by decide +kernel))) rfl, pm_ws_of (List.mem_append_right _ (List.mem_of_getElem? (i := 939) (by decide +kernel))) rfl⟩
theorem pm_v_X7_nextReady : Cond.instanceMethod yX7_nextReady ∈ pm_ws ∧ Cond.selects yX7_nextReady.cls yX7_nextReady yX7_nextReady ∈ pm_ws := ⟨pm_ws_of (List.mem_append_right _ (List.mem_of_getElem? (i := 943) (by decide +kernel))) rfl, pm_ws_of (List.mem_append_left _ (List.mem_of_getElem? (i := 42) (by decide +kernel))) rfl⟩
theorem pm_v_X7_step : Cond.instanceMethod yX7_step ∈ pm_ws ∧ Cond.selects yX7_step.cls yX7_step yX7_step ∈ pm_ws := ⟨pm_ws_of (List.mem_append_right _ (List.mem_of_getElem? (i := 947) (by decide +kernel))) rfl, pm_ws_of (List.mem_append_left _ (List.mem_of_getElem? (i := 43) (by decide +kernel))) rfl⟩
theorem pm_s_X7_registerOf : Cond.static yX7_registerOf ∈ pm_ws := pm_ws_of (List.mem_append_right _ (List.mem_of_getElem? (i := 950) (by decide +kernel))) rfl
theorem pm_s_X7_mod : Cond.static yX7_mod ∈ pm_ws := pm_ws_of (List.mem_append_right _ (List.mem_of_getElem? (i := 953) (by decide +kernel))) rfl
theorem pm_v_X7_simple : Cond.instanceMethod yX7_simple ∈ pm_ws ∧ Cond.selects yX7_simple.cls yX7_simple yX7_simple ∈ pm_ws := ⟨pm_ws_of (List.mem_append_right _ (List.mem_of_getElem? (i := 957) (by decide +kernel))) rfl, pm_ws_of (List.mem_append_left _ (List.mem_of_getElem? (i := 44) (by decide +kernel))) rfl⟩
theorem pm_v_X7_endsBy : Cond.instanceMethod yX7_endsBy ∈ pm_ws ∧ Cond.selects yX7_endsBy.cls yX7_endsBy yX7_endsBy ∈ pm_ws := ⟨pm_ws_of (List.mem_append_right _ (List.mem_of_getElem? (i := 961) (by decide +kernel))) rfl, pm_ws_of (List.mem_append_left _ (List.mem_of_getElem? (i := 45) (by decide +kernel))) rfl⟩
theorem pm_v_X7_dies : Cond.instanceMethod yX7_dies ∈ pm_ws ∧ Cond.selects yX7_dies.cls yX7_dies yX7_dies ∈ pm_ws := ⟨pm_ws_of (List.mem_append_right _ (List.mem_of_getElem? (i := 965) (by decide +kernel))) rfl, pm_ws_of (List.mem_append_left _ (List.mem_of_getElem? (i := 46) (by decide +kernel))) rfl⟩
theorem pm_v_X7_dropWatch : Cond.instanceMethod yX7_dropWatch ∈ pm_ws ∧ Cond.selects yX7_dropWatch.cls yX7_dropWatch yX7_dropWatch ∈ pm_ws := ⟨pm_ws_of (List.mem_append_right _ (List.mem_of_getElem? (i := 969) (by decide +kernel))) rfl, pm_ws_of (List.mem_append_left _ (List.mem_of_getElem? (i := 47) (by decide +kernel))) rfl⟩
theorem pm_v_X7_reckons : Cond.instanceMethod yX7_reckons ∈ pm_ws ∧ Cond.selects yX7_reckons.cls yX7_reckons yX7_reckons ∈ pm_ws := ⟨pm_ws_of (List.mem_append_right _ (List.mem_of_getElem? (i := 973) (by decide +kernel))) rfl, pm_ws_of (List.mem_append_left _ (List.mem_of_getElem? (i := 48) (by decide +kernel))) rfl⟩
theorem pm_v_X7_is : Cond.instanceMethod yX7_is ∈ pm_ws ∧ Cond.selects yX7_is.cls yX7_is yX7_is ∈ pm_ws := ⟨pm_ws_of (List.mem_append_right _ (List.mem_of_getElem? (i := 977) (by decide +kernel))) rfl, pm_ws_of (List.mem_append_left _ (List.mem_of_getElem? (i := 49) (by decide +kernel))) rfl⟩
theorem pm_v_X7_kindOf : Cond.instanceMethod yX7_kindOf ∈ pm_ws ∧ Cond.selects yX7_kindOf.cls yX7_kindOf yX7_kindOf ∈ pm_ws := ⟨pm_ws_of (List.mem_append_right _ (List.mem_of_getElem? (i := 981) (by decide +kernel))) rfl, pm_ws_of (List.mem_append_left _ (List.mem_of_getElem? (i := 50) (by decide +kernel))) rfl⟩
theorem pm_v_X7_bad : Cond.instanceMethod yX7_bad ∈ pm_ws ∧ Cond.selects yX7_bad.cls yX7_bad yX7_bad ∈ pm_ws := ⟨pm_ws_of (List.mem_append_right _ (List.mem_of_getElem? (i := 985) (by decide +kernel))) rfl, pm_ws_of (List.mem_append_left _ (List.mem_of_getElem? (i := 51) (by decide +kernel))) rfl⟩
theorem pm_v_X7_failsWith : Cond.instanceMethod yX7_failsWith ∈ pm_ws ∧ Cond.selects yX7_failsWith.cls yX7_failsWith yX7_failsWith ∈ pm_ws := ⟨pm_ws_of (List.mem_append_right _ (List.mem_of_getElem? (i := 989) (by decide +kernel))) rfl, pm_ws_of (List.mem_append_left _ (List.mem_of_getElem? (i := 52) (by decide +kernel))) rfl⟩
theorem pm_v_X7_failsOf : Cond.instanceMethod yX7_failsOf ∈ pm_ws ∧ Cond.selects yX7_failsOf.cls yX7_failsOf yX7_failsOf ∈ pm_ws := ⟨pm_ws_of (List.mem_append_right _ (List.mem_of_getElem? (i := 993) (by decide +kernel))) rfl, pm_ws_of (List.mem_append_left _ (List.mem_of_getElem? (i := 53) (by decide +kernel))) rfl⟩
theorem pm_v_X7_valueOf : Cond.instanceMethod yX7_valueOf ∈ pm_ws ∧ Cond.selects yX7_valueOf.cls yX7_valueOf yX7_valueOf ∈ pm_ws := ⟨pm_ws_of (List.mem_append_right _ (List.mem_of_getElem? (i := 997) (by decide +kernel))) rfl, pm_ws_of (List.mem_append_left _ (List.mem_of_getElem? (i := 54) (by decide +kernel))) rfl⟩
theorem pm_v_X7_ends : Cond.instanceMethod yX7_ends ∈ pm_ws ∧ Cond.selects yX7_ends.cls yX7_ends yX7_ends ∈ pm_ws := ⟨pm_ws_of (List.mem_append_right _ (List.mem_of_getElem? (i := 1001) (by decide +kernel))) rfl, pm_ws_of (List.mem_append_left _ (List.mem_of_getElem? (i := 55) (by decide +kernel))) rfl⟩
theorem pm_v_X7_pair : Cond.instanceMethod yX7_pair ∈ pm_ws ∧ Cond.selects yX7_pair.cls yX7_pair yX7_pair ∈ pm_ws := ⟨pm_ws_of (List.mem_append_right _ (List.mem_of_getElem? (i := 1005) (by decide +kernel))) rfl, pm_ws_of (List.mem_append_left _ (List.mem_of_getElem? (i := 56) (by decide +kernel))) rfl⟩
theorem pm_v_X7_behind : Cond.instanceMethod yX7_behind ∈ pm_ws ∧ Cond.selects yX7_behind.cls yX7_behind yX7_behind ∈ pm_ws := ⟨pm_ws_of (List.mem_append_right _ (List.mem_of_getElem? (i := 1009) (by decide +kernel))) rfl, pm_ws_of (List.mem_append_left _ (List.mem_of_getElem? (i := 57) (by decide +kernel))) rfl⟩
theorem pm_v_X7_part : Cond.instanceMethod yX7_part ∈ pm_ws ∧ Cond.selects yX7_part.cls yX7_part yX7_part ∈ pm_ws := ⟨pm_ws_of (List.mem_append_right _ (List.mem_of_getElem? (i := 1013) (by decide +kernel))) rfl, pm_ws_of (List.mem_append_left _ (List.mem_of_getElem? (i := 58) (by decide +kernel))) rfl⟩
theorem pm_v_X7_compare : Cond.instanceMethod yX7_compare ∈ pm_ws ∧ Cond.selects yX7_compare.cls yX7_compare yX7_compare ∈ pm_ws := ⟨pm_ws_of (List.mem_append_right _ (List.mem_of_getElem? (i := 1017) (by decide +kernel))) rfl, pm_ws_of (List.mem_append_left _ (List.mem_of_getElem? (i := 59) (by decide +kernel))) rfl⟩
theorem pm_v_X7_calls : Cond.instanceMethod yX7_calls ∈ pm_ws ∧ Cond.selects yX7_calls.cls yX7_calls yX7_calls ∈ pm_ws := ⟨pm_ws_of (List.mem_append_right _ (List.mem_of_getElem? (i := 1021) (by decide +kernel))) rfl, pm_ws_of (List.mem_append_left _ (List.mem_of_getElem? (i := 60) (by decide +kernel))) rfl⟩
theorem pm_v_X7_link : Cond.instanceMethod yX7_link ∈ pm_ws ∧ Cond.selects yX7_link.cls yX7_link yX7_link ∈ pm_ws := ⟨pm_ws_of (List.mem_append_right _ (List.mem_of_getElem? (i := 1025) (by decide +kernel))) rfl, pm_ws_of (List.mem_append_left _ (List.mem_of_getElem? (i := 61) (by decide +kernel))) rfl⟩
theorem pm_v_X7_mails : Cond.instanceMethod yX7_mails ∈ pm_ws ∧ Cond.selects yX7_mails.cls yX7_mails yX7_mails ∈ pm_ws := ⟨pm_ws_of (List.mem_append_right _ (List.mem_of_getElem? (i := 1029) (by decide +kernel))) rfl, pm_ws_of (List.mem_append_left _ (List.mem_of_getElem? (i := 62) (by decide +kernel))) rfl⟩
theorem pm_v_X7_withName : Cond.instanceMethod yX7_withName ∈ pm_ws ∧ Cond.selects yX7_withName.cls yX7_withName yX7_withName ∈ pm_ws := ⟨pm_ws_of (List.mem_append_right _ (List.mem_of_getElem? (i := 1033) (by decide +kernel))) rfl, pm_ws_of (List.mem_append_left _ (List.mem_of_getElem? (i := 63) (by decide +kernel))) rfl⟩
theorem pm_v_X7_waits : Cond.instanceMethod yX7_waits ∈ pm_ws ∧ Cond.selects yX7_waits.cls yX7_waits yX7_waits ∈ pm_ws := ⟨pm_ws_of (List.mem_append_right _ (List.mem_of_getElem? (i := 1037) (by decide +kernel))) rfl, pm_ws_of (List.mem_append_left _ (List.mem_of_getElem? (i := 64) (by decide +kernel))) rfl⟩
theorem pm_v_X7_others : Cond.instanceMethod yX7_others ∈ pm_ws ∧ Cond.selects yX7_others.cls yX7_others yX7_others ∈ pm_ws := ⟨pm_ws_of (List.mem_append_right _ (List.mem_of_getElem? (i := 1043) (by decide +kernel))) rfl, pm_ws_of (List.mem_append_left _ (List.mem_of_getElem? (i := 65) (by decide +kernel))) rfl⟩
theorem pm_v_X7_exit : Cond.instanceMethod yX7_exit ∈ pm_ws ∧ Cond.selects yX7_exit.cls yX7_exit yX7_exit ∈ pm_ws := ⟨pm_ws_of (List.mem_append_right _ (List.mem_of_getElem? (i := 1047) (by decide +kernel))) rfl, pm_ws_of (List.mem_append_left _ (List.mem_of_getElem? (i := 66) (by decide +kernel))) rfl⟩
theorem pm_v_X7_isAtom : Cond.instanceMethod yX7_isAtom ∈ pm_ws ∧ Cond.selects yX7_isAtom.cls yX7_isAtom yX7_isAtom ∈ pm_ws := ⟨pm_ws_of (List.mem_append_right _ (List.mem_of_getElem? (i := 1051) (by decide +kernel))) rfl, pm_ws_of (List.mem_append_left _ (List.mem_of_getElem? (i := 67) (by decide +kernel))) rfl⟩
theorem pm_v_X7_tells : Cond.instanceMethod yX7_tells ∈ pm_ws ∧ Cond.selects yX7_tells.cls yX7_tells yX7_tells ∈ pm_ws := ⟨pm_ws_of (List.mem_append_right _ (List.mem_of_getElem? (i := 1055) (by decide +kernel))) rfl, pm_ws_of (List.mem_append_left _ (List.mem_of_getElem? (i := 68) (by decide +kernel))) rfl⟩
theorem pm_v_X7_tellsDown : Cond.instanceMethod yX7_tellsDown ∈ pm_ws ∧ Cond.selects yX7_tellsDown.cls yX7_tellsDown yX7_tellsDown ∈ pm_ws := ⟨pm_ws_of (List.mem_append_right _ (List.mem_of_getElem? (i := 1059) (by decide +kernel))) rfl, pm_ws_of (List.mem_append_left _ (List.mem_of_getElem? (i := 69) (by decide +kernel))) rfl⟩
theorem pm_v_X7_spread : Cond.instanceMethod yX7_spread ∈ pm_ws ∧ Cond.selects yX7_spread.cls yX7_spread yX7_spread ∈ pm_ws := ⟨pm_ws_of (List.mem_append_right _ (List.mem_of_getElem? (i := 1063) (by decide +kernel))) rfl, pm_ws_of (List.mem_append_left _ (List.mem_of_getElem? (i := 70) (by decide +kernel))) rfl⟩
theorem pm_v_X7_pass : Cond.instanceMethod yX7_pass ∈ pm_ws ∧ Cond.selects yX7_pass.cls yX7_pass yX7_pass ∈ pm_ws := ⟨pm_ws_of (List.mem_append_right _ (List.mem_of_getElem? (i := 1066) (by decide +kernel))) rfl, pm_ws_of (List.mem_append_right _ (List.mem_of_getElem? (i := 1067) (by decide +kernel))) rfl⟩
theorem pm_v_X7_out : Cond.instanceMethod yX7_out ∈ pm_ws ∧ Cond.selects yX7_out.cls yX7_out yX7_out ∈ pm_ws := ⟨pm_ws_of (List.mem_append_right _ (List.mem_of_getElem? (i := 1070) (by decide +kernel))) rfl, pm_ws_of (List.mem_append_right _ (List.mem_of_getElem? (i := 1071) (by decide +kernel))) rfl⟩
theorem pm_v_X7_process : Cond.instanceMethod yX7_process ∈ pm_ws ∧ Cond.selects yX7_process.cls yX7_process yX7_process ∈ pm_ws := ⟨pm_ws_of (List.mem_append_right _ (List.mem_of_getElem? (i := 1074) (by decide +kernel))) rfl, pm_ws_of (List.mem_append_right _ (List.mem_of_getElem? (i := 1075) (by decide +kernel))) rfl⟩
theorem pm_v_X7_register : Cond.instanceMethod yX7_register ∈ pm_ws ∧ Cond.selects yX7_register.cls yX7_register yX7_register ∈ pm_ws := ⟨pm_ws_of (List.mem_append_right _ (List.mem_of_getElem? (i := 1078) (by decide +kernel))) rfl, pm_ws_of (List.mem_append_right _ (List.mem_of_getElem? (i := 1079) (by decide +kernel))) rfl⟩
theorem pm_v_X7_numberOf : Cond.instanceMethod yX7_numberOf ∈ pm_ws ∧ Cond.selects yX7_numberOf.cls yX7_numberOf yX7_numberOf ∈ pm_ws := ⟨pm_ws_of (List.mem_append_right _ (List.mem_of_getElem? (i := 1083) (by decide +kernel))) rfl, pm_ws_of (List.mem_append_left _ (List.mem_of_getElem? (i := 71) (by decide +kernel))) rfl⟩
theorem pm_v_X7_message : Cond.instanceMethod yX7_message ∈ pm_ws ∧ Cond.selects yX7_message.cls yX7_message yX7_message ∈ pm_ws := ⟨pm_ws_of (List.mem_append_right _ (List.mem_of_getElem? (i := 1086) (by decide +kernel))) rfl, pm_ws_of (List.mem_append_right _ (List.mem_of_getElem? (i := 1087) (by decide +kernel))) rfl⟩
theorem pm_v_X7_total : Cond.instanceMethod yX7_total ∈ pm_ws ∧ Cond.selects yX7_total.cls yX7_total yX7_total ∈ pm_ws := ⟨pm_ws_of (List.mem_append_right _ (List.mem_of_getElem? (i := 1090) (by decide +kernel))) rfl, pm_ws_of (List.mem_append_right _ (List.mem_of_getElem? (i := 1091) (by decide +kernel))) rfl⟩
theorem pm_oi : Cond.instanceMethod objectInit ∈ pm_ws := pm_ws_of (List.mem_append_right _ (List.mem_of_getElem? (i := 23) (by decide +kernel))) rfl
theorem pm_an : Cond.native arraycopyName ∈ pm_ws := pm_ws_of (List.mem_append_right _ (List.mem_of_getElem? (i := 402) (by decide +kernel))) rfl
theorem pm_as : Cond.static arraycopyName ∈ pm_ws := pm_ws_of (List.mem_append_right _ (List.mem_of_getElem? (i := 401) (by decide +kernel))) rfl
end
section
set_option maxRecDepth 20000 in
theorem pm_y_X6_init : pm_yb yX6_init cX6_init 1 none 0 := ⟨pm_ws_of (List.mem_append_right _ (List.mem_of_getElem? (i := 21) rfl)) rfl, pm_ii_X6, ⟨by decide +kernel, by decide +kernel⟩, by decide +kernel, by decide⟩
set_option maxRecDepth 20000 in
theorem pm_y_X5_init : pm_yb yX5_init cX5_init 1 none 0 := ⟨pm_ws_of (List.mem_append_right _ (List.mem_of_getElem? (i := 31) rfl)) rfl, pm_ii_X5, ⟨by decide +kernel, by decide +kernel⟩, by decide +kernel, by decide⟩
set_option maxRecDepth 20000 in
theorem pm_y_X2_init : pm_yb yX2_init cX2_init 1 none 0 := ⟨pm_ws_of (List.mem_append_right _ (List.mem_of_getElem? (i := 59) rfl)) rfl, pm_ii_X2, ⟨by decide +kernel, by decide +kernel⟩, by decide +kernel, by decide⟩
set_option maxRecDepth 20000 in
theorem pm_y_X3_init : pm_yb yX3_init cX3_init 1 none 0 := ⟨pm_ws_of (List.mem_append_right _ (List.mem_of_getElem? (i := 73) rfl)) rfl, pm_ii_X3, ⟨by decide +kernel, by decide +kernel⟩, by decide +kernel, by decide⟩
set_option maxRecDepth 20000 in
theorem pm_y_X6_out : pm_yb yX6_out cX6_out 2 (some .int) 1 := ⟨pm_ws_of (List.mem_append_right _ (List.mem_of_getElem? (i := 136) rfl)) rfl, pm_ii_X6, ⟨by decide +kernel, by decide +kernel⟩, by decide +kernel, by decide⟩
set_option maxRecDepth 20000 in
theorem pm_y_X2_numberAt : pm_yb yX2_numberAt cX2_numberAt 2 (some .int) 1 := ⟨pm_ws_of (List.mem_append_right _ (List.mem_of_getElem? (i := 140) rfl)) rfl, pm_ii_X2, ⟨by decide +kernel, by decide +kernel⟩, by decide +kernel, by decide⟩
set_option maxRecDepth 20000 in
theorem pm_y_J9_min_7cf53 : pm_yb yJ9_min_7cf53 cJ9_min_7cf53 2 (some .int) 2 := ⟨pm_ws_of (List.mem_append_right _ (List.mem_of_getElem? (i := 143) rfl)) rfl, pm_ii_J9, ⟨by decide +kernel, by decide +kernel⟩, by decide +kernel, by decide⟩
set_option maxRecDepth 20000 in
theorem pm_y_X6_word : pm_yb yX6_word cX6_word 7 none 5 := ⟨pm_ws_of (List.mem_append_right _ (List.mem_of_getElem? (i := 151) rfl)) rfl, pm_ii_X6, ⟨by decide +kernel, by decide +kernel⟩, by decide +kernel, by decide⟩
set_option maxRecDepth 20000 in
theorem pm_y_X6_isBelow : pm_yb yX6_isBelow cX6_isBelow 2 (some .boolean) 2 := ⟨pm_ws_of (List.mem_append_right _ (List.mem_of_getElem? (i := 154) rfl)) rfl, pm_ii_X6, ⟨by decide +kernel, by decide +kernel⟩, by decide +kernel, by decide⟩
set_option maxRecDepth 20000 in
theorem pm_y_X6_start : pm_yb yX6_start cX6_start 3 (some .int) 2 := ⟨pm_ws_of (List.mem_append_right _ (List.mem_of_getElem? (i := 224) rfl)) rfl, pm_ii_X6, ⟨by decide +kernel, by decide +kernel⟩, by decide +kernel, by decide⟩
set_option maxRecDepth 20000 in
theorem pm_y_X6_beginProcess : pm_yb yX6_beginProcess cX6_beginProcess 4 (some (.object "ProcessMill$Proc")) 2 := ⟨pm_ws_of (List.mem_append_right _ (List.mem_of_getElem? (i := 243) rfl)) rfl, pm_ii_X6, ⟨by decide +kernel, by decide +kernel⟩, by decide +kernel, by decide⟩
set_option maxRecDepth 20000 in
theorem pm_y_X1_init : pm_yb yX1_init cX1_init 4 none 2 := ⟨pm_ws_of (List.mem_append_right _ (List.mem_of_getElem? (i := 247) rfl)) rfl, pm_ii_X1, ⟨by decide +kernel, by decide +kernel⟩, by decide +kernel, by decide⟩
set_option maxRecDepth 20000 in
theorem pm_y_X0_init : pm_yb yX0_init cX0_init 1 none 0 := ⟨pm_ws_of (List.mem_append_right _ (List.mem_of_getElem? (i := 256) rfl)) rfl, pm_ii_X0, ⟨by decide +kernel, by decide +kernel⟩, by decide +kernel, by decide⟩
set_option maxRecDepth 20000 in
theorem pm_y_X4_init : pm_yb yX4_init cX4_init 1 none 0 := ⟨pm_ws_of (List.mem_append_right _ (List.mem_of_getElem? (i := 275) rfl)) rfl, pm_ii_X4, ⟨by decide +kernel, by decide +kernel⟩, by decide +kernel, by decide⟩
set_option maxRecDepth 20000 in
theorem pm_y_X6_makeReady : pm_yb yX6_makeReady cX6_makeReady 3 none 2 := ⟨pm_ws_of (List.mem_append_right _ (List.mem_of_getElem? (i := 362) rfl)) rfl, pm_ii_X6, ⟨by decide +kernel, by decide +kernel⟩, by decide +kernel, by decide⟩
set_option maxRecDepth 20000 in
theorem pm_y_X6_takeLastTurn : pm_yb yX6_takeLastTurn cX6_takeLastTurn 2 none 1 := ⟨pm_ws_of (List.mem_append_right _ (List.mem_of_getElem? (i := 367) rfl)) rfl, pm_ii_X6, ⟨by decide +kernel, by decide +kernel⟩, by decide +kernel, by decide⟩
set_option maxRecDepth 20000 in
theorem pm_y_X6_send : pm_yb yX6_send cX6_send 4 (some .boolean) 2 := ⟨pm_ws_of (List.mem_append_right _ (List.mem_of_getElem? (i := 374) rfl)) rfl, pm_ii_X6, ⟨by decide +kernel, by decide +kernel⟩, by decide +kernel, by decide⟩
set_option maxRecDepth 20000 in
theorem pm_y_X6_find : pm_yb yX6_find cX6_find 2 (some (.object "ProcessMill$Proc")) 1 := ⟨pm_ws_of (List.mem_append_right _ (List.mem_of_getElem? (i := 378) rfl)) rfl, pm_ii_X6, ⟨by decide +kernel, by decide +kernel⟩, by decide +kernel, by decide⟩
set_option maxRecDepth 20000 in
theorem pm_y_X3_setSingle : pm_yb yX3_setSingle cX3_setSingle 3 none 2 := ⟨pm_ws_of (List.mem_append_right _ (List.mem_of_getElem? (i := 382) rfl)) rfl, pm_ii_X3, ⟨by decide +kernel, by decide +kernel⟩, by decide +kernel, by decide⟩
set_option maxRecDepth 20000 in
theorem pm_y_X3_addSingle : pm_yb yX3_addSingle cX3_addSingle 3 none 2 := ⟨pm_ws_of (List.mem_append_right _ (List.mem_of_getElem? (i := 386) rfl)) rfl, pm_ii_X3, ⟨by decide +kernel, by decide +kernel⟩, by decide +kernel, by decide⟩
set_option maxRecDepth 20000 in
theorem pm_y_X6_deliver : pm_yb yX6_deliver cX6_deliver 4 (some .boolean) 2 := ⟨pm_ws_of (List.mem_append_right _ (List.mem_of_getElem? (i := 390) rfl)) rfl, pm_ii_X6, ⟨by decide +kernel, by decide +kernel⟩, by decide +kernel, by decide⟩
set_option maxRecDepth 20000 in
theorem pm_y_X0_newRow : pm_yb yX0_newRow cX0_newRow 1 (some (.object "ProcessMill$Term")) 0 := ⟨pm_ws_of (List.mem_append_right _ (List.mem_of_getElem? (i := 394) rfl)) rfl, pm_ii_X0, ⟨by decide +kernel, by decide +kernel⟩, by decide +kernel, by decide⟩
set_option maxRecDepth 20000 in
theorem pm_y_X3_copy : pm_yb yX3_copy cX3_copy 2 none 1 := ⟨pm_ws_of (List.mem_append_right _ (List.mem_of_getElem? (i := 399) rfl)) rfl, pm_ii_X3, ⟨by decide +kernel, by decide +kernel⟩, by decide +kernel, by decide⟩
set_option maxRecDepth 20000 in
theorem pm_y_X6_run : pm_yb yX6_run cX6_run 4 (some .int) 1 := ⟨pm_ws_of (List.mem_append_right _ (List.mem_of_getElem? (i := 409) rfl)) rfl, pm_ii_X6, ⟨by decide +kernel, by decide +kernel⟩, by decide +kernel, by decide⟩
set_option maxRecDepth 20000 in
theorem pm_y_X6_nextInTurn : pm_yb yX6_nextInTurn cX6_nextInTurn 5 (some (.object "ProcessMill$Proc")) 0 := ⟨pm_ws_of (List.mem_append_right _ (List.mem_of_getElem? (i := 413) rfl)) rfl, pm_ii_X6, ⟨by decide +kernel, by decide +kernel⟩, by decide +kernel, by decide⟩
set_option maxRecDepth 20000 in
theorem pm_y_X1_comesBefore : pm_yb yX1_comesBefore cX1_comesBefore 3 (some .boolean) 2 := ⟨pm_ws_of (List.mem_append_right _ (List.mem_of_getElem? (i := 417) rfl)) rfl, pm_ii_X1, ⟨by decide +kernel, by decide +kernel⟩, by decide +kernel, by decide⟩
set_option maxRecDepth 20000 in
theorem pm_y_X6_doSlice : pm_yb yX6_doSlice cX6_doSlice 5 none 1 := ⟨pm_ws_of (List.mem_append_right _ (List.mem_of_getElem? (i := 421) rfl)) rfl, pm_ii_X6, ⟨by decide +kernel, by decide +kernel⟩, by decide +kernel, by decide⟩
set_option maxRecDepth 20000 in
theorem pm_y_X6_place : pm_yb yX6_place cX6_place 1 (some .int) 1 := ⟨pm_ws_of (List.mem_append_right _ (List.mem_of_getElem? (i := 424) rfl)) rfl, pm_ii_X6, ⟨by decide +kernel, by decide +kernel⟩, by decide +kernel, by decide⟩
set_option maxRecDepth 20000 in
theorem pm_y_J9_floorMod_7cf53 : pm_yb yJ9_floorMod_7cf53 cJ9_floorMod_7cf53 3 (some .int) 2 := ⟨pm_ws_of (List.mem_append_right _ (List.mem_of_getElem? (i := 427) rfl)) rfl, pm_ii_J9, ⟨by decide +kernel, by decide +kernel⟩, by decide +kernel, by decide⟩
set_option maxRecDepth 20000 in
theorem pm_y_X6_doWord : pm_yb yX6_doWord cX6_doWord 9 (some .int) 5 := ⟨pm_ws_of (List.mem_append_right _ (List.mem_of_getElem? (i := 431) rfl)) rfl, pm_ii_X6, ⟨by decide +kernel, by decide +kernel⟩, by decide +kernel, by decide⟩
set_option maxRecDepth 20000 in
theorem pm_y_X1_x : pm_yb yX1_x cX1_x 2 (some (.object "ProcessMill$Term")) 1 := ⟨pm_ws_of (List.mem_append_right _ (List.mem_of_getElem? (i := 435) rfl)) rfl, pm_ii_X1, ⟨by decide +kernel, by decide +kernel⟩, by decide +kernel, by decide⟩
set_option maxRecDepth 20000 in
theorem pm_y_X6_end : pm_yb yX6_end cX6_end 2 (some .int) 1 := ⟨pm_ws_of (List.mem_append_right _ (List.mem_of_getElem? (i := 440) rfl)) rfl, pm_ii_X6, ⟨by decide +kernel, by decide +kernel⟩, by decide +kernel, by decide⟩
set_option maxRecDepth 20000 in
theorem pm_y_X6_die : pm_yb yX6_die cX6_die 3 none 2 := ⟨pm_ws_of (List.mem_append_right _ (List.mem_of_getElem? (i := 444) rfl)) rfl, pm_ii_X6, ⟨by decide +kernel, by decide +kernel⟩, by decide +kernel, by decide⟩
set_option maxRecDepth 20000 in
theorem pm_y_X0_clear : pm_yb yX0_clear cX0_clear 1 none 0 := ⟨pm_ws_of (List.mem_append_right _ (List.mem_of_getElem? (i := 448) rfl)) rfl, pm_ii_X0, ⟨by decide +kernel, by decide +kernel⟩, by decide +kernel, by decide⟩
set_option maxRecDepth 20000 in
theorem pm_y_X4_clear : pm_yb yX4_clear cX4_clear 1 none 0 := ⟨pm_ws_of (List.mem_append_right _ (List.mem_of_getElem? (i := 452) rfl)) rfl, pm_ii_X4, ⟨by decide +kernel, by decide +kernel⟩, by decide +kernel, by decide⟩
set_option maxRecDepth 20000 in
theorem pm_y_X5_dropMadeBy : pm_yb yX5_dropMadeBy cX5_dropMadeBy 2 none 1 := ⟨pm_ws_of (List.mem_append_right _ (List.mem_of_getElem? (i := 456) rfl)) rfl, pm_ii_X5, ⟨by decide +kernel, by decide +kernel⟩, by decide +kernel, by decide⟩
set_option maxRecDepth 20000 in
theorem pm_y_X5_dropWhere : pm_yb yX5_dropWhere cX5_dropWhere 5 none 2 := ⟨pm_ws_of (List.mem_append_right _ (List.mem_of_getElem? (i := 460) rfl)) rfl, pm_ii_X5, ⟨by decide +kernel, by decide +kernel⟩, by decide +kernel, by decide⟩
set_option maxRecDepth 20000 in
theorem pm_y_X6_give : pm_yb yX6_give cX6_give 3 (some .int) 3 := ⟨pm_ws_of (List.mem_append_right _ (List.mem_of_getElem? (i := 463) rfl)) rfl, pm_ii_X6, ⟨by decide +kernel, by decide +kernel⟩, by decide +kernel, by decide⟩
set_option maxRecDepth 20000 in
theorem pm_y_X6_giveCopy : pm_yb yX6_giveCopy cX6_giveCopy 2 (some .int) 2 := ⟨pm_ws_of (List.mem_append_right _ (List.mem_of_getElem? (i := 466) rfl)) rfl, pm_ii_X6, ⟨by decide +kernel, by decide +kernel⟩, by decide +kernel, by decide⟩
set_option maxRecDepth 20000 in
theorem pm_y_X6_areNumbers : pm_yb yX6_areNumbers cX6_areNumbers 2 (some .boolean) 2 := ⟨pm_ws_of (List.mem_append_right _ (List.mem_of_getElem? (i := 469) rfl)) rfl, pm_ii_X6, ⟨by decide +kernel, by decide +kernel⟩, by decide +kernel, by decide⟩
set_option maxRecDepth 20000 in
theorem pm_y_X3_kind : pm_yb yX3_kind cX3_kind 1 (some .int) 0 := ⟨pm_ws_of (List.mem_append_right _ (List.mem_of_getElem? (i := 473) rfl)) rfl, pm_ii_X3, ⟨by decide +kernel, by decide +kernel⟩, by decide +kernel, by decide⟩
set_option maxRecDepth 20000 in
theorem pm_y_X3_kindOf : pm_yb yX3_kindOf cX3_kindOf 1 (some .int) 1 := ⟨pm_ws_of (List.mem_append_right _ (List.mem_of_getElem? (i := 476) rfl)) rfl, pm_ii_X3, ⟨by decide +kernel, by decide +kernel⟩, by decide +kernel, by decide⟩
set_option maxRecDepth 20000 in
theorem pm_y_X3_value : pm_yb yX3_value cX3_value 1 (some .int) 0 := ⟨pm_ws_of (List.mem_append_right _ (List.mem_of_getElem? (i := 480) rfl)) rfl, pm_ii_X3, ⟨by decide +kernel, by decide +kernel⟩, by decide +kernel, by decide⟩
set_option maxRecDepth 20000 in
theorem pm_y_X3_setPair : pm_yb yX3_setPair cX3_setPair 5 (some .boolean) 2 := ⟨pm_ws_of (List.mem_append_right _ (List.mem_of_getElem? (i := 484) rfl)) rfl, pm_ii_X3, ⟨by decide +kernel, by decide +kernel⟩, by decide +kernel, by decide⟩
set_option maxRecDepth 20000 in
theorem pm_y_X3_setFirst : pm_yb yX3_setFirst cX3_setFirst 2 (some .boolean) 1 := ⟨pm_ws_of (List.mem_append_right _ (List.mem_of_getElem? (i := 488) rfl)) rfl, pm_ii_X3, ⟨by decide +kernel, by decide +kernel⟩, by decide +kernel, by decide⟩
set_option maxRecDepth 20000 in
theorem pm_y_X3_endOfFirst : pm_yb yX3_endOfFirst cX3_endOfFirst 4 (some .int) 0 := ⟨pm_ws_of (List.mem_append_right _ (List.mem_of_getElem? (i := 493) rfl)) rfl, pm_ii_X3, ⟨by decide +kernel, by decide +kernel⟩, by decide +kernel, by decide⟩
set_option maxRecDepth 20000 in
theorem pm_y_X3_setPart : pm_yb yX3_setPart cX3_setPart 4 (some .boolean) 3 := ⟨pm_ws_of (List.mem_append_right _ (List.mem_of_getElem? (i := 497) rfl)) rfl, pm_ii_X3, ⟨by decide +kernel, by decide +kernel⟩, by decide +kernel, by decide⟩
set_option maxRecDepth 20000 in
theorem pm_y_X3_setSecond : pm_yb yX3_setSecond cX3_setSecond 2 (some .boolean) 1 := ⟨pm_ws_of (List.mem_append_right _ (List.mem_of_getElem? (i := 501) rfl)) rfl, pm_ii_X3, ⟨by decide +kernel, by decide +kernel⟩, by decide +kernel, by decide⟩
set_option maxRecDepth 20000 in
theorem pm_y_X6_goOn : pm_yb yX6_goOn cX6_goOn 3 (some .int) 3 := ⟨pm_ws_of (List.mem_append_right _ (List.mem_of_getElem? (i := 504) rfl)) rfl, pm_ii_X6, ⟨by decide +kernel, by decide +kernel⟩, by decide +kernel, by decide⟩
set_option maxRecDepth 20000 in
theorem pm_y_X3_compareWith : pm_yb yX3_compareWith cX3_compareWith 6 (some .int) 1 := ⟨pm_ws_of (List.mem_append_right _ (List.mem_of_getElem? (i := 508) rfl)) rfl, pm_ii_X3, ⟨by decide +kernel, by decide +kernel⟩, by decide +kernel, by decide⟩
set_option maxRecDepth 20000 in
theorem pm_y_X6_callWord : pm_yb yX6_callWord cX6_callWord 2 (some .int) 2 := ⟨pm_ws_of (List.mem_append_right _ (List.mem_of_getElem? (i := 512) rfl)) rfl, pm_ii_X6, ⟨by decide +kernel, by decide +kernel⟩, by decide +kernel, by decide⟩
set_option maxRecDepth 20000 in
theorem pm_y_X4_addBack : pm_yb yX4_addBack cX4_addBack 2 (some .boolean) 1 := ⟨pm_ws_of (List.mem_append_right _ (List.mem_of_getElem? (i := 516) rfl)) rfl, pm_ii_X4, ⟨by decide +kernel, by decide +kernel⟩, by decide +kernel, by decide⟩
set_option maxRecDepth 20000 in
theorem pm_y_X6_comeBack : pm_yb yX6_comeBack cX6_comeBack 3 (some .int) 1 := ⟨pm_ws_of (List.mem_append_right _ (List.mem_of_getElem? (i := 520) rfl)) rfl, pm_ii_X6, ⟨by decide +kernel, by decide +kernel⟩, by decide +kernel, by decide⟩
set_option maxRecDepth 20000 in
theorem pm_y_X4_takeBack : pm_yb yX4_takeBack cX4_takeBack 1 (some .int) 0 := ⟨pm_ws_of (List.mem_append_right _ (List.mem_of_getElem? (i := 524) rfl)) rfl, pm_ii_X4, ⟨by decide +kernel, by decide +kernel⟩, by decide +kernel, by decide⟩
set_option maxRecDepth 20000 in
theorem pm_y_X4_addCatch : pm_yb yX4_addCatch cX4_addCatch 2 (some .boolean) 1 := ⟨pm_ws_of (List.mem_append_right _ (List.mem_of_getElem? (i := 528) rfl)) rfl, pm_ii_X4, ⟨by decide +kernel, by decide +kernel⟩, by decide +kernel, by decide⟩
set_option maxRecDepth 20000 in
theorem pm_y_X6_dropCatch : pm_yb yX6_dropCatch cX6_dropCatch 1 (some .int) 1 := ⟨pm_ws_of (List.mem_append_right _ (List.mem_of_getElem? (i := 531) rfl)) rfl, pm_ii_X6, ⟨by decide +kernel, by decide +kernel⟩, by decide +kernel, by decide⟩
set_option maxRecDepth 20000 in
theorem pm_y_X4_dropCatch : pm_yb yX4_dropCatch cX4_dropCatch 1 none 0 := ⟨pm_ws_of (List.mem_append_right _ (List.mem_of_getElem? (i := 535) rfl)) rfl, pm_ii_X4, ⟨by decide +kernel, by decide +kernel⟩, by decide +kernel, by decide⟩
set_option maxRecDepth 20000 in
theorem pm_y_X6_fail : pm_yb yX6_fail cX6_fail 4 (some .int) 2 := ⟨pm_ws_of (List.mem_append_right _ (List.mem_of_getElem? (i := 539) rfl)) rfl, pm_ii_X6, ⟨by decide +kernel, by decide +kernel⟩, by decide +kernel, by decide⟩
set_option maxRecDepth 20000 in
theorem pm_y_X4_takeCatch : pm_yb yX4_takeCatch cX4_takeCatch 1 (some .int) 0 := ⟨pm_ws_of (List.mem_append_right _ (List.mem_of_getElem? (i := 543) rfl)) rfl, pm_ii_X4, ⟨by decide +kernel, by decide +kernel⟩, by decide +kernel, by decide⟩
set_option maxRecDepth 20000 in
theorem pm_y_X6_beget : pm_yb yX6_beget cX6_beget 7 (some .int) 5 := ⟨pm_ws_of (List.mem_append_right _ (List.mem_of_getElem? (i := 548) rfl)) rfl, pm_ii_X6, ⟨by decide +kernel, by decide +kernel⟩, by decide +kernel, by decide⟩
set_option maxRecDepth 20000 in
theorem pm_y_X1_linkWith : pm_yb yX1_linkWith cX1_linkWith 2 none 1 := ⟨pm_ws_of (List.mem_append_right _ (List.mem_of_getElem? (i := 552) rfl)) rfl, pm_ii_X1, ⟨by decide +kernel, by decide +kernel⟩, by decide +kernel, by decide⟩
set_option maxRecDepth 20000 in
theorem pm_y_X6_post : pm_yb yX6_post cX6_post 4 (some .int) 2 := ⟨pm_ws_of (List.mem_append_right _ (List.mem_of_getElem? (i := 556) rfl)) rfl, pm_ii_X6, ⟨by decide +kernel, by decide +kernel⟩, by decide +kernel, by decide⟩
set_option maxRecDepth 20000 in
theorem pm_y_X6_findByName : pm_yb yX6_findByName cX6_findByName 2 (some (.object "ProcessMill$Proc")) 1 := ⟨pm_ws_of (List.mem_append_right _ (List.mem_of_getElem? (i := 560) rfl)) rfl, pm_ii_X6, ⟨by decide +kernel, by decide +kernel⟩, by decide +kernel, by decide⟩
set_option maxRecDepth 20000 in
theorem pm_y_X6_findByTerm : pm_yb yX6_findByTerm cX6_findByTerm 2 (some (.object "ProcessMill$Proc")) 1 := ⟨pm_ws_of (List.mem_append_right _ (List.mem_of_getElem? (i := 564) rfl)) rfl, pm_ii_X6, ⟨by decide +kernel, by decide +kernel⟩, by decide +kernel, by decide⟩
set_option maxRecDepth 20000 in
theorem pm_y_X6_readMail : pm_yb yX6_readMail cX6_readMail 4 (some .int) 3 := ⟨pm_ws_of (List.mem_append_right _ (List.mem_of_getElem? (i := 567) rfl)) rfl, pm_ii_X6, ⟨by decide +kernel, by decide +kernel⟩, by decide +kernel, by decide⟩
set_option maxRecDepth 20000 in
theorem pm_y_X0_atPointer : pm_yb yX0_atPointer cX0_atPointer 1 (some (.object "ProcessMill$Term")) 0 := ⟨pm_ws_of (List.mem_append_right _ (List.mem_of_getElem? (i := 571) rfl)) rfl, pm_ii_X0, ⟨by decide +kernel, by decide +kernel⟩, by decide +kernel, by decide⟩
set_option maxRecDepth 20000 in
theorem pm_y_X0_rowAt : pm_yb yX0_rowAt cX0_rowAt 2 (some (.object "ProcessMill$Term")) 1 := ⟨pm_ws_of (List.mem_append_right _ (List.mem_of_getElem? (i := 575) rfl)) rfl, pm_ii_X0, ⟨by decide +kernel, by decide +kernel⟩, by decide +kernel, by decide⟩
set_option maxRecDepth 20000 in
theorem pm_y_X6_dropMail : pm_yb yX6_dropMail cX6_dropMail 1 (some .int) 1 := ⟨pm_ws_of (List.mem_append_right _ (List.mem_of_getElem? (i := 578) rfl)) rfl, pm_ii_X6, ⟨by decide +kernel, by decide +kernel⟩, by decide +kernel, by decide⟩
set_option maxRecDepth 20000 in
theorem pm_y_X0_dropAtPointer : pm_yb yX0_dropAtPointer cX0_dropAtPointer 3 none 0 := ⟨pm_ws_of (List.mem_append_right _ (List.mem_of_getElem? (i := 582) rfl)) rfl, pm_ii_X0, ⟨by decide +kernel, by decide +kernel⟩, by decide +kernel, by decide⟩
set_option maxRecDepth 20000 in
theorem pm_y_X6_advance : pm_yb yX6_advance cX6_advance 1 (some .int) 1 := ⟨pm_ws_of (List.mem_append_right _ (List.mem_of_getElem? (i := 585) rfl)) rfl, pm_ii_X6, ⟨by decide +kernel, by decide +kernel⟩, by decide +kernel, by decide⟩
set_option maxRecDepth 20000 in
theorem pm_y_X0_advance : pm_yb yX0_advance cX0_advance 1 none 0 := ⟨pm_ws_of (List.mem_append_right _ (List.mem_of_getElem? (i := 589) rfl)) rfl, pm_ii_X0, ⟨by decide +kernel, by decide +kernel⟩, by decide +kernel, by decide⟩
set_option maxRecDepth 20000 in
theorem pm_y_X6_await : pm_yb yX6_await cX6_await 2 (some .int) 2 := ⟨pm_ws_of (List.mem_append_right _ (List.mem_of_getElem? (i := 592) rfl)) rfl, pm_ii_X6, ⟨by decide +kernel, by decide +kernel⟩, by decide +kernel, by decide⟩
set_option maxRecDepth 20000 in
theorem pm_y_X1_beginToWait : pm_yb yX1_beginToWait cX1_beginToWait 5 none 3 := ⟨pm_ws_of (List.mem_append_right _ (List.mem_of_getElem? (i := 596) rfl)) rfl, pm_ii_X1, ⟨by decide +kernel, by decide +kernel⟩, by decide +kernel, by decide⟩
set_option maxRecDepth 20000 in
theorem pm_y_X6_awaitFor : pm_yb yX6_awaitFor cX6_awaitFor 5 (some .int) 4 := ⟨pm_ws_of (List.mem_append_right _ (List.mem_of_getElem? (i := 600) rfl)) rfl, pm_ii_X6, ⟨by decide +kernel, by decide +kernel⟩, by decide +kernel, by decide⟩
set_option maxRecDepth 20000 in
theorem pm_y_X0_pointToFirst : pm_yb yX0_pointToFirst cX0_pointToFirst 1 none 0 := ⟨pm_ws_of (List.mem_append_right _ (List.mem_of_getElem? (i := 604) rfl)) rfl, pm_ii_X0, ⟨by decide +kernel, by decide +kernel⟩, by decide +kernel, by decide⟩
set_option maxRecDepth 20000 in
theorem pm_y_X6_link : pm_yb yX6_link cX6_link 3 (some .int) 2 := ⟨pm_ws_of (List.mem_append_right _ (List.mem_of_getElem? (i := 608) rfl)) rfl, pm_ii_X6, ⟨by decide +kernel, by decide +kernel⟩, by decide +kernel, by decide⟩
set_option maxRecDepth 20000 in
theorem pm_y_X6_getExit : pm_yb yX6_getExit cX6_getExit 5 none 4 := ⟨pm_ws_of (List.mem_append_right _ (List.mem_of_getElem? (i := 612) rfl)) rfl, pm_ii_X6, ⟨by decide +kernel, by decide +kernel⟩, by decide +kernel, by decide⟩
set_option maxRecDepth 20000 in
theorem pm_y_X3_isAtom : pm_yb yX3_isAtom cX3_isAtom 2 (some .boolean) 1 := ⟨pm_ws_of (List.mem_append_right _ (List.mem_of_getElem? (i := 616) rfl)) rfl, pm_ii_X3, ⟨by decide +kernel, by decide +kernel⟩, by decide +kernel, by decide⟩
set_option maxRecDepth 20000 in
theorem pm_y_X3_setExit : pm_yb yX3_setExit cX3_setExit 3 none 2 := ⟨pm_ws_of (List.mem_append_right _ (List.mem_of_getElem? (i := 620) rfl)) rfl, pm_ii_X3, ⟨by decide +kernel, by decide +kernel⟩, by decide +kernel, by decide⟩
set_option maxRecDepth 20000 in
theorem pm_y_X3_addPairSign : pm_yb yX3_addPairSign cX3_addPairSign 1 none 0 := ⟨pm_ws_of (List.mem_append_right _ (List.mem_of_getElem? (i := 624) rfl)) rfl, pm_ii_X3, ⟨by decide +kernel, by decide +kernel⟩, by decide +kernel, by decide⟩
set_option maxRecDepth 20000 in
theorem pm_y_X3_addReason : pm_yb yX3_addReason cX3_addReason 2 none 1 := ⟨pm_ws_of (List.mem_append_right _ (List.mem_of_getElem? (i := 628) rfl)) rfl, pm_ii_X3, ⟨by decide +kernel, by decide +kernel⟩, by decide +kernel, by decide⟩
set_option maxRecDepth 20000 in
theorem pm_y_X6_unlink : pm_yb yX6_unlink cX6_unlink 2 (some .int) 2 := ⟨pm_ws_of (List.mem_append_right _ (List.mem_of_getElem? (i := 631) rfl)) rfl, pm_ii_X6, ⟨by decide +kernel, by decide +kernel⟩, by decide +kernel, by decide⟩
set_option maxRecDepth 20000 in
theorem pm_y_X1_unlinkFrom : pm_yb yX1_unlinkFrom cX1_unlinkFrom 2 none 1 := ⟨pm_ws_of (List.mem_append_right _ (List.mem_of_getElem? (i := 635) rfl)) rfl, pm_ii_X1, ⟨by decide +kernel, by decide +kernel⟩, by decide +kernel, by decide⟩
set_option maxRecDepth 20000 in
theorem pm_y_X6_watch : pm_yb yX6_watch cX6_watch 5 (some .int) 3 := ⟨pm_ws_of (List.mem_append_right _ (List.mem_of_getElem? (i := 640) rfl)) rfl, pm_ii_X6, ⟨by decide +kernel, by decide +kernel⟩, by decide +kernel, by decide⟩
set_option maxRecDepth 20000 in
theorem pm_y_X5_isFull : pm_yb yX5_isFull cX5_isFull 1 (some .boolean) 0 := ⟨pm_ws_of (List.mem_append_right _ (List.mem_of_getElem? (i := 644) rfl)) rfl, pm_ii_X5, ⟨by decide +kernel, by decide +kernel⟩, by decide +kernel, by decide⟩
set_option maxRecDepth 20000 in
theorem pm_y_X5_nextNumber : pm_yb yX5_nextNumber cX5_nextNumber 1 (some .int) 0 := ⟨pm_ws_of (List.mem_append_right _ (List.mem_of_getElem? (i := 648) rfl)) rfl, pm_ii_X5, ⟨by decide +kernel, by decide +kernel⟩, by decide +kernel, by decide⟩
set_option maxRecDepth 20000 in
theorem pm_y_X3_setDown : pm_yb yX3_setDown cX3_setDown 4 none 3 := ⟨pm_ws_of (List.mem_append_right _ (List.mem_of_getElem? (i := 652) rfl)) rfl, pm_ii_X3, ⟨by decide +kernel, by decide +kernel⟩, by decide +kernel, by decide⟩
set_option maxRecDepth 20000 in
theorem pm_y_X5_add : pm_yb yX5_add cX5_add 4 none 3 := ⟨pm_ws_of (List.mem_append_right _ (List.mem_of_getElem? (i := 656) rfl)) rfl, pm_ii_X5, ⟨by decide +kernel, by decide +kernel⟩, by decide +kernel, by decide⟩
set_option maxRecDepth 20000 in
theorem pm_y_X6_exit : pm_yb yX6_exit cX6_exit 4 (some .int) 3 := ⟨pm_ws_of (List.mem_append_right _ (List.mem_of_getElem? (i := 661) rfl)) rfl, pm_ii_X6, ⟨by decide +kernel, by decide +kernel⟩, by decide +kernel, by decide⟩
set_option maxRecDepth 20000 in
theorem pm_y_X6_trap : pm_yb yX6_trap cX6_trap 2 (some .int) 2 := ⟨pm_ws_of (List.mem_append_right _ (List.mem_of_getElem? (i := 664) rfl)) rfl, pm_ii_X6, ⟨by decide +kernel, by decide +kernel⟩, by decide +kernel, by decide⟩
set_option maxRecDepth 20000 in
theorem pm_y_X6_takeName : pm_yb yX6_takeName cX6_takeName 3 (some .int) 2 := ⟨pm_ws_of (List.mem_append_right _ (List.mem_of_getElem? (i := 668) rfl)) rfl, pm_ii_X6, ⟨by decide +kernel, by decide +kernel⟩, by decide +kernel, by decide⟩
set_option maxRecDepth 20000 in
theorem pm_y_X6_lookUp : pm_yb yX6_lookUp cX6_lookUp 2 (some .int) 2 := ⟨pm_ws_of (List.mem_append_right _ (List.mem_of_getElem? (i := 671) rfl)) rfl, pm_ii_X6, ⟨by decide +kernel, by decide +kernel⟩, by decide +kernel, by decide⟩
set_option maxRecDepth 20000 in
theorem pm_y_X6_print : pm_yb yX6_print cX6_print 2 (some .int) 1 := ⟨pm_ws_of (List.mem_append_right _ (List.mem_of_getElem? (i := 675) rfl)) rfl, pm_ii_X6, ⟨by decide +kernel, by decide +kernel⟩, by decide +kernel, by decide⟩
set_option maxRecDepth 20000 in
theorem pm_y_X2_print : pm_yb yX2_print cX2_print 3 none 1 := ⟨pm_ws_of (List.mem_append_right _ (List.mem_of_getElem? (i := 679) rfl)) rfl, pm_ii_X2, ⟨by decide +kernel, by decide +kernel⟩, by decide +kernel, by decide⟩
set_option maxRecDepth 20000 in
theorem pm_y_X6_spreadDeaths : pm_yb yX6_spreadDeaths cX6_spreadDeaths 3 none 0 := ⟨pm_ws_of (List.mem_append_right _ (List.mem_of_getElem? (i := 683) rfl)) rfl, pm_ii_X6, ⟨by decide +kernel, by decide +kernel⟩, by decide +kernel, by decide⟩
set_option maxRecDepth 20000 in
theorem pm_y_X6_tellLinked : pm_yb yX6_tellLinked cX6_tellLinked 4 none 1 := ⟨pm_ws_of (List.mem_append_right _ (List.mem_of_getElem? (i := 687) rfl)) rfl, pm_ii_X6, ⟨by decide +kernel, by decide +kernel⟩, by decide +kernel, by decide⟩
set_option maxRecDepth 20000 in
theorem pm_y_X1_isLinkedWith : pm_yb yX1_isLinkedWith cX1_isLinkedWith 2 (some .boolean) 1 := ⟨pm_ws_of (List.mem_append_right _ (List.mem_of_getElem? (i := 691) rfl)) rfl, pm_ii_X1, ⟨by decide +kernel, by decide +kernel⟩, by decide +kernel, by decide⟩
set_option maxRecDepth 20000 in
theorem pm_y_X6_tellWatchers : pm_yb yX6_tellWatchers cX6_tellWatchers 4 none 1 := ⟨pm_ws_of (List.mem_append_right _ (List.mem_of_getElem? (i := 695) rfl)) rfl, pm_ii_X6, ⟨by decide +kernel, by decide +kernel⟩, by decide +kernel, by decide⟩
set_option maxRecDepth 20000 in
theorem pm_y_X5_dropThoseOf : pm_yb yX5_dropThoseOf cX5_dropThoseOf 2 none 1 := ⟨pm_ws_of (List.mem_append_right _ (List.mem_of_getElem? (i := 699) rfl)) rfl, pm_ii_X5, ⟨by decide +kernel, by decide +kernel⟩, by decide +kernel, by decide⟩
set_option maxRecDepth 20000 in
theorem pm_y_X6_pass : pm_yb yX6_pass cX6_pass 4 (some .int) 1 := ⟨pm_ws_of (List.mem_append_right _ (List.mem_of_getElem? (i := 706) rfl)) rfl, pm_ii_X6, ⟨by decide +kernel, by decide +kernel⟩, by decide +kernel, by decide⟩
set_option maxRecDepth 20000 in
theorem pm_y_X6_firstDue : pm_yb yX6_firstDue cX6_firstDue 5 (some (.object "ProcessMill$Proc")) 0 := ⟨pm_ws_of (List.mem_append_right _ (List.mem_of_getElem? (i := 710) rfl)) rfl, pm_ii_X6, ⟨by decide +kernel, by decide +kernel⟩, by decide +kernel, by decide⟩
set_option maxRecDepth 20000 in
theorem pm_y_X6_process : pm_yb yX6_process cX6_process 4 (some .int) 2 := ⟨pm_ws_of (List.mem_append_right _ (List.mem_of_getElem? (i := 717) rfl)) rfl, pm_ii_X6, ⟨by decide +kernel, by decide +kernel⟩, by decide +kernel, by decide⟩
set_option maxRecDepth 20000 in
theorem pm_y_X1_fact : pm_yb yX1_fact cX1_fact 2 (some .int) 1 := ⟨pm_ws_of (List.mem_append_right _ (List.mem_of_getElem? (i := 721) rfl)) rfl, pm_ii_X1, ⟨by decide +kernel, by decide +kernel⟩, by decide +kernel, by decide⟩
set_option maxRecDepth 20000 in
theorem pm_y_J13_bitCount_95d88 : pm_yb yJ13_bitCount_95d88 cJ13_bitCount_95d88 2 (some .int) 1 := ⟨pm_ws_of (List.mem_append_right _ (List.mem_of_getElem? (i := 724) rfl)) rfl, pm_ii_J13, ⟨by decide +kernel, by decide +kernel⟩, by decide +kernel, by decide⟩
set_option maxRecDepth 20000 in
theorem pm_y_X6_register : pm_yb yX6_register cX6_register 5 (some .int) 3 := ⟨pm_ws_of (List.mem_append_right _ (List.mem_of_getElem? (i := 734) rfl)) rfl, pm_ii_X6, ⟨by decide +kernel, by decide +kernel⟩, by decide +kernel, by decide⟩
set_option maxRecDepth 20000 in
theorem pm_y_X3_numberAt : pm_yb yX3_numberAt cX3_numberAt 2 (some .int) 1 := ⟨pm_ws_of (List.mem_append_right _ (List.mem_of_getElem? (i := 738) rfl)) rfl, pm_ii_X3, ⟨by decide +kernel, by decide +kernel⟩, by decide +kernel, by decide⟩
set_option maxRecDepth 20000 in
theorem pm_y_X6_message : pm_yb yX6_message cX6_message 6 (some .int) 3 := ⟨pm_ws_of (List.mem_append_right _ (List.mem_of_getElem? (i := 745) rfl)) rfl, pm_ii_X6, ⟨by decide +kernel, by decide +kernel⟩, by decide +kernel, by decide⟩
set_option maxRecDepth 20000 in
theorem pm_y_X6_total : pm_yb yX6_total cX6_total 2 (some .int) 1 := ⟨pm_ws_of (List.mem_append_right _ (List.mem_of_getElem? (i := 753) rfl)) rfl, pm_ii_X6, ⟨by decide +kernel, by decide +kernel⟩, by decide +kernel, by decide⟩
set_option maxRecDepth 20000 in
theorem pm_y_X6_readyOnes : pm_yb yX6_readyOnes cX6_readyOnes 3 (some .int) 0 := ⟨pm_ws_of (List.mem_append_right _ (List.mem_of_getElem? (i := 757) rfl)) rfl, pm_ii_X6, ⟨by decide +kernel, by decide +kernel⟩, by decide +kernel, by decide⟩
set_option maxRecDepth 20000 in
theorem pm_y_X7_init : pm_yb yX7_init cX7_init 1 none 0 := ⟨pm_ws_of (List.mem_append_right _ (List.mem_of_getElem? (i := 762) rfl)) rfl, pm_ii_X7, ⟨by decide +kernel, by decide +kernel⟩, by decide +kernel, by decide⟩
set_option maxRecDepth 20000 in
theorem pm_y_X7_thrown : pm_yb yX7_thrown cX7_thrown 1 (some .int) 0 := ⟨pm_ws_of (List.mem_append_right _ (List.mem_of_getElem? (i := 893) rfl)) rfl, pm_ii_X7, ⟨by decide +kernel, by decide +kernel⟩, by decide +kernel, by decide⟩
set_option maxRecDepth 20000 in
theorem pm_y_X7_word : pm_yb yX7_word cX7_word 6 none 5 := ⟨pm_ws_of (List.mem_append_right _ (List.mem_of_getElem? (i := 897) rfl)) rfl, pm_ii_X7, ⟨by decide +kernel, by decide +kernel⟩, by decide +kernel, by decide⟩
set_option maxRecDepth 20000 in
theorem pm_y_X7_within : pm_yb yX7_within cX7_within 3 (some .boolean) 3 := ⟨pm_ws_of (List.mem_append_right _ (List.mem_of_getElem? (i := 900) rfl)) rfl, pm_ii_X7, ⟨by decide +kernel, by decide +kernel⟩, by decide +kernel, by decide⟩
set_option maxRecDepth 20000 in
theorem pm_y_X7_fails : pm_yb yX7_fails cX7_fails 3 (some .boolean) 2 := ⟨pm_ws_of (List.mem_append_right _ (List.mem_of_getElem? (i := 904) rfl)) rfl, pm_ii_X7, ⟨by decide +kernel, by decide +kernel⟩, by decide +kernel, by decide⟩
set_option maxRecDepth 20000 in
theorem pm_y_X7_start : pm_yb yX7_start cX7_start 3 (some .int) 2 := ⟨pm_ws_of (List.mem_append_right _ (List.mem_of_getElem? (i := 908) rfl)) rfl, pm_ii_X7, ⟨by decide +kernel, by decide +kernel⟩, by decide +kernel, by decide⟩
set_option maxRecDepth 20000 in
theorem pm_y_X7_create : pm_yb yX7_create cX7_create 5 (some .int) 2 := ⟨pm_ws_of (List.mem_append_right _ (List.mem_of_getElem? (i := 912) rfl)) rfl, pm_ii_X7, ⟨by decide +kernel, by decide +kernel⟩, by decide +kernel, by decide⟩
set_option maxRecDepth 20000 in
theorem pm_y_X7_set : pm_yb yX7_set cX7_set 4 none 3 := ⟨pm_ws_of (List.mem_append_right _ (List.mem_of_getElem? (i := 916) rfl)) rfl, pm_ii_X7, ⟨by decide +kernel, by decide +kernel⟩, by decide +kernel, by decide⟩
set_option maxRecDepth 20000 in
theorem pm_y_X7_becomesReady : pm_yb yX7_becomesReady cX7_becomesReady 2 none 1 := ⟨pm_ws_of (List.mem_append_right _ (List.mem_of_getElem? (i := 920) rfl)) rfl, pm_ii_X7, ⟨by decide +kernel, by decide +kernel⟩, by decide +kernel, by decide⟩
set_option maxRecDepth 20000 in
theorem pm_y_X7_send : pm_yb yX7_send cX7_send 3 (some .boolean) 2 := ⟨pm_ws_of (List.mem_append_right _ (List.mem_of_getElem? (i := 924) rfl)) rfl, pm_ii_X7, ⟨by decide +kernel, by decide +kernel⟩, by decide +kernel, by decide⟩
set_option maxRecDepth 20000 in
theorem pm_y_X7_isProcess : pm_yb yX7_isProcess cX7_isProcess 2 (some .boolean) 1 := ⟨pm_ws_of (List.mem_append_right _ (List.mem_of_getElem? (i := 928) rfl)) rfl, pm_ii_X7, ⟨by decide +kernel, by decide +kernel⟩, by decide +kernel, by decide⟩
set_option maxRecDepth 20000 in
theorem pm_y_X7_comes : pm_yb yX7_comes cX7_comes 3 (some .boolean) 2 := ⟨pm_ws_of (List.mem_append_right _ (List.mem_of_getElem? (i := 932) rfl)) rfl, pm_ii_X7, ⟨by decide +kernel, by decide +kernel⟩, by decide +kernel, by decide⟩
set_option maxRecDepth 20000 in
theorem pm_y_X7_copy : pm_yb yX7_copy cX7_copy 4 none 2 := ⟨pm_ws_of (List.mem_append_right _ (List.mem_of_getElem? (i := 936) rfl)) rfl, pm_ii_X7, ⟨by decide +kernel, by decide +kernel⟩, by decide +kernel, by decide⟩
set_option maxRecDepth 20000 in
theorem pm_y_X7_run : pm_yb yX7_run cX7_run 7 (some .int) 1 := ⟨pm_ws_of (List.mem_append_right _ (List.mem_of_getElem? (i := 940) rfl)) rfl, pm_ii_X7, ⟨by decide +kernel, by decide +kernel⟩, by decide +kernel, by decide⟩
set_option maxRecDepth 20000 in
theorem pm_y_X7_nextReady : pm_yb yX7_nextReady cX7_nextReady 5 (some .int) 1 := ⟨pm_ws_of (List.mem_append_right _ (List.mem_of_getElem? (i := 944) rfl)) rfl, pm_ii_X7, ⟨by decide +kernel, by decide +kernel⟩, by decide +kernel, by decide⟩
set_option maxRecDepth 20000 in
theorem pm_y_X7_step : pm_yb yX7_step cX7_step 9 none 1 := ⟨pm_ws_of (List.mem_append_right _ (List.mem_of_getElem? (i := 948) rfl)) rfl, pm_ii_X7, ⟨by decide +kernel, by decide +kernel⟩, by decide +kernel, by decide⟩
set_option maxRecDepth 20000 in
theorem pm_y_X7_registerOf : pm_yb yX7_registerOf cX7_registerOf 2 (some .int) 2 := ⟨pm_ws_of (List.mem_append_right _ (List.mem_of_getElem? (i := 951) rfl)) rfl, pm_ii_X7, ⟨by decide +kernel, by decide +kernel⟩, by decide +kernel, by decide⟩
set_option maxRecDepth 20000 in
theorem pm_y_X7_mod : pm_yb yX7_mod cX7_mod 3 (some .int) 2 := ⟨pm_ws_of (List.mem_append_right _ (List.mem_of_getElem? (i := 954) rfl)) rfl, pm_ii_X7, ⟨by decide +kernel, by decide +kernel⟩, by decide +kernel, by decide⟩
set_option maxRecDepth 20000 in
theorem pm_y_X7_simple : pm_yb yX7_simple cX7_simple 10 none 8 := ⟨pm_ws_of (List.mem_append_right _ (List.mem_of_getElem? (i := 958) rfl)) rfl, pm_ii_X7, ⟨by decide +kernel, by decide +kernel⟩, by decide +kernel, by decide⟩
set_option maxRecDepth 20000 in
theorem pm_y_X7_endsBy : pm_yb yX7_endsBy cX7_endsBy 3 none 2 := ⟨pm_ws_of (List.mem_append_right _ (List.mem_of_getElem? (i := 962) rfl)) rfl, pm_ii_X7, ⟨by decide +kernel, by decide +kernel⟩, by decide +kernel, by decide⟩
set_option maxRecDepth 20000 in
theorem pm_y_X7_dies : pm_yb yX7_dies cX7_dies 4 none 2 := ⟨pm_ws_of (List.mem_append_right _ (List.mem_of_getElem? (i := 966) rfl)) rfl, pm_ii_X7, ⟨by decide +kernel, by decide +kernel⟩, by decide +kernel, by decide⟩
set_option maxRecDepth 20000 in
theorem pm_y_X7_dropWatch : pm_yb yX7_dropWatch cX7_dropWatch 3 none 1 := ⟨pm_ws_of (List.mem_append_right _ (List.mem_of_getElem? (i := 970) rfl)) rfl, pm_ii_X7, ⟨by decide +kernel, by decide +kernel⟩, by decide +kernel, by decide⟩
set_option maxRecDepth 20000 in
theorem pm_y_X7_reckons : pm_yb yX7_reckons cX7_reckons 8 none 5 := ⟨pm_ws_of (List.mem_append_right _ (List.mem_of_getElem? (i := 974) rfl)) rfl, pm_ii_X7, ⟨by decide +kernel, by decide +kernel⟩, by decide +kernel, by decide⟩
set_option maxRecDepth 20000 in
theorem pm_y_X7_is : pm_yb yX7_is cX7_is 3 (some .boolean) 2 := ⟨pm_ws_of (List.mem_append_right _ (List.mem_of_getElem? (i := 978) rfl)) rfl, pm_ii_X7, ⟨by decide +kernel, by decide +kernel⟩, by decide +kernel, by decide⟩
set_option maxRecDepth 20000 in
theorem pm_y_X7_kindOf : pm_yb yX7_kindOf cX7_kindOf 2 (some .int) 1 := ⟨pm_ws_of (List.mem_append_right _ (List.mem_of_getElem? (i := 982) rfl)) rfl, pm_ii_X7, ⟨by decide +kernel, by decide +kernel⟩, by decide +kernel, by decide⟩
set_option maxRecDepth 20000 in
theorem pm_y_X7_bad : pm_yb yX7_bad cX7_bad 3 (some .boolean) 2 := ⟨pm_ws_of (List.mem_append_right _ (List.mem_of_getElem? (i := 986) rfl)) rfl, pm_ii_X7, ⟨by decide +kernel, by decide +kernel⟩, by decide +kernel, by decide⟩
set_option maxRecDepth 20000 in
theorem pm_y_X7_failsWith : pm_yb yX7_failsWith cX7_failsWith 4 none 3 := ⟨pm_ws_of (List.mem_append_right _ (List.mem_of_getElem? (i := 990) rfl)) rfl, pm_ii_X7, ⟨by decide +kernel, by decide +kernel⟩, by decide +kernel, by decide⟩
set_option maxRecDepth 20000 in
theorem pm_y_X7_failsOf : pm_yb yX7_failsOf cX7_failsOf 4 none 2 := ⟨pm_ws_of (List.mem_append_right _ (List.mem_of_getElem? (i := 994) rfl)) rfl, pm_ii_X7, ⟨by decide +kernel, by decide +kernel⟩, by decide +kernel, by decide⟩
set_option maxRecDepth 20000 in
theorem pm_y_X7_valueOf : pm_yb yX7_valueOf cX7_valueOf 2 (some .int) 1 := ⟨pm_ws_of (List.mem_append_right _ (List.mem_of_getElem? (i := 998) rfl)) rfl, pm_ii_X7, ⟨by decide +kernel, by decide +kernel⟩, by decide +kernel, by decide⟩
set_option maxRecDepth 20000 in
theorem pm_y_X7_ends : pm_yb yX7_ends cX7_ends 2 (some .int) 1 := ⟨pm_ws_of (List.mem_append_right _ (List.mem_of_getElem? (i := 1002) rfl)) rfl, pm_ii_X7, ⟨by decide +kernel, by decide +kernel⟩, by decide +kernel, by decide⟩
set_option maxRecDepth 20000 in
theorem pm_y_X7_pair : pm_yb yX7_pair cX7_pair 5 none 3 := ⟨pm_ws_of (List.mem_append_right _ (List.mem_of_getElem? (i := 1006) rfl)) rfl, pm_ii_X7, ⟨by decide +kernel, by decide +kernel⟩, by decide +kernel, by decide⟩
set_option maxRecDepth 20000 in
theorem pm_y_X7_behind : pm_yb yX7_behind cX7_behind 6 (some .int) 2 := ⟨pm_ws_of (List.mem_append_right _ (List.mem_of_getElem? (i := 1010) rfl)) rfl, pm_ii_X7, ⟨by decide +kernel, by decide +kernel⟩, by decide +kernel, by decide⟩
set_option maxRecDepth 20000 in
theorem pm_y_X7_part : pm_yb yX7_part cX7_part 6 none 4 := ⟨pm_ws_of (List.mem_append_right _ (List.mem_of_getElem? (i := 1014) rfl)) rfl, pm_ii_X7, ⟨by decide +kernel, by decide +kernel⟩, by decide +kernel, by decide⟩
set_option maxRecDepth 20000 in
theorem pm_y_X7_compare : pm_yb yX7_compare cX7_compare 8 (some .int) 2 := ⟨pm_ws_of (List.mem_append_right _ (List.mem_of_getElem? (i := 1018) rfl)) rfl, pm_ii_X7, ⟨by decide +kernel, by decide +kernel⟩, by decide +kernel, by decide⟩
set_option maxRecDepth 20000 in
theorem pm_y_X7_calls : pm_yb yX7_calls cX7_calls 8 none 6 := ⟨pm_ws_of (List.mem_append_right _ (List.mem_of_getElem? (i := 1022) rfl)) rfl, pm_ii_X7, ⟨by decide +kernel, by decide +kernel⟩, by decide +kernel, by decide⟩
set_option maxRecDepth 20000 in
theorem pm_y_X7_link : pm_yb yX7_link cX7_link 4 none 3 := ⟨pm_ws_of (List.mem_append_right _ (List.mem_of_getElem? (i := 1026) rfl)) rfl, pm_ii_X7, ⟨by decide +kernel, by decide +kernel⟩, by decide +kernel, by decide⟩
set_option maxRecDepth 20000 in
theorem pm_y_X7_mails : pm_yb yX7_mails cX7_mails 11 none 6 := ⟨pm_ws_of (List.mem_append_right _ (List.mem_of_getElem? (i := 1030) rfl)) rfl, pm_ii_X7, ⟨by decide +kernel, by decide +kernel⟩, by decide +kernel, by decide⟩
set_option maxRecDepth 20000 in
theorem pm_y_X7_withName : pm_yb yX7_withName cX7_withName 3 (some .int) 1 := ⟨pm_ws_of (List.mem_append_right _ (List.mem_of_getElem? (i := 1034) rfl)) rfl, pm_ii_X7, ⟨by decide +kernel, by decide +kernel⟩, by decide +kernel, by decide⟩
set_option maxRecDepth 20000 in
theorem pm_y_X7_waits : pm_yb yX7_waits cX7_waits 3 none 2 := ⟨pm_ws_of (List.mem_append_right _ (List.mem_of_getElem? (i := 1038) rfl)) rfl, pm_ii_X7, ⟨by decide +kernel, by decide +kernel⟩, by decide +kernel, by decide⟩
set_option maxRecDepth 20000 in
theorem pm_y_X7_others : pm_yb yX7_others cX7_others 8 none 6 := ⟨pm_ws_of (List.mem_append_right _ (List.mem_of_getElem? (i := 1044) rfl)) rfl, pm_ii_X7, ⟨by decide +kernel, by decide +kernel⟩, by decide +kernel, by decide⟩
set_option maxRecDepth 20000 in
theorem pm_y_X7_exit : pm_yb yX7_exit cX7_exit 5 none 4 := ⟨pm_ws_of (List.mem_append_right _ (List.mem_of_getElem? (i := 1048) rfl)) rfl, pm_ii_X7, ⟨by decide +kernel, by decide +kernel⟩, by decide +kernel, by decide⟩
set_option maxRecDepth 20000 in
theorem pm_y_X7_isAtom : pm_yb yX7_isAtom cX7_isAtom 3 (some .boolean) 2 := ⟨pm_ws_of (List.mem_append_right _ (List.mem_of_getElem? (i := 1052) rfl)) rfl, pm_ii_X7, ⟨by decide +kernel, by decide +kernel⟩, by decide +kernel, by decide⟩
set_option maxRecDepth 20000 in
theorem pm_y_X7_tells : pm_yb yX7_tells cX7_tells 6 none 4 := ⟨pm_ws_of (List.mem_append_right _ (List.mem_of_getElem? (i := 1056) rfl)) rfl, pm_ii_X7, ⟨by decide +kernel, by decide +kernel⟩, by decide +kernel, by decide⟩
set_option maxRecDepth 20000 in
theorem pm_y_X7_tellsDown : pm_yb yX7_tellsDown cX7_tellsDown 6 none 4 := ⟨pm_ws_of (List.mem_append_right _ (List.mem_of_getElem? (i := 1060) rfl)) rfl, pm_ii_X7, ⟨by decide +kernel, by decide +kernel⟩, by decide +kernel, by decide⟩
set_option maxRecDepth 20000 in
theorem pm_y_X7_spread : pm_yb yX7_spread cX7_spread 6 none 0 := ⟨pm_ws_of (List.mem_append_right _ (List.mem_of_getElem? (i := 1064) rfl)) rfl, pm_ii_X7, ⟨by decide +kernel, by decide +kernel⟩, by decide +kernel, by decide⟩
set_option maxRecDepth 20000 in
theorem pm_y_X7_pass : pm_yb yX7_pass cX7_pass 5 (some .int) 1 := ⟨pm_ws_of (List.mem_append_right _ (List.mem_of_getElem? (i := 1068) rfl)) rfl, pm_ii_X7, ⟨by decide +kernel, by decide +kernel⟩, by decide +kernel, by decide⟩
set_option maxRecDepth 20000 in
theorem pm_y_X7_out : pm_yb yX7_out cX7_out 2 (some .int) 1 := ⟨pm_ws_of (List.mem_append_right _ (List.mem_of_getElem? (i := 1072) rfl)) rfl, pm_ii_X7, ⟨by decide +kernel, by decide +kernel⟩, by decide +kernel, by decide⟩
set_option maxRecDepth 20000 in
theorem pm_y_X7_process : pm_yb yX7_process cX7_process 6 (some .int) 2 := ⟨pm_ws_of (List.mem_append_right _ (List.mem_of_getElem? (i := 1076) rfl)) rfl, pm_ii_X7, ⟨by decide +kernel, by decide +kernel⟩, by decide +kernel, by decide⟩
set_option maxRecDepth 20000 in
theorem pm_y_X7_register : pm_yb yX7_register cX7_register 4 (some .int) 3 := ⟨pm_ws_of (List.mem_append_right _ (List.mem_of_getElem? (i := 1080) rfl)) rfl, pm_ii_X7, ⟨by decide +kernel, by decide +kernel⟩, by decide +kernel, by decide⟩
set_option maxRecDepth 20000 in
theorem pm_y_X7_numberOf : pm_yb yX7_numberOf cX7_numberOf 3 (some .int) 2 := ⟨pm_ws_of (List.mem_append_right _ (List.mem_of_getElem? (i := 1084) rfl)) rfl, pm_ii_X7, ⟨by decide +kernel, by decide +kernel⟩, by decide +kernel, by decide⟩
set_option maxRecDepth 20000 in
theorem pm_y_X7_message : pm_yb yX7_message cX7_message 4 (some .int) 3 := ⟨pm_ws_of (List.mem_append_right _ (List.mem_of_getElem? (i := 1088) rfl)) rfl, pm_ii_X7, ⟨by decide +kernel, by decide +kernel⟩, by decide +kernel, by decide⟩
set_option maxRecDepth 20000 in
theorem pm_y_X7_total : pm_yb yX7_total cX7_total 5 (some .int) 1 := ⟨pm_ws_of (List.mem_append_right _ (List.mem_of_getElem? (i := 1092) rfl)) rfl, pm_ii_X7, ⟨by decide +kernel, by decide +kernel⟩, by decide +kernel, by decide⟩
theorem pm_oc : Cond.code objectInit ⟨#[0xb1]⟩ 1 none ∈ pm_ws := pm_ws_of (List.mem_append_right _ (List.mem_of_getElem? (i := 24) (by decide +kernel))) rfl
end
section
section PMF
variable {G : pm_G} {l : Launch} {bs : Nat} {own : String} {cc : ByteArray} {nL : Nat} {ini : Bool} {d kc ks : Nat} {Q : Instr → List Value → pm_S → Prop} {pc : Nat} {L rest : List Value} {S : pm_S}
theorem pm_g_Mailbox_rows {index a : Nat} (hk : pm_k S a = 1) (hw : pm_lk own index RX0 "rows" "[LProcessMill$Term;") {b : Nat} (hp : pm_p S 0 a = some b) (hdg : decode cc pc = .ok (.getfield index, 3)) (k : pm_W G l bs own cc nL ini d kc ks Q (pc + 3) L (.ref b :: rest) S) : pm_W G l bs own cc nL ini d kc ks Q pc L (.ref a :: rest) S := pm_getf (c := 0) (j := 0) (r := (RX0, TX0, 3)) rfl (by decide) hk hw rfl hdg (by
  show pm_W G l bs own cc nL ini d kc ks Q (pc + 3) L (va_rf (pm_p S 0 a) :: rest) S
  rw [hp]
  exact k)
theorem pm_p_Mailbox_rows {index a : Nat} (hk : pm_k S a = 1) (hw : pm_lk own index RX0 "rows" "[LProcessMill$Term;") {b : Nat} (hini : ini = true) (hown : own = RX0) (hw2 : Cond.fieldLink own index RX0 "rows" "[LProcessMill$Term;" ∈ pm_ws) (hdg : decode cc pc = .ok (.putfield index, 3)) (k : pm_W G l bs own cc nL ini d kc ks Q (pc + 3) L rest (pm_sp S 0 a (some b))) : pm_W G l bs own cc nL ini d kc ks Q pc L (.ref b :: .ref a :: rest) S := pm_putf (c := 0) (j := 0) (r := (RX0, TX0, 3)) rfl (by decide) hk hw rfl (Or.inr ⟨rfl, hini, hown, hw2⟩) (ty := .array (.object "ProcessMill$Term")) (by decide +kernel) rfl rfl (pm_off_sp S 0 a (some b)) rfl (pm_fv_sp rfl (some b)) hdg k
theorem pm_g_Mailbox_count {index a : Nat} (hk : pm_k S a = 1) (hw : pm_lk own index RX0 "count" "I") (hdg : decode cc pc = .ok (.getfield index, 3)) (k : pm_W G l bs own cc nL ini d kc ks Q (pc + 3) L (.int (pm_i S 1 a) :: rest) S) : pm_W G l bs own cc nL ini d kc ks Q pc L (.ref a :: rest) S := pm_getf (c := 0) (j := 1) (r := (RX0, TX0, 3)) rfl (by decide) hk hw rfl hdg k
theorem pm_p_Mailbox_count {index a : Nat} (hk : pm_k S a = 1) (hw : pm_lk own index RX0 "count" "I") {x : Int32} (hdg : decode cc pc = .ok (.putfield index, 3)) (k : pm_W G l bs own cc nL ini d kc ks Q (pc + 3) L rest (pm_si S 1 a x)) : pm_W G l bs own cc nL ini d kc ks Q pc L (.int x :: .ref a :: rest) S := pm_putf (c := 0) (j := 1) (r := (RX0, TX0, 3)) rfl (by decide) hk hw rfl (Or.inl rfl) (ty := .int) (by decide +kernel) rfl rfl (pm_off_si S 1 a x) rfl (pm_fv_si rfl x) hdg k
theorem pm_g_Mailbox_pointer {index a : Nat} (hk : pm_k S a = 1) (hw : pm_lk own index RX0 "pointer" "I") (hdg : decode cc pc = .ok (.getfield index, 3)) (k : pm_W G l bs own cc nL ini d kc ks Q (pc + 3) L (.int (pm_i S 2 a) :: rest) S) : pm_W G l bs own cc nL ini d kc ks Q pc L (.ref a :: rest) S := pm_getf (c := 0) (j := 2) (r := (RX0, TX0, 3)) rfl (by decide) hk hw rfl hdg k
theorem pm_p_Mailbox_pointer {index a : Nat} (hk : pm_k S a = 1) (hw : pm_lk own index RX0 "pointer" "I") {x : Int32} (hdg : decode cc pc = .ok (.putfield index, 3)) (k : pm_W G l bs own cc nL ini d kc ks Q (pc + 3) L rest (pm_si S 2 a x)) : pm_W G l bs own cc nL ini d kc ks Q pc L (.int x :: .ref a :: rest) S := pm_putf (c := 0) (j := 2) (r := (RX0, TX0, 3)) rfl (by decide) hk hw rfl (Or.inl rfl) (ty := .int) (by decide +kernel) rfl rfl (pm_off_si S 2 a x) rfl (pm_fv_si rfl x) hdg k
theorem pm_df_Mailbox (S : pm_S) (a : Nat) : ∀ j, j < 3 → defaultValue (tyX0 j) = pm_fv (pm_nw S a 1 0) 0 a j := by
  intro j hj
  have h := hj
  have e : ∀ o f, pm_sv (pm_nw S a 1 0) o f a = (match o with | 0 => .int 0 | 1 => .null | _ => .long 0) := by
    intro o f
    unfold pm_sv
    split <;> simp [pm_i_nw, pm_p_nw, pm_j_nw, va_rf]
  unfold pm_fv
  rw [e]
  revert j
  decide
theorem pm_new_Mailbox {index kc' ks' : Nat} (hw1 : Cond.classLink own index RX0 ∈ pm_ws) (hkc : kc' + 1 ≤ kc) (hks : ks' + 3 ≤ ks) (hdg : decode cc pc = .ok (.new index, 3)) (k : ∀ a : Nat, pm_k S a = 0 → bs ≤ a → pm_W G l bs own cc nL ini d kc' ks' Q (pc + 3) L (.ref a :: rest) (pm_nw S a 1 0)) : pm_W G l bs own cc nL ini d kc ks Q pc L rest S := pm_new (c := 0) (r := (RX0, TX0, 3)) rfl hw1 pm_in_X0 pm_ii_X0 hkc hks (fun S a j _ hj ty hty => by cases hty; exact pm_df_Mailbox S a j hj) hdg k
theorem pm_g_Proc_pid {index a : Nat} (hk : pm_k S a = 2) (hw : pm_lk own index RX1 "pid" "I") (hdg : decode cc pc = .ok (.getfield index, 3)) (k : pm_W G l bs own cc nL ini d kc ks Q (pc + 3) L (.int (pm_i S 50 a) :: rest) S) : pm_W G l bs own cc nL ini d kc ks Q pc L (.ref a :: rest) S := pm_getf (c := 1) (j := 0) (r := (RX1, TX1, 16)) rfl (by decide) hk hw rfl hdg k
theorem pm_p_Proc_pid {index a : Nat} (hk : pm_k S a = 2) (hw : pm_lk own index RX1 "pid" "I") {x : Int32} (hini : ini = true) (hown : own = RX1) (hw2 : Cond.fieldLink own index RX1 "pid" "I" ∈ pm_ws) (hdg : decode cc pc = .ok (.putfield index, 3)) (k : pm_W G l bs own cc nL ini d kc ks Q (pc + 3) L rest (pm_si S 50 a x)) : pm_W G l bs own cc nL ini d kc ks Q pc L (.int x :: .ref a :: rest) S := pm_putf (c := 1) (j := 0) (r := (RX1, TX1, 16)) rfl (by decide) hk hw rfl (Or.inr ⟨rfl, hini, hown, hw2⟩) (ty := .int) (by decide +kernel) rfl rfl (pm_off_si S 50 a x) rfl (pm_fv_si rfl x) hdg k
theorem pm_g_Proc_priority {index a : Nat} (hk : pm_k S a = 2) (hw : pm_lk own index RX1 "priority" "I") (hdg : decode cc pc = .ok (.getfield index, 3)) (k : pm_W G l bs own cc nL ini d kc ks Q (pc + 3) L (.int (pm_i S 51 a) :: rest) S) : pm_W G l bs own cc nL ini d kc ks Q pc L (.ref a :: rest) S := pm_getf (c := 1) (j := 1) (r := (RX1, TX1, 16)) rfl (by decide) hk hw rfl hdg k
theorem pm_p_Proc_priority {index a : Nat} (hk : pm_k S a = 2) (hw : pm_lk own index RX1 "priority" "I") {x : Int32} (hini : ini = true) (hown : own = RX1) (hw2 : Cond.fieldLink own index RX1 "priority" "I" ∈ pm_ws) (hdg : decode cc pc = .ok (.putfield index, 3)) (k : pm_W G l bs own cc nL ini d kc ks Q (pc + 3) L rest (pm_si S 51 a x)) : pm_W G l bs own cc nL ini d kc ks Q pc L (.int x :: .ref a :: rest) S := pm_putf (c := 1) (j := 1) (r := (RX1, TX1, 16)) rfl (by decide) hk hw rfl (Or.inr ⟨rfl, hini, hown, hw2⟩) (ty := .int) (by decide +kernel) rfl rfl (pm_off_si S 51 a x) rfl (pm_fv_si rfl x) hdg k
theorem pm_g_Proc_registers {index a : Nat} (hk : pm_k S a = 2) (hw : pm_lk own index RX1 "registers" "[LProcessMill$Term;") {b : Nat} (hp : pm_p S 52 a = some b) (hdg : decode cc pc = .ok (.getfield index, 3)) (k : pm_W G l bs own cc nL ini d kc ks Q (pc + 3) L (.ref b :: rest) S) : pm_W G l bs own cc nL ini d kc ks Q pc L (.ref a :: rest) S := pm_getf (c := 1) (j := 2) (r := (RX1, TX1, 16)) rfl (by decide) hk hw rfl hdg (by
  show pm_W G l bs own cc nL ini d kc ks Q (pc + 3) L (va_rf (pm_p S 52 a) :: rest) S
  rw [hp]
  exact k)
theorem pm_p_Proc_registers {index a : Nat} (hk : pm_k S a = 2) (hw : pm_lk own index RX1 "registers" "[LProcessMill$Term;") {b : Nat} (hini : ini = true) (hown : own = RX1) (hw2 : Cond.fieldLink own index RX1 "registers" "[LProcessMill$Term;" ∈ pm_ws) (hdg : decode cc pc = .ok (.putfield index, 3)) (k : pm_W G l bs own cc nL ini d kc ks Q (pc + 3) L rest (pm_sp S 52 a (some b))) : pm_W G l bs own cc nL ini d kc ks Q pc L (.ref b :: .ref a :: rest) S := pm_putf (c := 1) (j := 2) (r := (RX1, TX1, 16)) rfl (by decide) hk hw rfl (Or.inr ⟨rfl, hini, hown, hw2⟩) (ty := .array (.object "ProcessMill$Term")) (by decide +kernel) rfl rfl (pm_off_sp S 52 a (some b)) rfl (pm_fv_sp rfl (some b)) hdg k
theorem pm_g_Proc_reason {index a : Nat} (hk : pm_k S a = 2) (hw : pm_lk own index RX1 "reason" "LProcessMill$Term;") {b : Nat} (hp : pm_p S 53 a = some b) (hdg : decode cc pc = .ok (.getfield index, 3)) (k : pm_W G l bs own cc nL ini d kc ks Q (pc + 3) L (.ref b :: rest) S) : pm_W G l bs own cc nL ini d kc ks Q pc L (.ref a :: rest) S := pm_getf (c := 1) (j := 3) (r := (RX1, TX1, 16)) rfl (by decide) hk hw rfl hdg (by
  show pm_W G l bs own cc nL ini d kc ks Q (pc + 3) L (va_rf (pm_p S 53 a) :: rest) S
  rw [hp]
  exact k)
theorem pm_p_Proc_reason {index a : Nat} (hk : pm_k S a = 2) (hw : pm_lk own index RX1 "reason" "LProcessMill$Term;") {b : Nat} (hini : ini = true) (hown : own = RX1) (hw2 : Cond.fieldLink own index RX1 "reason" "LProcessMill$Term;" ∈ pm_ws) (hdg : decode cc pc = .ok (.putfield index, 3)) (k : pm_W G l bs own cc nL ini d kc ks Q (pc + 3) L rest (pm_sp S 53 a (some b))) : pm_W G l bs own cc nL ini d kc ks Q pc L (.ref b :: .ref a :: rest) S := pm_putf (c := 1) (j := 3) (r := (RX1, TX1, 16)) rfl (by decide) hk hw rfl (Or.inr ⟨rfl, hini, hown, hw2⟩) (ty := .object "ProcessMill$Term") (by decide +kernel) rfl rfl (pm_off_sp S 53 a (some b)) rfl (pm_fv_sp rfl (some b)) hdg k
theorem pm_g_Proc_box {index a : Nat} (hk : pm_k S a = 2) (hw : pm_lk own index RX1 "box" "LProcessMill$Mailbox;") {b : Nat} (hp : pm_p S 54 a = some b) (hdg : decode cc pc = .ok (.getfield index, 3)) (k : pm_W G l bs own cc nL ini d kc ks Q (pc + 3) L (.ref b :: rest) S) : pm_W G l bs own cc nL ini d kc ks Q pc L (.ref a :: rest) S := pm_getf (c := 1) (j := 4) (r := (RX1, TX1, 16)) rfl (by decide) hk hw rfl hdg (by
  show pm_W G l bs own cc nL ini d kc ks Q (pc + 3) L (va_rf (pm_p S 54 a) :: rest) S
  rw [hp]
  exact k)
theorem pm_p_Proc_box {index a : Nat} (hk : pm_k S a = 2) (hw : pm_lk own index RX1 "box" "LProcessMill$Mailbox;") {b : Nat} (hini : ini = true) (hown : own = RX1) (hw2 : Cond.fieldLink own index RX1 "box" "LProcessMill$Mailbox;" ∈ pm_ws) (hdg : decode cc pc = .ok (.putfield index, 3)) (k : pm_W G l bs own cc nL ini d kc ks Q (pc + 3) L rest (pm_sp S 54 a (some b))) : pm_W G l bs own cc nL ini d kc ks Q pc L (.ref b :: .ref a :: rest) S := pm_putf (c := 1) (j := 4) (r := (RX1, TX1, 16)) rfl (by decide) hk hw rfl (Or.inr ⟨rfl, hini, hown, hw2⟩) (ty := .object "ProcessMill$Mailbox") (by decide +kernel) rfl rfl (pm_off_sp S 54 a (some b)) rfl (pm_fv_sp rfl (some b)) hdg k
theorem pm_g_Proc_trail {index a : Nat} (hk : pm_k S a = 2) (hw : pm_lk own index RX1 "trail" "LProcessMill$Trail;") {b : Nat} (hp : pm_p S 55 a = some b) (hdg : decode cc pc = .ok (.getfield index, 3)) (k : pm_W G l bs own cc nL ini d kc ks Q (pc + 3) L (.ref b :: rest) S) : pm_W G l bs own cc nL ini d kc ks Q pc L (.ref a :: rest) S := pm_getf (c := 1) (j := 5) (r := (RX1, TX1, 16)) rfl (by decide) hk hw rfl hdg (by
  show pm_W G l bs own cc nL ini d kc ks Q (pc + 3) L (va_rf (pm_p S 55 a) :: rest) S
  rw [hp]
  exact k)
theorem pm_p_Proc_trail {index a : Nat} (hk : pm_k S a = 2) (hw : pm_lk own index RX1 "trail" "LProcessMill$Trail;") {b : Nat} (hini : ini = true) (hown : own = RX1) (hw2 : Cond.fieldLink own index RX1 "trail" "LProcessMill$Trail;" ∈ pm_ws) (hdg : decode cc pc = .ok (.putfield index, 3)) (k : pm_W G l bs own cc nL ini d kc ks Q (pc + 3) L rest (pm_sp S 55 a (some b))) : pm_W G l bs own cc nL ini d kc ks Q pc L (.ref b :: .ref a :: rest) S := pm_putf (c := 1) (j := 5) (r := (RX1, TX1, 16)) rfl (by decide) hk hw rfl (Or.inr ⟨rfl, hini, hown, hw2⟩) (ty := .object "ProcessMill$Trail") (by decide +kernel) rfl rfl (pm_off_sp S 55 a (some b)) rfl (pm_fv_sp rfl (some b)) hdg k
theorem pm_g_Proc_state {index a : Nat} (hk : pm_k S a = 2) (hw : pm_lk own index RX1 "state" "I") (hdg : decode cc pc = .ok (.getfield index, 3)) (k : pm_W G l bs own cc nL ini d kc ks Q (pc + 3) L (.int (pm_i S 56 a) :: rest) S) : pm_W G l bs own cc nL ini d kc ks Q pc L (.ref a :: rest) S := pm_getf (c := 1) (j := 6) (r := (RX1, TX1, 16)) rfl (by decide) hk hw rfl hdg k
theorem pm_p_Proc_state {index a : Nat} (hk : pm_k S a = 2) (hw : pm_lk own index RX1 "state" "I") {x : Int32} (hdg : decode cc pc = .ok (.putfield index, 3)) (k : pm_W G l bs own cc nL ini d kc ks Q (pc + 3) L rest (pm_si S 56 a x)) : pm_W G l bs own cc nL ini d kc ks Q pc L (.int x :: .ref a :: rest) S := pm_putf (c := 1) (j := 6) (r := (RX1, TX1, 16)) rfl (by decide) hk hw rfl (Or.inl rfl) (ty := .int) (by decide +kernel) rfl rfl (pm_off_si S 56 a x) rfl (pm_fv_si rfl x) hdg k
theorem pm_g_Proc_at {index a : Nat} (hk : pm_k S a = 2) (hw : pm_lk own index RX1 "at" "I") (hdg : decode cc pc = .ok (.getfield index, 3)) (k : pm_W G l bs own cc nL ini d kc ks Q (pc + 3) L (.int (pm_i S 57 a) :: rest) S) : pm_W G l bs own cc nL ini d kc ks Q pc L (.ref a :: rest) S := pm_getf (c := 1) (j := 7) (r := (RX1, TX1, 16)) rfl (by decide) hk hw rfl hdg k
theorem pm_p_Proc_at {index a : Nat} (hk : pm_k S a = 2) (hw : pm_lk own index RX1 "at" "I") {x : Int32} (hdg : decode cc pc = .ok (.putfield index, 3)) (k : pm_W G l bs own cc nL ini d kc ks Q (pc + 3) L rest (pm_si S 57 a x)) : pm_W G l bs own cc nL ini d kc ks Q pc L (.int x :: .ref a :: rest) S := pm_putf (c := 1) (j := 7) (r := (RX1, TX1, 16)) rfl (by decide) hk hw rfl (Or.inl rfl) (ty := .int) (by decide +kernel) rfl rfl (pm_off_si S 57 a x) rfl (pm_fv_si rfl x) hdg k
theorem pm_g_Proc_atIfMail {index a : Nat} (hk : pm_k S a = 2) (hw : pm_lk own index RX1 "atIfMail" "I") (hdg : decode cc pc = .ok (.getfield index, 3)) (k : pm_W G l bs own cc nL ini d kc ks Q (pc + 3) L (.int (pm_i S 58 a) :: rest) S) : pm_W G l bs own cc nL ini d kc ks Q pc L (.ref a :: rest) S := pm_getf (c := 1) (j := 8) (r := (RX1, TX1, 16)) rfl (by decide) hk hw rfl hdg k
theorem pm_p_Proc_atIfMail {index a : Nat} (hk : pm_k S a = 2) (hw : pm_lk own index RX1 "atIfMail" "I") {x : Int32} (hdg : decode cc pc = .ok (.putfield index, 3)) (k : pm_W G l bs own cc nL ini d kc ks Q (pc + 3) L rest (pm_si S 58 a x)) : pm_W G l bs own cc nL ini d kc ks Q pc L (.int x :: .ref a :: rest) S := pm_putf (c := 1) (j := 8) (r := (RX1, TX1, 16)) rfl (by decide) hk hw rfl (Or.inl rfl) (ty := .int) (by decide +kernel) rfl rfl (pm_off_si S 58 a x) rfl (pm_fv_si rfl x) hdg k
theorem pm_g_Proc_atIfLate {index a : Nat} (hk : pm_k S a = 2) (hw : pm_lk own index RX1 "atIfLate" "I") (hdg : decode cc pc = .ok (.getfield index, 3)) (k : pm_W G l bs own cc nL ini d kc ks Q (pc + 3) L (.int (pm_i S 59 a) :: rest) S) : pm_W G l bs own cc nL ini d kc ks Q pc L (.ref a :: rest) S := pm_getf (c := 1) (j := 9) (r := (RX1, TX1, 16)) rfl (by decide) hk hw rfl hdg k
theorem pm_p_Proc_atIfLate {index a : Nat} (hk : pm_k S a = 2) (hw : pm_lk own index RX1 "atIfLate" "I") {x : Int32} (hdg : decode cc pc = .ok (.putfield index, 3)) (k : pm_W G l bs own cc nL ini d kc ks Q (pc + 3) L rest (pm_si S 59 a x)) : pm_W G l bs own cc nL ini d kc ks Q pc L (.int x :: .ref a :: rest) S := pm_putf (c := 1) (j := 9) (r := (RX1, TX1, 16)) rfl (by decide) hk hw rfl (Or.inl rfl) (ty := .int) (by decide +kernel) rfl rfl (pm_off_si S 59 a x) rfl (pm_fv_si rfl x) hdg k
theorem pm_g_Proc_deadline {index a : Nat} (hk : pm_k S a = 2) (hw : pm_lk own index RX1 "deadline" "J") (hdg : decode cc pc = .ok (.getfield index, 3)) (k : pm_W G l bs own cc nL ini d kc ks Q (pc + 3) L (.long (pm_j S 60 a) :: rest) S) : pm_W G l bs own cc nL ini d kc ks Q pc L (.ref a :: rest) S := pm_getf (c := 1) (j := 10) (r := (RX1, TX1, 16)) rfl (by decide) hk hw rfl hdg k
theorem pm_p_Proc_deadline {index a : Nat} (hk : pm_k S a = 2) (hw : pm_lk own index RX1 "deadline" "J") {x : Int64} (hdg : decode cc pc = .ok (.putfield index, 3)) (k : pm_W G l bs own cc nL ini d kc ks Q (pc + 3) L rest (pm_sj S 60 a x)) : pm_W G l bs own cc nL ini d kc ks Q pc L (.long x :: .ref a :: rest) S := pm_putf (c := 1) (j := 10) (r := (RX1, TX1, 16)) rfl (by decide) hk hw rfl (Or.inl rfl) (ty := .long) (by decide +kernel) rfl rfl (pm_off_sj S 60 a x) rfl (pm_fv_sj rfl x) hdg k
theorem pm_g_Proc_turn {index a : Nat} (hk : pm_k S a = 2) (hw : pm_lk own index RX1 "turn" "I") (hdg : decode cc pc = .ok (.getfield index, 3)) (k : pm_W G l bs own cc nL ini d kc ks Q (pc + 3) L (.int (pm_i S 61 a) :: rest) S) : pm_W G l bs own cc nL ini d kc ks Q pc L (.ref a :: rest) S := pm_getf (c := 1) (j := 11) (r := (RX1, TX1, 16)) rfl (by decide) hk hw rfl hdg k
theorem pm_p_Proc_turn {index a : Nat} (hk : pm_k S a = 2) (hw : pm_lk own index RX1 "turn" "I") {x : Int32} (hdg : decode cc pc = .ok (.putfield index, 3)) (k : pm_W G l bs own cc nL ini d kc ks Q (pc + 3) L rest (pm_si S 61 a x)) : pm_W G l bs own cc nL ini d kc ks Q pc L (.int x :: .ref a :: rest) S := pm_putf (c := 1) (j := 11) (r := (RX1, TX1, 16)) rfl (by decide) hk hw rfl (Or.inl rfl) (ty := .int) (by decide +kernel) rfl rfl (pm_off_si S 61 a x) rfl (pm_fv_si rfl x) hdg k
theorem pm_g_Proc_name {index a : Nat} (hk : pm_k S a = 2) (hw : pm_lk own index RX1 "name" "I") (hdg : decode cc pc = .ok (.getfield index, 3)) (k : pm_W G l bs own cc nL ini d kc ks Q (pc + 3) L (.int (pm_i S 62 a) :: rest) S) : pm_W G l bs own cc nL ini d kc ks Q pc L (.ref a :: rest) S := pm_getf (c := 1) (j := 12) (r := (RX1, TX1, 16)) rfl (by decide) hk hw rfl hdg k
theorem pm_p_Proc_name {index a : Nat} (hk : pm_k S a = 2) (hw : pm_lk own index RX1 "name" "I") {x : Int32} (hdg : decode cc pc = .ok (.putfield index, 3)) (k : pm_W G l bs own cc nL ini d kc ks Q (pc + 3) L rest (pm_si S 62 a x)) : pm_W G l bs own cc nL ini d kc ks Q pc L (.int x :: .ref a :: rest) S := pm_putf (c := 1) (j := 12) (r := (RX1, TX1, 16)) rfl (by decide) hk hw rfl (Or.inl rfl) (ty := .int) (by decide +kernel) rfl rfl (pm_off_si S 62 a x) rfl (pm_fv_si rfl x) hdg k
theorem pm_g_Proc_traps {index a : Nat} (hk : pm_k S a = 2) (hw : pm_lk own index RX1 "traps" "Z") (hdg : decode cc pc = .ok (.getfield index, 3)) (k : pm_W G l bs own cc nL ini d kc ks Q (pc + 3) L (.int (pm_i S 63 a) :: rest) S) : pm_W G l bs own cc nL ini d kc ks Q pc L (.ref a :: rest) S := pm_getf (c := 1) (j := 13) (r := (RX1, TX1, 16)) rfl (by decide) hk hw rfl hdg k
theorem pm_p_Proc_traps {index a : Nat} (hk : pm_k S a = 2) (hw : pm_lk own index RX1 "traps" "Z") {x : Int32} (hx : x = 0 ∨ x = 1) (hdg : decode cc pc = .ok (.putfield index, 3)) (k : pm_W G l bs own cc nL ini d kc ks Q (pc + 3) L rest (pm_si S 63 a x)) : pm_W G l bs own cc nL ini d kc ks Q pc L (.int x :: .ref a :: rest) S := pm_putf (c := 1) (j := 13) (r := (RX1, TX1, 16)) rfl (by decide) hk hw rfl (Or.inl rfl) (ty := .boolean) (by decide +kernel) (by rcases hx with rfl | rfl <;> rfl) (by rcases hx with rfl | rfl <;> rfl) (pm_off_si S 63 a x) rfl (pm_fv_si rfl x) hdg k
theorem pm_g_Proc_links {index a : Nat} (hk : pm_k S a = 2) (hw : pm_lk own index RX1 "links" "J") (hdg : decode cc pc = .ok (.getfield index, 3)) (k : pm_W G l bs own cc nL ini d kc ks Q (pc + 3) L (.long (pm_j S 64 a) :: rest) S) : pm_W G l bs own cc nL ini d kc ks Q pc L (.ref a :: rest) S := pm_getf (c := 1) (j := 14) (r := (RX1, TX1, 16)) rfl (by decide) hk hw rfl hdg k
theorem pm_p_Proc_links {index a : Nat} (hk : pm_k S a = 2) (hw : pm_lk own index RX1 "links" "J") {x : Int64} (hdg : decode cc pc = .ok (.putfield index, 3)) (k : pm_W G l bs own cc nL ini d kc ks Q (pc + 3) L rest (pm_sj S 64 a x)) : pm_W G l bs own cc nL ini d kc ks Q pc L (.long x :: .ref a :: rest) S := pm_putf (c := 1) (j := 14) (r := (RX1, TX1, 16)) rfl (by decide) hk hw rfl (Or.inl rfl) (ty := .long) (by decide +kernel) rfl rfl (pm_off_sj S 64 a x) rfl (pm_fv_sj rfl x) hdg k
theorem pm_g_Proc_wordsDone {index a : Nat} (hk : pm_k S a = 2) (hw : pm_lk own index RX1 "wordsDone" "I") (hdg : decode cc pc = .ok (.getfield index, 3)) (k : pm_W G l bs own cc nL ini d kc ks Q (pc + 3) L (.int (pm_i S 65 a) :: rest) S) : pm_W G l bs own cc nL ini d kc ks Q pc L (.ref a :: rest) S := pm_getf (c := 1) (j := 15) (r := (RX1, TX1, 16)) rfl (by decide) hk hw rfl hdg k
theorem pm_p_Proc_wordsDone {index a : Nat} (hk : pm_k S a = 2) (hw : pm_lk own index RX1 "wordsDone" "I") {x : Int32} (hdg : decode cc pc = .ok (.putfield index, 3)) (k : pm_W G l bs own cc nL ini d kc ks Q (pc + 3) L rest (pm_si S 65 a x)) : pm_W G l bs own cc nL ini d kc ks Q pc L (.int x :: .ref a :: rest) S := pm_putf (c := 1) (j := 15) (r := (RX1, TX1, 16)) rfl (by decide) hk hw rfl (Or.inl rfl) (ty := .int) (by decide +kernel) rfl rfl (pm_off_si S 65 a x) rfl (pm_fv_si rfl x) hdg k
theorem pm_df_Proc (S : pm_S) (a : Nat) : ∀ j, j < 16 → defaultValue (tyX1 j) = pm_fv (pm_nw S a 2 0) 1 a j := by
  intro j hj
  have h := hj
  have e : ∀ o f, pm_sv (pm_nw S a 2 0) o f a = (match o with | 0 => .int 0 | 1 => .null | _ => .long 0) := by
    intro o f
    unfold pm_sv
    split <;> simp [pm_i_nw, pm_p_nw, pm_j_nw, va_rf]
  unfold pm_fv
  rw [e]
  revert j
  decide
theorem pm_new_Proc {index kc' ks' : Nat} (hw1 : Cond.classLink own index RX1 ∈ pm_ws) (hkc : kc' + 1 ≤ kc) (hks : ks' + 16 ≤ ks) (hdg : decode cc pc = .ok (.new index, 3)) (k : ∀ a : Nat, pm_k S a = 0 → bs ≤ a → pm_W G l bs own cc nL ini d kc' ks' Q (pc + 3) L (.ref a :: rest) (pm_nw S a 2 0)) : pm_W G l bs own cc nL ini d kc ks Q pc L rest S := pm_new (c := 1) (r := (RX1, TX1, 16)) rfl hw1 pm_in_X1 pm_ii_X1 hkc hks (fun S a j _ hj ty hty => by cases hty; exact pm_df_Proc S a j hj) hdg k
theorem pm_g_Sheet_kept {index a : Nat} (hk : pm_k S a = 3) (hw : pm_lk own index RX2 "kept" "[I") {b : Nat} (hp : pm_p S 100 a = some b) (hdg : decode cc pc = .ok (.getfield index, 3)) (k : pm_W G l bs own cc nL ini d kc ks Q (pc + 3) L (.ref b :: rest) S) : pm_W G l bs own cc nL ini d kc ks Q pc L (.ref a :: rest) S := pm_getf (c := 2) (j := 0) (r := (RX2, TX2, 2)) rfl (by decide) hk hw rfl hdg (by
  show pm_W G l bs own cc nL ini d kc ks Q (pc + 3) L (va_rf (pm_p S 100 a) :: rest) S
  rw [hp]
  exact k)
theorem pm_p_Sheet_kept {index a : Nat} (hk : pm_k S a = 3) (hw : pm_lk own index RX2 "kept" "[I") {b : Nat} (hini : ini = true) (hown : own = RX2) (hw2 : Cond.fieldLink own index RX2 "kept" "[I" ∈ pm_ws) (hdg : decode cc pc = .ok (.putfield index, 3)) (k : pm_W G l bs own cc nL ini d kc ks Q (pc + 3) L rest (pm_sp S 100 a (some b))) : pm_W G l bs own cc nL ini d kc ks Q pc L (.ref b :: .ref a :: rest) S := pm_putf (c := 2) (j := 0) (r := (RX2, TX2, 2)) rfl (by decide) hk hw rfl (Or.inr ⟨rfl, hini, hown, hw2⟩) (ty := .array .int) (by decide +kernel) rfl rfl (pm_off_sp S 100 a (some b)) rfl (pm_fv_sp rfl (some b)) hdg k
theorem pm_g_Sheet_printed {index a : Nat} (hk : pm_k S a = 3) (hw : pm_lk own index RX2 "printed" "I") (hdg : decode cc pc = .ok (.getfield index, 3)) (k : pm_W G l bs own cc nL ini d kc ks Q (pc + 3) L (.int (pm_i S 101 a) :: rest) S) : pm_W G l bs own cc nL ini d kc ks Q pc L (.ref a :: rest) S := pm_getf (c := 2) (j := 1) (r := (RX2, TX2, 2)) rfl (by decide) hk hw rfl hdg k
theorem pm_p_Sheet_printed {index a : Nat} (hk : pm_k S a = 3) (hw : pm_lk own index RX2 "printed" "I") {x : Int32} (hdg : decode cc pc = .ok (.putfield index, 3)) (k : pm_W G l bs own cc nL ini d kc ks Q (pc + 3) L rest (pm_si S 101 a x)) : pm_W G l bs own cc nL ini d kc ks Q pc L (.int x :: .ref a :: rest) S := pm_putf (c := 2) (j := 1) (r := (RX2, TX2, 2)) rfl (by decide) hk hw rfl (Or.inl rfl) (ty := .int) (by decide +kernel) rfl rfl (pm_off_si S 101 a x) rfl (pm_fv_si rfl x) hdg k
theorem pm_df_Sheet (S : pm_S) (a : Nat) : ∀ j, j < 2 → defaultValue (tyX2 j) = pm_fv (pm_nw S a 3 0) 2 a j := by
  intro j hj
  have h := hj
  have e : ∀ o f, pm_sv (pm_nw S a 3 0) o f a = (match o with | 0 => .int 0 | 1 => .null | _ => .long 0) := by
    intro o f
    unfold pm_sv
    split <;> simp [pm_i_nw, pm_p_nw, pm_j_nw, va_rf]
  unfold pm_fv
  rw [e]
  revert j
  decide
theorem pm_new_Sheet {index kc' ks' : Nat} (hw1 : Cond.classLink own index RX2 ∈ pm_ws) (hkc : kc' + 1 ≤ kc) (hks : ks' + 2 ≤ ks) (hdg : decode cc pc = .ok (.new index, 3)) (k : ∀ a : Nat, pm_k S a = 0 → bs ≤ a → pm_W G l bs own cc nL ini d kc' ks' Q (pc + 3) L (.ref a :: rest) (pm_nw S a 3 0)) : pm_W G l bs own cc nL ini d kc ks Q pc L rest S := pm_new (c := 2) (r := (RX2, TX2, 2)) rfl hw1 pm_in_X2 pm_ii_X2 hkc hks (fun S a j _ hj ty hty => by cases hty; exact pm_df_Sheet S a j hj) hdg k
theorem pm_g_Term_row {index a : Nat} (hk : pm_k S a = 4) (hw : pm_lk own index RX3 "row" "[I") {b : Nat} (hp : pm_p S 150 a = some b) (hdg : decode cc pc = .ok (.getfield index, 3)) (k : pm_W G l bs own cc nL ini d kc ks Q (pc + 3) L (.ref b :: rest) S) : pm_W G l bs own cc nL ini d kc ks Q pc L (.ref a :: rest) S := pm_getf (c := 3) (j := 0) (r := (RX3, TX3, 2)) rfl (by decide) hk hw rfl hdg (by
  show pm_W G l bs own cc nL ini d kc ks Q (pc + 3) L (va_rf (pm_p S 150 a) :: rest) S
  rw [hp]
  exact k)
theorem pm_p_Term_row {index a : Nat} (hk : pm_k S a = 4) (hw : pm_lk own index RX3 "row" "[I") {b : Nat} (hini : ini = true) (hown : own = RX3) (hw2 : Cond.fieldLink own index RX3 "row" "[I" ∈ pm_ws) (hdg : decode cc pc = .ok (.putfield index, 3)) (k : pm_W G l bs own cc nL ini d kc ks Q (pc + 3) L rest (pm_sp S 150 a (some b))) : pm_W G l bs own cc nL ini d kc ks Q pc L (.ref b :: .ref a :: rest) S := pm_putf (c := 3) (j := 0) (r := (RX3, TX3, 2)) rfl (by decide) hk hw rfl (Or.inr ⟨rfl, hini, hown, hw2⟩) (ty := .array .int) (by decide +kernel) rfl rfl (pm_off_sp S 150 a (some b)) rfl (pm_fv_sp rfl (some b)) hdg k
theorem pm_g_Term_length {index a : Nat} (hk : pm_k S a = 4) (hw : pm_lk own index RX3 "length" "I") (hdg : decode cc pc = .ok (.getfield index, 3)) (k : pm_W G l bs own cc nL ini d kc ks Q (pc + 3) L (.int (pm_i S 151 a) :: rest) S) : pm_W G l bs own cc nL ini d kc ks Q pc L (.ref a :: rest) S := pm_getf (c := 3) (j := 1) (r := (RX3, TX3, 2)) rfl (by decide) hk hw rfl hdg k
theorem pm_p_Term_length {index a : Nat} (hk : pm_k S a = 4) (hw : pm_lk own index RX3 "length" "I") {x : Int32} (hdg : decode cc pc = .ok (.putfield index, 3)) (k : pm_W G l bs own cc nL ini d kc ks Q (pc + 3) L rest (pm_si S 151 a x)) : pm_W G l bs own cc nL ini d kc ks Q pc L (.int x :: .ref a :: rest) S := pm_putf (c := 3) (j := 1) (r := (RX3, TX3, 2)) rfl (by decide) hk hw rfl (Or.inl rfl) (ty := .int) (by decide +kernel) rfl rfl (pm_off_si S 151 a x) rfl (pm_fv_si rfl x) hdg k
theorem pm_df_Term (S : pm_S) (a : Nat) : ∀ j, j < 2 → defaultValue (tyX3 j) = pm_fv (pm_nw S a 4 0) 3 a j := by
  intro j hj
  have h := hj
  have e : ∀ o f, pm_sv (pm_nw S a 4 0) o f a = (match o with | 0 => .int 0 | 1 => .null | _ => .long 0) := by
    intro o f
    unfold pm_sv
    split <;> simp [pm_i_nw, pm_p_nw, pm_j_nw, va_rf]
  unfold pm_fv
  rw [e]
  revert j
  decide
theorem pm_new_Term {index kc' ks' : Nat} (hw1 : Cond.classLink own index RX3 ∈ pm_ws) (hkc : kc' + 1 ≤ kc) (hks : ks' + 2 ≤ ks) (hdg : decode cc pc = .ok (.new index, 3)) (k : ∀ a : Nat, pm_k S a = 0 → bs ≤ a → pm_W G l bs own cc nL ini d kc' ks' Q (pc + 3) L (.ref a :: rest) (pm_nw S a 4 0)) : pm_W G l bs own cc nL ini d kc ks Q pc L rest S := pm_new (c := 3) (r := (RX3, TX3, 2)) rfl hw1 pm_in_X3 pm_ii_X3 hkc hks (fun S a j _ hj ty hty => by cases hty; exact pm_df_Term S a j hj) hdg k
theorem pm_g_Trail_backs {index a : Nat} (hk : pm_k S a = 5) (hw : pm_lk own index RX4 "backs" "[I") {b : Nat} (hp : pm_p S 200 a = some b) (hdg : decode cc pc = .ok (.getfield index, 3)) (k : pm_W G l bs own cc nL ini d kc ks Q (pc + 3) L (.ref b :: rest) S) : pm_W G l bs own cc nL ini d kc ks Q pc L (.ref a :: rest) S := pm_getf (c := 4) (j := 0) (r := (RX4, TX4, 5)) rfl (by decide) hk hw rfl hdg (by
  show pm_W G l bs own cc nL ini d kc ks Q (pc + 3) L (va_rf (pm_p S 200 a) :: rest) S
  rw [hp]
  exact k)
theorem pm_p_Trail_backs {index a : Nat} (hk : pm_k S a = 5) (hw : pm_lk own index RX4 "backs" "[I") {b : Nat} (hini : ini = true) (hown : own = RX4) (hw2 : Cond.fieldLink own index RX4 "backs" "[I" ∈ pm_ws) (hdg : decode cc pc = .ok (.putfield index, 3)) (k : pm_W G l bs own cc nL ini d kc ks Q (pc + 3) L rest (pm_sp S 200 a (some b))) : pm_W G l bs own cc nL ini d kc ks Q pc L (.ref b :: .ref a :: rest) S := pm_putf (c := 4) (j := 0) (r := (RX4, TX4, 5)) rfl (by decide) hk hw rfl (Or.inr ⟨rfl, hini, hown, hw2⟩) (ty := .array .int) (by decide +kernel) rfl rfl (pm_off_sp S 200 a (some b)) rfl (pm_fv_sp rfl (some b)) hdg k
theorem pm_g_Trail_catches {index a : Nat} (hk : pm_k S a = 5) (hw : pm_lk own index RX4 "catches" "[I") {b : Nat} (hp : pm_p S 201 a = some b) (hdg : decode cc pc = .ok (.getfield index, 3)) (k : pm_W G l bs own cc nL ini d kc ks Q (pc + 3) L (.ref b :: rest) S) : pm_W G l bs own cc nL ini d kc ks Q pc L (.ref a :: rest) S := pm_getf (c := 4) (j := 1) (r := (RX4, TX4, 5)) rfl (by decide) hk hw rfl hdg (by
  show pm_W G l bs own cc nL ini d kc ks Q (pc + 3) L (va_rf (pm_p S 201 a) :: rest) S
  rw [hp]
  exact k)
theorem pm_p_Trail_catches {index a : Nat} (hk : pm_k S a = 5) (hw : pm_lk own index RX4 "catches" "[I") {b : Nat} (hini : ini = true) (hown : own = RX4) (hw2 : Cond.fieldLink own index RX4 "catches" "[I" ∈ pm_ws) (hdg : decode cc pc = .ok (.putfield index, 3)) (k : pm_W G l bs own cc nL ini d kc ks Q (pc + 3) L rest (pm_sp S 201 a (some b))) : pm_W G l bs own cc nL ini d kc ks Q pc L (.ref b :: .ref a :: rest) S := pm_putf (c := 4) (j := 1) (r := (RX4, TX4, 5)) rfl (by decide) hk hw rfl (Or.inr ⟨rfl, hini, hown, hw2⟩) (ty := .array .int) (by decide +kernel) rfl rfl (pm_off_sp S 201 a (some b)) rfl (pm_fv_sp rfl (some b)) hdg k
theorem pm_g_Trail_backsAtCatch {index a : Nat} (hk : pm_k S a = 5) (hw : pm_lk own index RX4 "backsAtCatch" "[I") {b : Nat} (hp : pm_p S 202 a = some b) (hdg : decode cc pc = .ok (.getfield index, 3)) (k : pm_W G l bs own cc nL ini d kc ks Q (pc + 3) L (.ref b :: rest) S) : pm_W G l bs own cc nL ini d kc ks Q pc L (.ref a :: rest) S := pm_getf (c := 4) (j := 2) (r := (RX4, TX4, 5)) rfl (by decide) hk hw rfl hdg (by
  show pm_W G l bs own cc nL ini d kc ks Q (pc + 3) L (va_rf (pm_p S 202 a) :: rest) S
  rw [hp]
  exact k)
theorem pm_p_Trail_backsAtCatch {index a : Nat} (hk : pm_k S a = 5) (hw : pm_lk own index RX4 "backsAtCatch" "[I") {b : Nat} (hini : ini = true) (hown : own = RX4) (hw2 : Cond.fieldLink own index RX4 "backsAtCatch" "[I" ∈ pm_ws) (hdg : decode cc pc = .ok (.putfield index, 3)) (k : pm_W G l bs own cc nL ini d kc ks Q (pc + 3) L rest (pm_sp S 202 a (some b))) : pm_W G l bs own cc nL ini d kc ks Q pc L (.ref b :: .ref a :: rest) S := pm_putf (c := 4) (j := 2) (r := (RX4, TX4, 5)) rfl (by decide) hk hw rfl (Or.inr ⟨rfl, hini, hown, hw2⟩) (ty := .array .int) (by decide +kernel) rfl rfl (pm_off_sp S 202 a (some b)) rfl (pm_fv_sp rfl (some b)) hdg k
theorem pm_g_Trail_backCount {index a : Nat} (hk : pm_k S a = 5) (hw : pm_lk own index RX4 "backCount" "I") (hdg : decode cc pc = .ok (.getfield index, 3)) (k : pm_W G l bs own cc nL ini d kc ks Q (pc + 3) L (.int (pm_i S 203 a) :: rest) S) : pm_W G l bs own cc nL ini d kc ks Q pc L (.ref a :: rest) S := pm_getf (c := 4) (j := 3) (r := (RX4, TX4, 5)) rfl (by decide) hk hw rfl hdg k
theorem pm_p_Trail_backCount {index a : Nat} (hk : pm_k S a = 5) (hw : pm_lk own index RX4 "backCount" "I") {x : Int32} (hdg : decode cc pc = .ok (.putfield index, 3)) (k : pm_W G l bs own cc nL ini d kc ks Q (pc + 3) L rest (pm_si S 203 a x)) : pm_W G l bs own cc nL ini d kc ks Q pc L (.int x :: .ref a :: rest) S := pm_putf (c := 4) (j := 3) (r := (RX4, TX4, 5)) rfl (by decide) hk hw rfl (Or.inl rfl) (ty := .int) (by decide +kernel) rfl rfl (pm_off_si S 203 a x) rfl (pm_fv_si rfl x) hdg k
theorem pm_g_Trail_catchCount {index a : Nat} (hk : pm_k S a = 5) (hw : pm_lk own index RX4 "catchCount" "I") (hdg : decode cc pc = .ok (.getfield index, 3)) (k : pm_W G l bs own cc nL ini d kc ks Q (pc + 3) L (.int (pm_i S 204 a) :: rest) S) : pm_W G l bs own cc nL ini d kc ks Q pc L (.ref a :: rest) S := pm_getf (c := 4) (j := 4) (r := (RX4, TX4, 5)) rfl (by decide) hk hw rfl hdg k
theorem pm_p_Trail_catchCount {index a : Nat} (hk : pm_k S a = 5) (hw : pm_lk own index RX4 "catchCount" "I") {x : Int32} (hdg : decode cc pc = .ok (.putfield index, 3)) (k : pm_W G l bs own cc nL ini d kc ks Q (pc + 3) L rest (pm_si S 204 a x)) : pm_W G l bs own cc nL ini d kc ks Q pc L (.int x :: .ref a :: rest) S := pm_putf (c := 4) (j := 4) (r := (RX4, TX4, 5)) rfl (by decide) hk hw rfl (Or.inl rfl) (ty := .int) (by decide +kernel) rfl rfl (pm_off_si S 204 a x) rfl (pm_fv_si rfl x) hdg k
theorem pm_df_Trail (S : pm_S) (a : Nat) : ∀ j, j < 5 → defaultValue (tyX4 j) = pm_fv (pm_nw S a 5 0) 4 a j := by
  intro j hj
  have h := hj
  have e : ∀ o f, pm_sv (pm_nw S a 5 0) o f a = (match o with | 0 => .int 0 | 1 => .null | _ => .long 0) := by
    intro o f
    unfold pm_sv
    split <;> simp [pm_i_nw, pm_p_nw, pm_j_nw, va_rf]
  unfold pm_fv
  rw [e]
  revert j
  decide
theorem pm_new_Trail {index kc' ks' : Nat} (hw1 : Cond.classLink own index RX4 ∈ pm_ws) (hkc : kc' + 1 ≤ kc) (hks : ks' + 5 ≤ ks) (hdg : decode cc pc = .ok (.new index, 3)) (k : ∀ a : Nat, pm_k S a = 0 → bs ≤ a → pm_W G l bs own cc nL ini d kc' ks' Q (pc + 3) L (.ref a :: rest) (pm_nw S a 5 0)) : pm_W G l bs own cc nL ini d kc ks Q pc L rest S := pm_new (c := 4) (r := (RX4, TX4, 5)) rfl hw1 pm_in_X4 pm_ii_X4 hkc hks (fun S a j _ hj ty hty => by cases hty; exact pm_df_Trail S a j hj) hdg k
theorem pm_g_Watches_numbers {index a : Nat} (hk : pm_k S a = 6) (hw : pm_lk own index RX5 "numbers" "[I") {b : Nat} (hp : pm_p S 250 a = some b) (hdg : decode cc pc = .ok (.getfield index, 3)) (k : pm_W G l bs own cc nL ini d kc ks Q (pc + 3) L (.ref b :: rest) S) : pm_W G l bs own cc nL ini d kc ks Q pc L (.ref a :: rest) S := pm_getf (c := 5) (j := 0) (r := (RX5, TX5, 5)) rfl (by decide) hk hw rfl hdg (by
  show pm_W G l bs own cc nL ini d kc ks Q (pc + 3) L (va_rf (pm_p S 250 a) :: rest) S
  rw [hp]
  exact k)
theorem pm_p_Watches_numbers {index a : Nat} (hk : pm_k S a = 6) (hw : pm_lk own index RX5 "numbers" "[I") {b : Nat} (hini : ini = true) (hown : own = RX5) (hw2 : Cond.fieldLink own index RX5 "numbers" "[I" ∈ pm_ws) (hdg : decode cc pc = .ok (.putfield index, 3)) (k : pm_W G l bs own cc nL ini d kc ks Q (pc + 3) L rest (pm_sp S 250 a (some b))) : pm_W G l bs own cc nL ini d kc ks Q pc L (.ref b :: .ref a :: rest) S := pm_putf (c := 5) (j := 0) (r := (RX5, TX5, 5)) rfl (by decide) hk hw rfl (Or.inr ⟨rfl, hini, hown, hw2⟩) (ty := .array .int) (by decide +kernel) rfl rfl (pm_off_sp S 250 a (some b)) rfl (pm_fv_sp rfl (some b)) hdg k
theorem pm_g_Watches_watchers {index a : Nat} (hk : pm_k S a = 6) (hw : pm_lk own index RX5 "watchers" "[I") {b : Nat} (hp : pm_p S 251 a = some b) (hdg : decode cc pc = .ok (.getfield index, 3)) (k : pm_W G l bs own cc nL ini d kc ks Q (pc + 3) L (.ref b :: rest) S) : pm_W G l bs own cc nL ini d kc ks Q pc L (.ref a :: rest) S := pm_getf (c := 5) (j := 1) (r := (RX5, TX5, 5)) rfl (by decide) hk hw rfl hdg (by
  show pm_W G l bs own cc nL ini d kc ks Q (pc + 3) L (va_rf (pm_p S 251 a) :: rest) S
  rw [hp]
  exact k)
theorem pm_p_Watches_watchers {index a : Nat} (hk : pm_k S a = 6) (hw : pm_lk own index RX5 "watchers" "[I") {b : Nat} (hini : ini = true) (hown : own = RX5) (hw2 : Cond.fieldLink own index RX5 "watchers" "[I" ∈ pm_ws) (hdg : decode cc pc = .ok (.putfield index, 3)) (k : pm_W G l bs own cc nL ini d kc ks Q (pc + 3) L rest (pm_sp S 251 a (some b))) : pm_W G l bs own cc nL ini d kc ks Q pc L (.ref b :: .ref a :: rest) S := pm_putf (c := 5) (j := 1) (r := (RX5, TX5, 5)) rfl (by decide) hk hw rfl (Or.inr ⟨rfl, hini, hown, hw2⟩) (ty := .array .int) (by decide +kernel) rfl rfl (pm_off_sp S 251 a (some b)) rfl (pm_fv_sp rfl (some b)) hdg k
theorem pm_g_Watches_watched {index a : Nat} (hk : pm_k S a = 6) (hw : pm_lk own index RX5 "watched" "[I") {b : Nat} (hp : pm_p S 252 a = some b) (hdg : decode cc pc = .ok (.getfield index, 3)) (k : pm_W G l bs own cc nL ini d kc ks Q (pc + 3) L (.ref b :: rest) S) : pm_W G l bs own cc nL ini d kc ks Q pc L (.ref a :: rest) S := pm_getf (c := 5) (j := 2) (r := (RX5, TX5, 5)) rfl (by decide) hk hw rfl hdg (by
  show pm_W G l bs own cc nL ini d kc ks Q (pc + 3) L (va_rf (pm_p S 252 a) :: rest) S
  rw [hp]
  exact k)
theorem pm_p_Watches_watched {index a : Nat} (hk : pm_k S a = 6) (hw : pm_lk own index RX5 "watched" "[I") {b : Nat} (hini : ini = true) (hown : own = RX5) (hw2 : Cond.fieldLink own index RX5 "watched" "[I" ∈ pm_ws) (hdg : decode cc pc = .ok (.putfield index, 3)) (k : pm_W G l bs own cc nL ini d kc ks Q (pc + 3) L rest (pm_sp S 252 a (some b))) : pm_W G l bs own cc nL ini d kc ks Q pc L (.ref b :: .ref a :: rest) S := pm_putf (c := 5) (j := 2) (r := (RX5, TX5, 5)) rfl (by decide) hk hw rfl (Or.inr ⟨rfl, hini, hown, hw2⟩) (ty := .array .int) (by decide +kernel) rfl rfl (pm_off_sp S 252 a (some b)) rfl (pm_fv_sp rfl (some b)) hdg k
theorem pm_g_Watches_count {index a : Nat} (hk : pm_k S a = 6) (hw : pm_lk own index RX5 "count" "I") (hdg : decode cc pc = .ok (.getfield index, 3)) (k : pm_W G l bs own cc nL ini d kc ks Q (pc + 3) L (.int (pm_i S 253 a) :: rest) S) : pm_W G l bs own cc nL ini d kc ks Q pc L (.ref a :: rest) S := pm_getf (c := 5) (j := 3) (r := (RX5, TX5, 5)) rfl (by decide) hk hw rfl hdg k
theorem pm_p_Watches_count {index a : Nat} (hk : pm_k S a = 6) (hw : pm_lk own index RX5 "count" "I") {x : Int32} (hdg : decode cc pc = .ok (.putfield index, 3)) (k : pm_W G l bs own cc nL ini d kc ks Q (pc + 3) L rest (pm_si S 253 a x)) : pm_W G l bs own cc nL ini d kc ks Q pc L (.int x :: .ref a :: rest) S := pm_putf (c := 5) (j := 3) (r := (RX5, TX5, 5)) rfl (by decide) hk hw rfl (Or.inl rfl) (ty := .int) (by decide +kernel) rfl rfl (pm_off_si S 253 a x) rfl (pm_fv_si rfl x) hdg k
theorem pm_g_Watches_made {index a : Nat} (hk : pm_k S a = 6) (hw : pm_lk own index RX5 "made" "I") (hdg : decode cc pc = .ok (.getfield index, 3)) (k : pm_W G l bs own cc nL ini d kc ks Q (pc + 3) L (.int (pm_i S 254 a) :: rest) S) : pm_W G l bs own cc nL ini d kc ks Q pc L (.ref a :: rest) S := pm_getf (c := 5) (j := 4) (r := (RX5, TX5, 5)) rfl (by decide) hk hw rfl hdg k
theorem pm_p_Watches_made {index a : Nat} (hk : pm_k S a = 6) (hw : pm_lk own index RX5 "made" "I") {x : Int32} (hdg : decode cc pc = .ok (.putfield index, 3)) (k : pm_W G l bs own cc nL ini d kc ks Q (pc + 3) L rest (pm_si S 254 a x)) : pm_W G l bs own cc nL ini d kc ks Q pc L (.int x :: .ref a :: rest) S := pm_putf (c := 5) (j := 4) (r := (RX5, TX5, 5)) rfl (by decide) hk hw rfl (Or.inl rfl) (ty := .int) (by decide +kernel) rfl rfl (pm_off_si S 254 a x) rfl (pm_fv_si rfl x) hdg k
theorem pm_df_Watches (S : pm_S) (a : Nat) : ∀ j, j < 5 → defaultValue (tyX5 j) = pm_fv (pm_nw S a 6 0) 5 a j := by
  intro j hj
  have h := hj
  have e : ∀ o f, pm_sv (pm_nw S a 6 0) o f a = (match o with | 0 => .int 0 | 1 => .null | _ => .long 0) := by
    intro o f
    unfold pm_sv
    split <;> simp [pm_i_nw, pm_p_nw, pm_j_nw, va_rf]
  unfold pm_fv
  rw [e]
  revert j
  decide
theorem pm_new_Watches {index kc' ks' : Nat} (hw1 : Cond.classLink own index RX5 ∈ pm_ws) (hkc : kc' + 1 ≤ kc) (hks : ks' + 5 ≤ ks) (hdg : decode cc pc = .ok (.new index, 3)) (k : ∀ a : Nat, pm_k S a = 0 → bs ≤ a → pm_W G l bs own cc nL ini d kc' ks' Q (pc + 3) L (.ref a :: rest) (pm_nw S a 6 0)) : pm_W G l bs own cc nL ini d kc ks Q pc L rest S := pm_new (c := 5) (r := (RX5, TX5, 5)) rfl hw1 pm_in_X5 pm_ii_X5 hkc hks (fun S a j _ hj ty hty => by cases hty; exact pm_df_Watches S a j hj) hdg k
theorem pm_g_Mill_program {index a : Nat} (hk : pm_k S a = 7) (hw : pm_lk own index RX6 "program" "[I") {b : Nat} (hp : pm_p S 300 a = some b) (hdg : decode cc pc = .ok (.getfield index, 3)) (k : pm_W G l bs own cc nL ini d kc ks Q (pc + 3) L (.ref b :: rest) S) : pm_W G l bs own cc nL ini d kc ks Q pc L (.ref a :: rest) S := pm_getf (c := 6) (j := 0) (r := (RX6, TX6, 16)) rfl (by decide) hk hw rfl hdg (by
  show pm_W G l bs own cc nL ini d kc ks Q (pc + 3) L (va_rf (pm_p S 300 a) :: rest) S
  rw [hp]
  exact k)
theorem pm_p_Mill_program {index a : Nat} (hk : pm_k S a = 7) (hw : pm_lk own index RX6 "program" "[I") {b : Nat} (hini : ini = true) (hown : own = RX6) (hw2 : Cond.fieldLink own index RX6 "program" "[I" ∈ pm_ws) (hdg : decode cc pc = .ok (.putfield index, 3)) (k : pm_W G l bs own cc nL ini d kc ks Q (pc + 3) L rest (pm_sp S 300 a (some b))) : pm_W G l bs own cc nL ini d kc ks Q pc L (.ref b :: .ref a :: rest) S := pm_putf (c := 6) (j := 0) (r := (RX6, TX6, 16)) rfl (by decide) hk hw rfl (Or.inr ⟨rfl, hini, hown, hw2⟩) (ty := .array .int) (by decide +kernel) rfl rfl (pm_off_sp S 300 a (some b)) rfl (pm_fv_sp rfl (some b)) hdg k
theorem pm_g_Mill_processes {index a : Nat} (hk : pm_k S a = 7) (hw : pm_lk own index RX6 "processes" "[LProcessMill$Proc;") {b : Nat} (hp : pm_p S 301 a = some b) (hdg : decode cc pc = .ok (.getfield index, 3)) (k : pm_W G l bs own cc nL ini d kc ks Q (pc + 3) L (.ref b :: rest) S) : pm_W G l bs own cc nL ini d kc ks Q pc L (.ref a :: rest) S := pm_getf (c := 6) (j := 1) (r := (RX6, TX6, 16)) rfl (by decide) hk hw rfl hdg (by
  show pm_W G l bs own cc nL ini d kc ks Q (pc + 3) L (va_rf (pm_p S 301 a) :: rest) S
  rw [hp]
  exact k)
theorem pm_p_Mill_processes {index a : Nat} (hk : pm_k S a = 7) (hw : pm_lk own index RX6 "processes" "[LProcessMill$Proc;") {b : Nat} (hini : ini = true) (hown : own = RX6) (hw2 : Cond.fieldLink own index RX6 "processes" "[LProcessMill$Proc;" ∈ pm_ws) (hdg : decode cc pc = .ok (.putfield index, 3)) (k : pm_W G l bs own cc nL ini d kc ks Q (pc + 3) L rest (pm_sp S 301 a (some b))) : pm_W G l bs own cc nL ini d kc ks Q pc L (.ref b :: .ref a :: rest) S := pm_putf (c := 6) (j := 1) (r := (RX6, TX6, 16)) rfl (by decide) hk hw rfl (Or.inr ⟨rfl, hini, hown, hw2⟩) (ty := .array (.object "ProcessMill$Proc")) (by decide +kernel) rfl rfl (pm_off_sp S 301 a (some b)) rfl (pm_fv_sp rfl (some b)) hdg k
theorem pm_g_Mill_named {index a : Nat} (hk : pm_k S a = 7) (hw : pm_lk own index RX6 "named" "[LProcessMill$Proc;") {b : Nat} (hp : pm_p S 302 a = some b) (hdg : decode cc pc = .ok (.getfield index, 3)) (k : pm_W G l bs own cc nL ini d kc ks Q (pc + 3) L (.ref b :: rest) S) : pm_W G l bs own cc nL ini d kc ks Q pc L (.ref a :: rest) S := pm_getf (c := 6) (j := 2) (r := (RX6, TX6, 16)) rfl (by decide) hk hw rfl hdg (by
  show pm_W G l bs own cc nL ini d kc ks Q (pc + 3) L (va_rf (pm_p S 302 a) :: rest) S
  rw [hp]
  exact k)
theorem pm_p_Mill_named {index a : Nat} (hk : pm_k S a = 7) (hw : pm_lk own index RX6 "named" "[LProcessMill$Proc;") {b : Nat} (hini : ini = true) (hown : own = RX6) (hw2 : Cond.fieldLink own index RX6 "named" "[LProcessMill$Proc;" ∈ pm_ws) (hdg : decode cc pc = .ok (.putfield index, 3)) (k : pm_W G l bs own cc nL ini d kc ks Q (pc + 3) L rest (pm_sp S 302 a (some b))) : pm_W G l bs own cc nL ini d kc ks Q pc L (.ref b :: .ref a :: rest) S := pm_putf (c := 6) (j := 2) (r := (RX6, TX6, 16)) rfl (by decide) hk hw rfl (Or.inr ⟨rfl, hini, hown, hw2⟩) (ty := .array (.object "ProcessMill$Proc")) (by decide +kernel) rfl rfl (pm_off_sp S 302 a (some b)) rfl (pm_fv_sp rfl (some b)) hdg k
theorem pm_g_Mill_dying {index a : Nat} (hk : pm_k S a = 7) (hw : pm_lk own index RX6 "dying" "[LProcessMill$Proc;") {b : Nat} (hp : pm_p S 303 a = some b) (hdg : decode cc pc = .ok (.getfield index, 3)) (k : pm_W G l bs own cc nL ini d kc ks Q (pc + 3) L (.ref b :: rest) S) : pm_W G l bs own cc nL ini d kc ks Q pc L (.ref a :: rest) S := pm_getf (c := 6) (j := 3) (r := (RX6, TX6, 16)) rfl (by decide) hk hw rfl hdg (by
  show pm_W G l bs own cc nL ini d kc ks Q (pc + 3) L (va_rf (pm_p S 303 a) :: rest) S
  rw [hp]
  exact k)
theorem pm_p_Mill_dying {index a : Nat} (hk : pm_k S a = 7) (hw : pm_lk own index RX6 "dying" "[LProcessMill$Proc;") {b : Nat} (hini : ini = true) (hown : own = RX6) (hw2 : Cond.fieldLink own index RX6 "dying" "[LProcessMill$Proc;" ∈ pm_ws) (hdg : decode cc pc = .ok (.putfield index, 3)) (k : pm_W G l bs own cc nL ini d kc ks Q (pc + 3) L rest (pm_sp S 303 a (some b))) : pm_W G l bs own cc nL ini d kc ks Q pc L (.ref b :: .ref a :: rest) S := pm_putf (c := 6) (j := 3) (r := (RX6, TX6, 16)) rfl (by decide) hk hw rfl (Or.inr ⟨rfl, hini, hown, hw2⟩) (ty := .array (.object "ProcessMill$Proc")) (by decide +kernel) rfl rfl (pm_off_sp S 303 a (some b)) rfl (pm_fv_sp rfl (some b)) hdg k
theorem pm_g_Mill_watches {index a : Nat} (hk : pm_k S a = 7) (hw : pm_lk own index RX6 "watches" "LProcessMill$Watches;") {b : Nat} (hp : pm_p S 304 a = some b) (hdg : decode cc pc = .ok (.getfield index, 3)) (k : pm_W G l bs own cc nL ini d kc ks Q (pc + 3) L (.ref b :: rest) S) : pm_W G l bs own cc nL ini d kc ks Q pc L (.ref a :: rest) S := pm_getf (c := 6) (j := 4) (r := (RX6, TX6, 16)) rfl (by decide) hk hw rfl hdg (by
  show pm_W G l bs own cc nL ini d kc ks Q (pc + 3) L (va_rf (pm_p S 304 a) :: rest) S
  rw [hp]
  exact k)
theorem pm_p_Mill_watches {index a : Nat} (hk : pm_k S a = 7) (hw : pm_lk own index RX6 "watches" "LProcessMill$Watches;") {b : Nat} (hini : ini = true) (hown : own = RX6) (hw2 : Cond.fieldLink own index RX6 "watches" "LProcessMill$Watches;" ∈ pm_ws) (hdg : decode cc pc = .ok (.putfield index, 3)) (k : pm_W G l bs own cc nL ini d kc ks Q (pc + 3) L rest (pm_sp S 304 a (some b))) : pm_W G l bs own cc nL ini d kc ks Q pc L (.ref b :: .ref a :: rest) S := pm_putf (c := 6) (j := 4) (r := (RX6, TX6, 16)) rfl (by decide) hk hw rfl (Or.inr ⟨rfl, hini, hown, hw2⟩) (ty := .object "ProcessMill$Watches") (by decide +kernel) rfl rfl (pm_off_sp S 304 a (some b)) rfl (pm_fv_sp rfl (some b)) hdg k
theorem pm_g_Mill_sheet {index a : Nat} (hk : pm_k S a = 7) (hw : pm_lk own index RX6 "sheet" "LProcessMill$Sheet;") {b : Nat} (hp : pm_p S 305 a = some b) (hdg : decode cc pc = .ok (.getfield index, 3)) (k : pm_W G l bs own cc nL ini d kc ks Q (pc + 3) L (.ref b :: rest) S) : pm_W G l bs own cc nL ini d kc ks Q pc L (.ref a :: rest) S := pm_getf (c := 6) (j := 5) (r := (RX6, TX6, 16)) rfl (by decide) hk hw rfl hdg (by
  show pm_W G l bs own cc nL ini d kc ks Q (pc + 3) L (va_rf (pm_p S 305 a) :: rest) S
  rw [hp]
  exact k)
theorem pm_p_Mill_sheet {index a : Nat} (hk : pm_k S a = 7) (hw : pm_lk own index RX6 "sheet" "LProcessMill$Sheet;") {b : Nat} (hini : ini = true) (hown : own = RX6) (hw2 : Cond.fieldLink own index RX6 "sheet" "LProcessMill$Sheet;" ∈ pm_ws) (hdg : decode cc pc = .ok (.putfield index, 3)) (k : pm_W G l bs own cc nL ini d kc ks Q (pc + 3) L rest (pm_sp S 305 a (some b))) : pm_W G l bs own cc nL ini d kc ks Q pc L (.ref b :: .ref a :: rest) S := pm_putf (c := 6) (j := 5) (r := (RX6, TX6, 16)) rfl (by decide) hk hw rfl (Or.inr ⟨rfl, hini, hown, hw2⟩) (ty := .object "ProcessMill$Sheet") (by decide +kernel) rfl rfl (pm_off_sp S 305 a (some b)) rfl (pm_fv_sp rfl (some b)) hdg k
theorem pm_g_Mill_letter {index a : Nat} (hk : pm_k S a = 7) (hw : pm_lk own index RX6 "letter" "LProcessMill$Term;") {b : Nat} (hp : pm_p S 306 a = some b) (hdg : decode cc pc = .ok (.getfield index, 3)) (k : pm_W G l bs own cc nL ini d kc ks Q (pc + 3) L (.ref b :: rest) S) : pm_W G l bs own cc nL ini d kc ks Q pc L (.ref a :: rest) S := pm_getf (c := 6) (j := 6) (r := (RX6, TX6, 16)) rfl (by decide) hk hw rfl hdg (by
  show pm_W G l bs own cc nL ini d kc ks Q (pc + 3) L (va_rf (pm_p S 306 a) :: rest) S
  rw [hp]
  exact k)
theorem pm_p_Mill_letter {index a : Nat} (hk : pm_k S a = 7) (hw : pm_lk own index RX6 "letter" "LProcessMill$Term;") {b : Nat} (hini : ini = true) (hown : own = RX6) (hw2 : Cond.fieldLink own index RX6 "letter" "LProcessMill$Term;" ∈ pm_ws) (hdg : decode cc pc = .ok (.putfield index, 3)) (k : pm_W G l bs own cc nL ini d kc ks Q (pc + 3) L rest (pm_sp S 306 a (some b))) : pm_W G l bs own cc nL ini d kc ks Q pc L (.ref b :: .ref a :: rest) S := pm_putf (c := 6) (j := 6) (r := (RX6, TX6, 16)) rfl (by decide) hk hw rfl (Or.inr ⟨rfl, hini, hown, hw2⟩) (ty := .object "ProcessMill$Term") (by decide +kernel) rfl rfl (pm_off_sp S 306 a (some b)) rfl (pm_fv_sp rfl (some b)) hdg k
theorem pm_g_Mill_cause {index a : Nat} (hk : pm_k S a = 7) (hw : pm_lk own index RX6 "cause" "LProcessMill$Term;") {b : Nat} (hp : pm_p S 307 a = some b) (hdg : decode cc pc = .ok (.getfield index, 3)) (k : pm_W G l bs own cc nL ini d kc ks Q (pc + 3) L (.ref b :: rest) S) : pm_W G l bs own cc nL ini d kc ks Q pc L (.ref a :: rest) S := pm_getf (c := 6) (j := 7) (r := (RX6, TX6, 16)) rfl (by decide) hk hw rfl hdg (by
  show pm_W G l bs own cc nL ini d kc ks Q (pc + 3) L (va_rf (pm_p S 307 a) :: rest) S
  rw [hp]
  exact k)
theorem pm_p_Mill_cause {index a : Nat} (hk : pm_k S a = 7) (hw : pm_lk own index RX6 "cause" "LProcessMill$Term;") {b : Nat} (hini : ini = true) (hown : own = RX6) (hw2 : Cond.fieldLink own index RX6 "cause" "LProcessMill$Term;" ∈ pm_ws) (hdg : decode cc pc = .ok (.putfield index, 3)) (k : pm_W G l bs own cc nL ini d kc ks Q (pc + 3) L rest (pm_sp S 307 a (some b))) : pm_W G l bs own cc nL ini d kc ks Q pc L (.ref b :: .ref a :: rest) S := pm_putf (c := 6) (j := 7) (r := (RX6, TX6, 16)) rfl (by decide) hk hw rfl (Or.inr ⟨rfl, hini, hown, hw2⟩) (ty := .object "ProcessMill$Term") (by decide +kernel) rfl rfl (pm_off_sp S 307 a (some b)) rfl (pm_fv_sp rfl (some b)) hdg k
theorem pm_g_Mill_started {index a : Nat} (hk : pm_k S a = 7) (hw : pm_lk own index RX6 "started" "I") (hdg : decode cc pc = .ok (.getfield index, 3)) (k : pm_W G l bs own cc nL ini d kc ks Q (pc + 3) L (.int (pm_i S 308 a) :: rest) S) : pm_W G l bs own cc nL ini d kc ks Q pc L (.ref a :: rest) S := pm_getf (c := 6) (j := 8) (r := (RX6, TX6, 16)) rfl (by decide) hk hw rfl hdg k
theorem pm_p_Mill_started {index a : Nat} (hk : pm_k S a = 7) (hw : pm_lk own index RX6 "started" "I") {x : Int32} (hdg : decode cc pc = .ok (.putfield index, 3)) (k : pm_W G l bs own cc nL ini d kc ks Q (pc + 3) L rest (pm_si S 308 a x)) : pm_W G l bs own cc nL ini d kc ks Q pc L (.int x :: .ref a :: rest) S := pm_putf (c := 6) (j := 8) (r := (RX6, TX6, 16)) rfl (by decide) hk hw rfl (Or.inl rfl) (ty := .int) (by decide +kernel) rfl rfl (pm_off_si S 308 a x) rfl (pm_fv_si rfl x) hdg k
theorem pm_g_Mill_deaths {index a : Nat} (hk : pm_k S a = 7) (hw : pm_lk own index RX6 "deaths" "I") (hdg : decode cc pc = .ok (.getfield index, 3)) (k : pm_W G l bs own cc nL ini d kc ks Q (pc + 3) L (.int (pm_i S 309 a) :: rest) S) : pm_W G l bs own cc nL ini d kc ks Q pc L (.ref a :: rest) S := pm_getf (c := 6) (j := 9) (r := (RX6, TX6, 16)) rfl (by decide) hk hw rfl hdg k
theorem pm_p_Mill_deaths {index a : Nat} (hk : pm_k S a = 7) (hw : pm_lk own index RX6 "deaths" "I") {x : Int32} (hdg : decode cc pc = .ok (.putfield index, 3)) (k : pm_W G l bs own cc nL ini d kc ks Q (pc + 3) L rest (pm_si S 309 a x)) : pm_W G l bs own cc nL ini d kc ks Q pc L (.int x :: .ref a :: rest) S := pm_putf (c := 6) (j := 9) (r := (RX6, TX6, 16)) rfl (by decide) hk hw rfl (Or.inl rfl) (ty := .int) (by decide +kernel) rfl rfl (pm_off_si S 309 a x) rfl (pm_fv_si rfl x) hdg k
theorem pm_g_Mill_deathsSpread {index a : Nat} (hk : pm_k S a = 7) (hw : pm_lk own index RX6 "deathsSpread" "I") (hdg : decode cc pc = .ok (.getfield index, 3)) (k : pm_W G l bs own cc nL ini d kc ks Q (pc + 3) L (.int (pm_i S 310 a) :: rest) S) : pm_W G l bs own cc nL ini d kc ks Q pc L (.ref a :: rest) S := pm_getf (c := 6) (j := 10) (r := (RX6, TX6, 16)) rfl (by decide) hk hw rfl hdg k
theorem pm_p_Mill_deathsSpread {index a : Nat} (hk : pm_k S a = 7) (hw : pm_lk own index RX6 "deathsSpread" "I") {x : Int32} (hdg : decode cc pc = .ok (.putfield index, 3)) (k : pm_W G l bs own cc nL ini d kc ks Q (pc + 3) L rest (pm_si S 310 a x)) : pm_W G l bs own cc nL ini d kc ks Q pc L (.int x :: .ref a :: rest) S := pm_putf (c := 6) (j := 10) (r := (RX6, TX6, 16)) rfl (by decide) hk hw rfl (Or.inl rfl) (ty := .int) (by decide +kernel) rfl rfl (pm_off_si S 310 a x) rfl (pm_fv_si rfl x) hdg k
theorem pm_g_Mill_turns {index a : Nat} (hk : pm_k S a = 7) (hw : pm_lk own index RX6 "turns" "I") (hdg : decode cc pc = .ok (.getfield index, 3)) (k : pm_W G l bs own cc nL ini d kc ks Q (pc + 3) L (.int (pm_i S 311 a) :: rest) S) : pm_W G l bs own cc nL ini d kc ks Q pc L (.ref a :: rest) S := pm_getf (c := 6) (j := 11) (r := (RX6, TX6, 16)) rfl (by decide) hk hw rfl hdg k
theorem pm_p_Mill_turns {index a : Nat} (hk : pm_k S a = 7) (hw : pm_lk own index RX6 "turns" "I") {x : Int32} (hdg : decode cc pc = .ok (.putfield index, 3)) (k : pm_W G l bs own cc nL ini d kc ks Q (pc + 3) L rest (pm_si S 311 a x)) : pm_W G l bs own cc nL ini d kc ks Q pc L (.int x :: .ref a :: rest) S := pm_putf (c := 6) (j := 11) (r := (RX6, TX6, 16)) rfl (by decide) hk hw rfl (Or.inl rfl) (ty := .int) (by decide +kernel) rfl rfl (pm_off_si S 311 a x) rfl (pm_fv_si rfl x) hdg k
theorem pm_g_Mill_slices {index a : Nat} (hk : pm_k S a = 7) (hw : pm_lk own index RX6 "slices" "I") (hdg : decode cc pc = .ok (.getfield index, 3)) (k : pm_W G l bs own cc nL ini d kc ks Q (pc + 3) L (.int (pm_i S 312 a) :: rest) S) : pm_W G l bs own cc nL ini d kc ks Q pc L (.ref a :: rest) S := pm_getf (c := 6) (j := 12) (r := (RX6, TX6, 16)) rfl (by decide) hk hw rfl hdg k
theorem pm_p_Mill_slices {index a : Nat} (hk : pm_k S a = 7) (hw : pm_lk own index RX6 "slices" "I") {x : Int32} (hdg : decode cc pc = .ok (.putfield index, 3)) (k : pm_W G l bs own cc nL ini d kc ks Q (pc + 3) L rest (pm_si S 312 a x)) : pm_W G l bs own cc nL ini d kc ks Q pc L (.int x :: .ref a :: rest) S := pm_putf (c := 6) (j := 12) (r := (RX6, TX6, 16)) rfl (by decide) hk hw rfl (Or.inl rfl) (ty := .int) (by decide +kernel) rfl rfl (pm_off_si S 312 a x) rfl (pm_fv_si rfl x) hdg k
theorem pm_g_Mill_wordsDone {index a : Nat} (hk : pm_k S a = 7) (hw : pm_lk own index RX6 "wordsDone" "I") (hdg : decode cc pc = .ok (.getfield index, 3)) (k : pm_W G l bs own cc nL ini d kc ks Q (pc + 3) L (.int (pm_i S 313 a) :: rest) S) : pm_W G l bs own cc nL ini d kc ks Q pc L (.ref a :: rest) S := pm_getf (c := 6) (j := 13) (r := (RX6, TX6, 16)) rfl (by decide) hk hw rfl hdg k
theorem pm_p_Mill_wordsDone {index a : Nat} (hk : pm_k S a = 7) (hw : pm_lk own index RX6 "wordsDone" "I") {x : Int32} (hdg : decode cc pc = .ok (.putfield index, 3)) (k : pm_W G l bs own cc nL ini d kc ks Q (pc + 3) L rest (pm_si S 313 a x)) : pm_W G l bs own cc nL ini d kc ks Q pc L (.int x :: .ref a :: rest) S := pm_putf (c := 6) (j := 13) (r := (RX6, TX6, 16)) rfl (by decide) hk hw rfl (Or.inl rfl) (ty := .int) (by decide +kernel) rfl rfl (pm_off_si S 313 a x) rfl (pm_fv_si rfl x) hdg k
theorem pm_g_Mill_time {index a : Nat} (hk : pm_k S a = 7) (hw : pm_lk own index RX6 "time" "I") (hdg : decode cc pc = .ok (.getfield index, 3)) (k : pm_W G l bs own cc nL ini d kc ks Q (pc + 3) L (.int (pm_i S 314 a) :: rest) S) : pm_W G l bs own cc nL ini d kc ks Q pc L (.ref a :: rest) S := pm_getf (c := 6) (j := 14) (r := (RX6, TX6, 16)) rfl (by decide) hk hw rfl hdg k
theorem pm_p_Mill_time {index a : Nat} (hk : pm_k S a = 7) (hw : pm_lk own index RX6 "time" "I") {x : Int32} (hdg : decode cc pc = .ok (.putfield index, 3)) (k : pm_W G l bs own cc nL ini d kc ks Q (pc + 3) L rest (pm_si S 314 a x)) : pm_W G l bs own cc nL ini d kc ks Q pc L (.int x :: .ref a :: rest) S := pm_putf (c := 6) (j := 14) (r := (RX6, TX6, 16)) rfl (by decide) hk hw rfl (Or.inl rfl) (ty := .int) (by decide +kernel) rfl rfl (pm_off_si S 314 a x) rfl (pm_fv_si rfl x) hdg k
theorem pm_g_Mill_messagesCame {index a : Nat} (hk : pm_k S a = 7) (hw : pm_lk own index RX6 "messagesCame" "I") (hdg : decode cc pc = .ok (.getfield index, 3)) (k : pm_W G l bs own cc nL ini d kc ks Q (pc + 3) L (.int (pm_i S 315 a) :: rest) S) : pm_W G l bs own cc nL ini d kc ks Q pc L (.ref a :: rest) S := pm_getf (c := 6) (j := 15) (r := (RX6, TX6, 16)) rfl (by decide) hk hw rfl hdg k
theorem pm_p_Mill_messagesCame {index a : Nat} (hk : pm_k S a = 7) (hw : pm_lk own index RX6 "messagesCame" "I") {x : Int32} (hdg : decode cc pc = .ok (.putfield index, 3)) (k : pm_W G l bs own cc nL ini d kc ks Q (pc + 3) L rest (pm_si S 315 a x)) : pm_W G l bs own cc nL ini d kc ks Q pc L (.int x :: .ref a :: rest) S := pm_putf (c := 6) (j := 15) (r := (RX6, TX6, 16)) rfl (by decide) hk hw rfl (Or.inl rfl) (ty := .int) (by decide +kernel) rfl rfl (pm_off_si S 315 a x) rfl (pm_fv_si rfl x) hdg k
theorem pm_df_Mill (S : pm_S) (a : Nat) : ∀ j, j < 16 → defaultValue (tyX6 j) = pm_fv (pm_nw S a 7 0) 6 a j := by
  intro j hj
  have h := hj
  have e : ∀ o f, pm_sv (pm_nw S a 7 0) o f a = (match o with | 0 => .int 0 | 1 => .null | _ => .long 0) := by
    intro o f
    unfold pm_sv
    split <;> simp [pm_i_nw, pm_p_nw, pm_j_nw, va_rf]
  unfold pm_fv
  rw [e]
  revert j
  decide
theorem pm_new_Mill {index kc' ks' : Nat} (hw1 : Cond.classLink own index RX6 ∈ pm_ws) (hkc : kc' + 1 ≤ kc) (hks : ks' + 16 ≤ ks) (hdg : decode cc pc = .ok (.new index, 3)) (k : ∀ a : Nat, pm_k S a = 0 → bs ≤ a → pm_W G l bs own cc nL ini d kc' ks' Q (pc + 3) L (.ref a :: rest) (pm_nw S a 7 0)) : pm_W G l bs own cc nL ini d kc ks Q pc L rest S := pm_new (c := 6) (r := (RX6, TX6, 16)) rfl hw1 pm_in_X6 pm_ii_X6 hkc hks (fun S a j _ hj ty hty => by cases hty; exact pm_df_Mill S a j hj) hdg k
theorem pm_g_Model_told {index a : Nat} (hk : pm_k S a = 8) (hw : pm_lk own index RX7 "told" "[I") {b : Nat} (hp : pm_p S 350 a = some b) (hdg : decode cc pc = .ok (.getfield index, 3)) (k : pm_W G l bs own cc nL ini d kc ks Q (pc + 3) L (.ref b :: rest) S) : pm_W G l bs own cc nL ini d kc ks Q pc L (.ref a :: rest) S := pm_getf (c := 7) (j := 0) (r := (RX7, TX7, 41)) rfl (by decide) hk hw rfl hdg (by
  show pm_W G l bs own cc nL ini d kc ks Q (pc + 3) L (va_rf (pm_p S 350 a) :: rest) S
  rw [hp]
  exact k)
theorem pm_p_Model_told {index a : Nat} (hk : pm_k S a = 8) (hw : pm_lk own index RX7 "told" "[I") {b : Nat} (hini : ini = true) (hown : own = RX7) (hw2 : Cond.fieldLink own index RX7 "told" "[I" ∈ pm_ws) (hdg : decode cc pc = .ok (.putfield index, 3)) (k : pm_W G l bs own cc nL ini d kc ks Q (pc + 3) L rest (pm_sp S 350 a (some b))) : pm_W G l bs own cc nL ini d kc ks Q pc L (.ref b :: .ref a :: rest) S := pm_putf (c := 7) (j := 0) (r := (RX7, TX7, 41)) rfl (by decide) hk hw rfl (Or.inr ⟨rfl, hini, hown, hw2⟩) (ty := .array .int) (by decide +kernel) rfl rfl (pm_off_sp S 350 a (some b)) rfl (pm_fv_sp rfl (some b)) hdg k
theorem pm_g_Model_sizes {index a : Nat} (hk : pm_k S a = 8) (hw : pm_lk own index RX7 "sizes" "[I") {b : Nat} (hp : pm_p S 351 a = some b) (hdg : decode cc pc = .ok (.getfield index, 3)) (k : pm_W G l bs own cc nL ini d kc ks Q (pc + 3) L (.ref b :: rest) S) : pm_W G l bs own cc nL ini d kc ks Q pc L (.ref a :: rest) S := pm_getf (c := 7) (j := 1) (r := (RX7, TX7, 41)) rfl (by decide) hk hw rfl hdg (by
  show pm_W G l bs own cc nL ini d kc ks Q (pc + 3) L (va_rf (pm_p S 351 a) :: rest) S
  rw [hp]
  exact k)
theorem pm_p_Model_sizes {index a : Nat} (hk : pm_k S a = 8) (hw : pm_lk own index RX7 "sizes" "[I") {b : Nat} (hini : ini = true) (hown : own = RX7) (hw2 : Cond.fieldLink own index RX7 "sizes" "[I" ∈ pm_ws) (hdg : decode cc pc = .ok (.putfield index, 3)) (k : pm_W G l bs own cc nL ini d kc ks Q (pc + 3) L rest (pm_sp S 351 a (some b))) : pm_W G l bs own cc nL ini d kc ks Q pc L (.ref b :: .ref a :: rest) S := pm_putf (c := 7) (j := 1) (r := (RX7, TX7, 41)) rfl (by decide) hk hw rfl (Or.inr ⟨rfl, hini, hown, hw2⟩) (ty := .array .int) (by decide +kernel) rfl rfl (pm_off_sp S 351 a (some b)) rfl (pm_fv_sp rfl (some b)) hdg k
theorem pm_g_Model_operations {index a : Nat} (hk : pm_k S a = 8) (hw : pm_lk own index RX7 "operations" "[I") {b : Nat} (hp : pm_p S 352 a = some b) (hdg : decode cc pc = .ok (.getfield index, 3)) (k : pm_W G l bs own cc nL ini d kc ks Q (pc + 3) L (.ref b :: rest) S) : pm_W G l bs own cc nL ini d kc ks Q pc L (.ref a :: rest) S := pm_getf (c := 7) (j := 2) (r := (RX7, TX7, 41)) rfl (by decide) hk hw rfl hdg (by
  show pm_W G l bs own cc nL ini d kc ks Q (pc + 3) L (va_rf (pm_p S 352 a) :: rest) S
  rw [hp]
  exact k)
theorem pm_p_Model_operations {index a : Nat} (hk : pm_k S a = 8) (hw : pm_lk own index RX7 "operations" "[I") {b : Nat} (hini : ini = true) (hown : own = RX7) (hw2 : Cond.fieldLink own index RX7 "operations" "[I" ∈ pm_ws) (hdg : decode cc pc = .ok (.putfield index, 3)) (k : pm_W G l bs own cc nL ini d kc ks Q (pc + 3) L rest (pm_sp S 352 a (some b))) : pm_W G l bs own cc nL ini d kc ks Q pc L (.ref b :: .ref a :: rest) S := pm_putf (c := 7) (j := 2) (r := (RX7, TX7, 41)) rfl (by decide) hk hw rfl (Or.inr ⟨rfl, hini, hown, hw2⟩) (ty := .array .int) (by decide +kernel) rfl rfl (pm_off_sp S 352 a (some b)) rfl (pm_fv_sp rfl (some b)) hdg k
theorem pm_g_Model_as {index a : Nat} (hk : pm_k S a = 8) (hw : pm_lk own index RX7 "as" "[I") {b : Nat} (hp : pm_p S 353 a = some b) (hdg : decode cc pc = .ok (.getfield index, 3)) (k : pm_W G l bs own cc nL ini d kc ks Q (pc + 3) L (.ref b :: rest) S) : pm_W G l bs own cc nL ini d kc ks Q pc L (.ref a :: rest) S := pm_getf (c := 7) (j := 3) (r := (RX7, TX7, 41)) rfl (by decide) hk hw rfl hdg (by
  show pm_W G l bs own cc nL ini d kc ks Q (pc + 3) L (va_rf (pm_p S 353 a) :: rest) S
  rw [hp]
  exact k)
theorem pm_p_Model_as {index a : Nat} (hk : pm_k S a = 8) (hw : pm_lk own index RX7 "as" "[I") {b : Nat} (hini : ini = true) (hown : own = RX7) (hw2 : Cond.fieldLink own index RX7 "as" "[I" ∈ pm_ws) (hdg : decode cc pc = .ok (.putfield index, 3)) (k : pm_W G l bs own cc nL ini d kc ks Q (pc + 3) L rest (pm_sp S 353 a (some b))) : pm_W G l bs own cc nL ini d kc ks Q pc L (.ref b :: .ref a :: rest) S := pm_putf (c := 7) (j := 3) (r := (RX7, TX7, 41)) rfl (by decide) hk hw rfl (Or.inr ⟨rfl, hini, hown, hw2⟩) (ty := .array .int) (by decide +kernel) rfl rfl (pm_off_sp S 353 a (some b)) rfl (pm_fv_sp rfl (some b)) hdg k
theorem pm_g_Model_bs {index a : Nat} (hk : pm_k S a = 8) (hw : pm_lk own index RX7 "bs" "[I") {b : Nat} (hp : pm_p S 354 a = some b) (hdg : decode cc pc = .ok (.getfield index, 3)) (k : pm_W G l bs own cc nL ini d kc ks Q (pc + 3) L (.ref b :: rest) S) : pm_W G l bs own cc nL ini d kc ks Q pc L (.ref a :: rest) S := pm_getf (c := 7) (j := 4) (r := (RX7, TX7, 41)) rfl (by decide) hk hw rfl hdg (by
  show pm_W G l bs own cc nL ini d kc ks Q (pc + 3) L (va_rf (pm_p S 354 a) :: rest) S
  rw [hp]
  exact k)
theorem pm_p_Model_bs {index a : Nat} (hk : pm_k S a = 8) (hw : pm_lk own index RX7 "bs" "[I") {b : Nat} (hini : ini = true) (hown : own = RX7) (hw2 : Cond.fieldLink own index RX7 "bs" "[I" ∈ pm_ws) (hdg : decode cc pc = .ok (.putfield index, 3)) (k : pm_W G l bs own cc nL ini d kc ks Q (pc + 3) L rest (pm_sp S 354 a (some b))) : pm_W G l bs own cc nL ini d kc ks Q pc L (.ref b :: .ref a :: rest) S := pm_putf (c := 7) (j := 4) (r := (RX7, TX7, 41)) rfl (by decide) hk hw rfl (Or.inr ⟨rfl, hini, hown, hw2⟩) (ty := .array .int) (by decide +kernel) rfl rfl (pm_off_sp S 354 a (some b)) rfl (pm_fv_sp rfl (some b)) hdg k
theorem pm_g_Model_cs {index a : Nat} (hk : pm_k S a = 8) (hw : pm_lk own index RX7 "cs" "[I") {b : Nat} (hp : pm_p S 355 a = some b) (hdg : decode cc pc = .ok (.getfield index, 3)) (k : pm_W G l bs own cc nL ini d kc ks Q (pc + 3) L (.ref b :: rest) S) : pm_W G l bs own cc nL ini d kc ks Q pc L (.ref a :: rest) S := pm_getf (c := 7) (j := 5) (r := (RX7, TX7, 41)) rfl (by decide) hk hw rfl hdg (by
  show pm_W G l bs own cc nL ini d kc ks Q (pc + 3) L (va_rf (pm_p S 355 a) :: rest) S
  rw [hp]
  exact k)
theorem pm_p_Model_cs {index a : Nat} (hk : pm_k S a = 8) (hw : pm_lk own index RX7 "cs" "[I") {b : Nat} (hini : ini = true) (hown : own = RX7) (hw2 : Cond.fieldLink own index RX7 "cs" "[I" ∈ pm_ws) (hdg : decode cc pc = .ok (.putfield index, 3)) (k : pm_W G l bs own cc nL ini d kc ks Q (pc + 3) L rest (pm_sp S 355 a (some b))) : pm_W G l bs own cc nL ini d kc ks Q pc L (.ref b :: .ref a :: rest) S := pm_putf (c := 7) (j := 5) (r := (RX7, TX7, 41)) rfl (by decide) hk hw rfl (Or.inr ⟨rfl, hini, hown, hw2⟩) (ty := .array .int) (by decide +kernel) rfl rfl (pm_off_sp S 355 a (some b)) rfl (pm_fv_sp rfl (some b)) hdg k
theorem pm_g_Model_state {index a : Nat} (hk : pm_k S a = 8) (hw : pm_lk own index RX7 "state" "[I") {b : Nat} (hp : pm_p S 356 a = some b) (hdg : decode cc pc = .ok (.getfield index, 3)) (k : pm_W G l bs own cc nL ini d kc ks Q (pc + 3) L (.ref b :: rest) S) : pm_W G l bs own cc nL ini d kc ks Q pc L (.ref a :: rest) S := pm_getf (c := 7) (j := 6) (r := (RX7, TX7, 41)) rfl (by decide) hk hw rfl hdg (by
  show pm_W G l bs own cc nL ini d kc ks Q (pc + 3) L (va_rf (pm_p S 356 a) :: rest) S
  rw [hp]
  exact k)
theorem pm_p_Model_state {index a : Nat} (hk : pm_k S a = 8) (hw : pm_lk own index RX7 "state" "[I") {b : Nat} (hini : ini = true) (hown : own = RX7) (hw2 : Cond.fieldLink own index RX7 "state" "[I" ∈ pm_ws) (hdg : decode cc pc = .ok (.putfield index, 3)) (k : pm_W G l bs own cc nL ini d kc ks Q (pc + 3) L rest (pm_sp S 356 a (some b))) : pm_W G l bs own cc nL ini d kc ks Q pc L (.ref b :: .ref a :: rest) S := pm_putf (c := 7) (j := 6) (r := (RX7, TX7, 41)) rfl (by decide) hk hw rfl (Or.inr ⟨rfl, hini, hown, hw2⟩) (ty := .array .int) (by decide +kernel) rfl rfl (pm_off_sp S 356 a (some b)) rfl (pm_fv_sp rfl (some b)) hdg k
theorem pm_g_Model_place {index a : Nat} (hk : pm_k S a = 8) (hw : pm_lk own index RX7 "place" "[I") {b : Nat} (hp : pm_p S 357 a = some b) (hdg : decode cc pc = .ok (.getfield index, 3)) (k : pm_W G l bs own cc nL ini d kc ks Q (pc + 3) L (.ref b :: rest) S) : pm_W G l bs own cc nL ini d kc ks Q pc L (.ref a :: rest) S := pm_getf (c := 7) (j := 7) (r := (RX7, TX7, 41)) rfl (by decide) hk hw rfl hdg (by
  show pm_W G l bs own cc nL ini d kc ks Q (pc + 3) L (va_rf (pm_p S 357 a) :: rest) S
  rw [hp]
  exact k)
theorem pm_p_Model_place {index a : Nat} (hk : pm_k S a = 8) (hw : pm_lk own index RX7 "place" "[I") {b : Nat} (hini : ini = true) (hown : own = RX7) (hw2 : Cond.fieldLink own index RX7 "place" "[I" ∈ pm_ws) (hdg : decode cc pc = .ok (.putfield index, 3)) (k : pm_W G l bs own cc nL ini d kc ks Q (pc + 3) L rest (pm_sp S 357 a (some b))) : pm_W G l bs own cc nL ini d kc ks Q pc L (.ref b :: .ref a :: rest) S := pm_putf (c := 7) (j := 7) (r := (RX7, TX7, 41)) rfl (by decide) hk hw rfl (Or.inr ⟨rfl, hini, hown, hw2⟩) (ty := .array .int) (by decide +kernel) rfl rfl (pm_off_sp S 357 a (some b)) rfl (pm_fv_sp rfl (some b)) hdg k
theorem pm_g_Model_priority {index a : Nat} (hk : pm_k S a = 8) (hw : pm_lk own index RX7 "priority" "[I") {b : Nat} (hp : pm_p S 358 a = some b) (hdg : decode cc pc = .ok (.getfield index, 3)) (k : pm_W G l bs own cc nL ini d kc ks Q (pc + 3) L (.ref b :: rest) S) : pm_W G l bs own cc nL ini d kc ks Q pc L (.ref a :: rest) S := pm_getf (c := 7) (j := 8) (r := (RX7, TX7, 41)) rfl (by decide) hk hw rfl hdg (by
  show pm_W G l bs own cc nL ini d kc ks Q (pc + 3) L (va_rf (pm_p S 358 a) :: rest) S
  rw [hp]
  exact k)
theorem pm_p_Model_priority {index a : Nat} (hk : pm_k S a = 8) (hw : pm_lk own index RX7 "priority" "[I") {b : Nat} (hini : ini = true) (hown : own = RX7) (hw2 : Cond.fieldLink own index RX7 "priority" "[I" ∈ pm_ws) (hdg : decode cc pc = .ok (.putfield index, 3)) (k : pm_W G l bs own cc nL ini d kc ks Q (pc + 3) L rest (pm_sp S 358 a (some b))) : pm_W G l bs own cc nL ini d kc ks Q pc L (.ref b :: .ref a :: rest) S := pm_putf (c := 7) (j := 8) (r := (RX7, TX7, 41)) rfl (by decide) hk hw rfl (Or.inr ⟨rfl, hini, hown, hw2⟩) (ty := .array .int) (by decide +kernel) rfl rfl (pm_off_sp S 358 a (some b)) rfl (pm_fv_sp rfl (some b)) hdg k
theorem pm_g_Model_name {index a : Nat} (hk : pm_k S a = 8) (hw : pm_lk own index RX7 "name" "[I") {b : Nat} (hp : pm_p S 359 a = some b) (hdg : decode cc pc = .ok (.getfield index, 3)) (k : pm_W G l bs own cc nL ini d kc ks Q (pc + 3) L (.ref b :: rest) S) : pm_W G l bs own cc nL ini d kc ks Q pc L (.ref a :: rest) S := pm_getf (c := 7) (j := 9) (r := (RX7, TX7, 41)) rfl (by decide) hk hw rfl hdg (by
  show pm_W G l bs own cc nL ini d kc ks Q (pc + 3) L (va_rf (pm_p S 359 a) :: rest) S
  rw [hp]
  exact k)
theorem pm_p_Model_name {index a : Nat} (hk : pm_k S a = 8) (hw : pm_lk own index RX7 "name" "[I") {b : Nat} (hini : ini = true) (hown : own = RX7) (hw2 : Cond.fieldLink own index RX7 "name" "[I" ∈ pm_ws) (hdg : decode cc pc = .ok (.putfield index, 3)) (k : pm_W G l bs own cc nL ini d kc ks Q (pc + 3) L rest (pm_sp S 359 a (some b))) : pm_W G l bs own cc nL ini d kc ks Q pc L (.ref b :: .ref a :: rest) S := pm_putf (c := 7) (j := 9) (r := (RX7, TX7, 41)) rfl (by decide) hk hw rfl (Or.inr ⟨rfl, hini, hown, hw2⟩) (ty := .array .int) (by decide +kernel) rfl rfl (pm_off_sp S 359 a (some b)) rfl (pm_fv_sp rfl (some b)) hdg k
theorem pm_g_Model_traps {index a : Nat} (hk : pm_k S a = 8) (hw : pm_lk own index RX7 "traps" "[Z") {b : Nat} (hp : pm_p S 360 a = some b) (hdg : decode cc pc = .ok (.getfield index, 3)) (k : pm_W G l bs own cc nL ini d kc ks Q (pc + 3) L (.ref b :: rest) S) : pm_W G l bs own cc nL ini d kc ks Q pc L (.ref a :: rest) S := pm_getf (c := 7) (j := 10) (r := (RX7, TX7, 41)) rfl (by decide) hk hw rfl hdg (by
  show pm_W G l bs own cc nL ini d kc ks Q (pc + 3) L (va_rf (pm_p S 360 a) :: rest) S
  rw [hp]
  exact k)
theorem pm_p_Model_traps {index a : Nat} (hk : pm_k S a = 8) (hw : pm_lk own index RX7 "traps" "[Z") {b : Nat} (hini : ini = true) (hown : own = RX7) (hw2 : Cond.fieldLink own index RX7 "traps" "[Z" ∈ pm_ws) (hdg : decode cc pc = .ok (.putfield index, 3)) (k : pm_W G l bs own cc nL ini d kc ks Q (pc + 3) L rest (pm_sp S 360 a (some b))) : pm_W G l bs own cc nL ini d kc ks Q pc L (.ref b :: .ref a :: rest) S := pm_putf (c := 7) (j := 10) (r := (RX7, TX7, 41)) rfl (by decide) hk hw rfl (Or.inr ⟨rfl, hini, hown, hw2⟩) (ty := .array .boolean) (by decide +kernel) rfl rfl (pm_off_sp S 360 a (some b)) rfl (pm_fv_sp rfl (some b)) hdg k
theorem pm_g_Model_mail {index a : Nat} (hk : pm_k S a = 8) (hw : pm_lk own index RX7 "mail" "[I") {b : Nat} (hp : pm_p S 361 a = some b) (hdg : decode cc pc = .ok (.getfield index, 3)) (k : pm_W G l bs own cc nL ini d kc ks Q (pc + 3) L (.ref b :: rest) S) : pm_W G l bs own cc nL ini d kc ks Q pc L (.ref a :: rest) S := pm_getf (c := 7) (j := 11) (r := (RX7, TX7, 41)) rfl (by decide) hk hw rfl hdg (by
  show pm_W G l bs own cc nL ini d kc ks Q (pc + 3) L (va_rf (pm_p S 361 a) :: rest) S
  rw [hp]
  exact k)
theorem pm_p_Model_mail {index a : Nat} (hk : pm_k S a = 8) (hw : pm_lk own index RX7 "mail" "[I") {b : Nat} (hini : ini = true) (hown : own = RX7) (hw2 : Cond.fieldLink own index RX7 "mail" "[I" ∈ pm_ws) (hdg : decode cc pc = .ok (.putfield index, 3)) (k : pm_W G l bs own cc nL ini d kc ks Q (pc + 3) L rest (pm_sp S 361 a (some b))) : pm_W G l bs own cc nL ini d kc ks Q pc L (.ref b :: .ref a :: rest) S := pm_putf (c := 7) (j := 11) (r := (RX7, TX7, 41)) rfl (by decide) hk hw rfl (Or.inr ⟨rfl, hini, hown, hw2⟩) (ty := .array .int) (by decide +kernel) rfl rfl (pm_off_sp S 361 a (some b)) rfl (pm_fv_sp rfl (some b)) hdg k
theorem pm_g_Model_pointer {index a : Nat} (hk : pm_k S a = 8) (hw : pm_lk own index RX7 "pointer" "[I") {b : Nat} (hp : pm_p S 362 a = some b) (hdg : decode cc pc = .ok (.getfield index, 3)) (k : pm_W G l bs own cc nL ini d kc ks Q (pc + 3) L (.ref b :: rest) S) : pm_W G l bs own cc nL ini d kc ks Q pc L (.ref a :: rest) S := pm_getf (c := 7) (j := 12) (r := (RX7, TX7, 41)) rfl (by decide) hk hw rfl hdg (by
  show pm_W G l bs own cc nL ini d kc ks Q (pc + 3) L (va_rf (pm_p S 362 a) :: rest) S
  rw [hp]
  exact k)
theorem pm_p_Model_pointer {index a : Nat} (hk : pm_k S a = 8) (hw : pm_lk own index RX7 "pointer" "[I") {b : Nat} (hini : ini = true) (hown : own = RX7) (hw2 : Cond.fieldLink own index RX7 "pointer" "[I" ∈ pm_ws) (hdg : decode cc pc = .ok (.putfield index, 3)) (k : pm_W G l bs own cc nL ini d kc ks Q (pc + 3) L rest (pm_sp S 362 a (some b))) : pm_W G l bs own cc nL ini d kc ks Q pc L (.ref b :: .ref a :: rest) S := pm_putf (c := 7) (j := 12) (r := (RX7, TX7, 41)) rfl (by decide) hk hw rfl (Or.inr ⟨rfl, hini, hown, hw2⟩) (ty := .array .int) (by decide +kernel) rfl rfl (pm_off_sp S 362 a (some b)) rfl (pm_fv_sp rfl (some b)) hdg k
theorem pm_g_Model_backs {index a : Nat} (hk : pm_k S a = 8) (hw : pm_lk own index RX7 "backs" "[I") {b : Nat} (hp : pm_p S 363 a = some b) (hdg : decode cc pc = .ok (.getfield index, 3)) (k : pm_W G l bs own cc nL ini d kc ks Q (pc + 3) L (.ref b :: rest) S) : pm_W G l bs own cc nL ini d kc ks Q pc L (.ref a :: rest) S := pm_getf (c := 7) (j := 13) (r := (RX7, TX7, 41)) rfl (by decide) hk hw rfl hdg (by
  show pm_W G l bs own cc nL ini d kc ks Q (pc + 3) L (va_rf (pm_p S 363 a) :: rest) S
  rw [hp]
  exact k)
theorem pm_p_Model_backs {index a : Nat} (hk : pm_k S a = 8) (hw : pm_lk own index RX7 "backs" "[I") {b : Nat} (hini : ini = true) (hown : own = RX7) (hw2 : Cond.fieldLink own index RX7 "backs" "[I" ∈ pm_ws) (hdg : decode cc pc = .ok (.putfield index, 3)) (k : pm_W G l bs own cc nL ini d kc ks Q (pc + 3) L rest (pm_sp S 363 a (some b))) : pm_W G l bs own cc nL ini d kc ks Q pc L (.ref b :: .ref a :: rest) S := pm_putf (c := 7) (j := 13) (r := (RX7, TX7, 41)) rfl (by decide) hk hw rfl (Or.inr ⟨rfl, hini, hown, hw2⟩) (ty := .array .int) (by decide +kernel) rfl rfl (pm_off_sp S 363 a (some b)) rfl (pm_fv_sp rfl (some b)) hdg k
theorem pm_g_Model_backCount {index a : Nat} (hk : pm_k S a = 8) (hw : pm_lk own index RX7 "backCount" "[I") {b : Nat} (hp : pm_p S 364 a = some b) (hdg : decode cc pc = .ok (.getfield index, 3)) (k : pm_W G l bs own cc nL ini d kc ks Q (pc + 3) L (.ref b :: rest) S) : pm_W G l bs own cc nL ini d kc ks Q pc L (.ref a :: rest) S := pm_getf (c := 7) (j := 14) (r := (RX7, TX7, 41)) rfl (by decide) hk hw rfl hdg (by
  show pm_W G l bs own cc nL ini d kc ks Q (pc + 3) L (va_rf (pm_p S 364 a) :: rest) S
  rw [hp]
  exact k)
theorem pm_p_Model_backCount {index a : Nat} (hk : pm_k S a = 8) (hw : pm_lk own index RX7 "backCount" "[I") {b : Nat} (hini : ini = true) (hown : own = RX7) (hw2 : Cond.fieldLink own index RX7 "backCount" "[I" ∈ pm_ws) (hdg : decode cc pc = .ok (.putfield index, 3)) (k : pm_W G l bs own cc nL ini d kc ks Q (pc + 3) L rest (pm_sp S 364 a (some b))) : pm_W G l bs own cc nL ini d kc ks Q pc L (.ref b :: .ref a :: rest) S := pm_putf (c := 7) (j := 14) (r := (RX7, TX7, 41)) rfl (by decide) hk hw rfl (Or.inr ⟨rfl, hini, hown, hw2⟩) (ty := .array .int) (by decide +kernel) rfl rfl (pm_off_sp S 364 a (some b)) rfl (pm_fv_sp rfl (some b)) hdg k
theorem pm_g_Model_catches {index a : Nat} (hk : pm_k S a = 8) (hw : pm_lk own index RX7 "catches" "[I") {b : Nat} (hp : pm_p S 365 a = some b) (hdg : decode cc pc = .ok (.getfield index, 3)) (k : pm_W G l bs own cc nL ini d kc ks Q (pc + 3) L (.ref b :: rest) S) : pm_W G l bs own cc nL ini d kc ks Q pc L (.ref a :: rest) S := pm_getf (c := 7) (j := 15) (r := (RX7, TX7, 41)) rfl (by decide) hk hw rfl hdg (by
  show pm_W G l bs own cc nL ini d kc ks Q (pc + 3) L (va_rf (pm_p S 365 a) :: rest) S
  rw [hp]
  exact k)
theorem pm_p_Model_catches {index a : Nat} (hk : pm_k S a = 8) (hw : pm_lk own index RX7 "catches" "[I") {b : Nat} (hini : ini = true) (hown : own = RX7) (hw2 : Cond.fieldLink own index RX7 "catches" "[I" ∈ pm_ws) (hdg : decode cc pc = .ok (.putfield index, 3)) (k : pm_W G l bs own cc nL ini d kc ks Q (pc + 3) L rest (pm_sp S 365 a (some b))) : pm_W G l bs own cc nL ini d kc ks Q pc L (.ref b :: .ref a :: rest) S := pm_putf (c := 7) (j := 15) (r := (RX7, TX7, 41)) rfl (by decide) hk hw rfl (Or.inr ⟨rfl, hini, hown, hw2⟩) (ty := .array .int) (by decide +kernel) rfl rfl (pm_off_sp S 365 a (some b)) rfl (pm_fv_sp rfl (some b)) hdg k
theorem pm_g_Model_caught {index a : Nat} (hk : pm_k S a = 8) (hw : pm_lk own index RX7 "caught" "[I") {b : Nat} (hp : pm_p S 366 a = some b) (hdg : decode cc pc = .ok (.getfield index, 3)) (k : pm_W G l bs own cc nL ini d kc ks Q (pc + 3) L (.ref b :: rest) S) : pm_W G l bs own cc nL ini d kc ks Q pc L (.ref a :: rest) S := pm_getf (c := 7) (j := 16) (r := (RX7, TX7, 41)) rfl (by decide) hk hw rfl hdg (by
  show pm_W G l bs own cc nL ini d kc ks Q (pc + 3) L (va_rf (pm_p S 366 a) :: rest) S
  rw [hp]
  exact k)
theorem pm_p_Model_caught {index a : Nat} (hk : pm_k S a = 8) (hw : pm_lk own index RX7 "caught" "[I") {b : Nat} (hini : ini = true) (hown : own = RX7) (hw2 : Cond.fieldLink own index RX7 "caught" "[I" ∈ pm_ws) (hdg : decode cc pc = .ok (.putfield index, 3)) (k : pm_W G l bs own cc nL ini d kc ks Q (pc + 3) L rest (pm_sp S 366 a (some b))) : pm_W G l bs own cc nL ini d kc ks Q pc L (.ref b :: .ref a :: rest) S := pm_putf (c := 7) (j := 16) (r := (RX7, TX7, 41)) rfl (by decide) hk hw rfl (Or.inr ⟨rfl, hini, hown, hw2⟩) (ty := .array .int) (by decide +kernel) rfl rfl (pm_off_sp S 366 a (some b)) rfl (pm_fv_sp rfl (some b)) hdg k
theorem pm_g_Model_catchCount {index a : Nat} (hk : pm_k S a = 8) (hw : pm_lk own index RX7 "catchCount" "[I") {b : Nat} (hp : pm_p S 367 a = some b) (hdg : decode cc pc = .ok (.getfield index, 3)) (k : pm_W G l bs own cc nL ini d kc ks Q (pc + 3) L (.ref b :: rest) S) : pm_W G l bs own cc nL ini d kc ks Q pc L (.ref a :: rest) S := pm_getf (c := 7) (j := 17) (r := (RX7, TX7, 41)) rfl (by decide) hk hw rfl hdg (by
  show pm_W G l bs own cc nL ini d kc ks Q (pc + 3) L (va_rf (pm_p S 367 a) :: rest) S
  rw [hp]
  exact k)
theorem pm_p_Model_catchCount {index a : Nat} (hk : pm_k S a = 8) (hw : pm_lk own index RX7 "catchCount" "[I") {b : Nat} (hini : ini = true) (hown : own = RX7) (hw2 : Cond.fieldLink own index RX7 "catchCount" "[I" ∈ pm_ws) (hdg : decode cc pc = .ok (.putfield index, 3)) (k : pm_W G l bs own cc nL ini d kc ks Q (pc + 3) L rest (pm_sp S 367 a (some b))) : pm_W G l bs own cc nL ini d kc ks Q pc L (.ref b :: .ref a :: rest) S := pm_putf (c := 7) (j := 17) (r := (RX7, TX7, 41)) rfl (by decide) hk hw rfl (Or.inr ⟨rfl, hini, hown, hw2⟩) (ty := .array .int) (by decide +kernel) rfl rfl (pm_off_sp S 367 a (some b)) rfl (pm_fv_sp rfl (some b)) hdg k
theorem pm_g_Model_done {index a : Nat} (hk : pm_k S a = 8) (hw : pm_lk own index RX7 "done" "[I") {b : Nat} (hp : pm_p S 368 a = some b) (hdg : decode cc pc = .ok (.getfield index, 3)) (k : pm_W G l bs own cc nL ini d kc ks Q (pc + 3) L (.ref b :: rest) S) : pm_W G l bs own cc nL ini d kc ks Q pc L (.ref a :: rest) S := pm_getf (c := 7) (j := 18) (r := (RX7, TX7, 41)) rfl (by decide) hk hw rfl hdg (by
  show pm_W G l bs own cc nL ini d kc ks Q (pc + 3) L (va_rf (pm_p S 368 a) :: rest) S
  rw [hp]
  exact k)
theorem pm_p_Model_done {index a : Nat} (hk : pm_k S a = 8) (hw : pm_lk own index RX7 "done" "[I") {b : Nat} (hini : ini = true) (hown : own = RX7) (hw2 : Cond.fieldLink own index RX7 "done" "[I" ∈ pm_ws) (hdg : decode cc pc = .ok (.putfield index, 3)) (k : pm_W G l bs own cc nL ini d kc ks Q (pc + 3) L rest (pm_sp S 368 a (some b))) : pm_W G l bs own cc nL ini d kc ks Q pc L (.ref b :: .ref a :: rest) S := pm_putf (c := 7) (j := 18) (r := (RX7, TX7, 41)) rfl (by decide) hk hw rfl (Or.inr ⟨rfl, hini, hown, hw2⟩) (ty := .array .int) (by decide +kernel) rfl rfl (pm_off_sp S 368 a (some b)) rfl (pm_fv_sp rfl (some b)) hdg k
theorem pm_g_Model_onTo {index a : Nat} (hk : pm_k S a = 8) (hw : pm_lk own index RX7 "onTo" "[I") {b : Nat} (hp : pm_p S 369 a = some b) (hdg : decode cc pc = .ok (.getfield index, 3)) (k : pm_W G l bs own cc nL ini d kc ks Q (pc + 3) L (.ref b :: rest) S) : pm_W G l bs own cc nL ini d kc ks Q pc L (.ref a :: rest) S := pm_getf (c := 7) (j := 19) (r := (RX7, TX7, 41)) rfl (by decide) hk hw rfl hdg (by
  show pm_W G l bs own cc nL ini d kc ks Q (pc + 3) L (va_rf (pm_p S 369 a) :: rest) S
  rw [hp]
  exact k)
theorem pm_p_Model_onTo {index a : Nat} (hk : pm_k S a = 8) (hw : pm_lk own index RX7 "onTo" "[I") {b : Nat} (hini : ini = true) (hown : own = RX7) (hw2 : Cond.fieldLink own index RX7 "onTo" "[I" ∈ pm_ws) (hdg : decode cc pc = .ok (.putfield index, 3)) (k : pm_W G l bs own cc nL ini d kc ks Q (pc + 3) L rest (pm_sp S 369 a (some b))) : pm_W G l bs own cc nL ini d kc ks Q pc L (.ref b :: .ref a :: rest) S := pm_putf (c := 7) (j := 19) (r := (RX7, TX7, 41)) rfl (by decide) hk hw rfl (Or.inr ⟨rfl, hini, hown, hw2⟩) (ty := .array .int) (by decide +kernel) rfl rfl (pm_off_sp S 369 a (some b)) rfl (pm_fv_sp rfl (some b)) hdg k
theorem pm_g_Model_lateTo {index a : Nat} (hk : pm_k S a = 8) (hw : pm_lk own index RX7 "lateTo" "[I") {b : Nat} (hp : pm_p S 370 a = some b) (hdg : decode cc pc = .ok (.getfield index, 3)) (k : pm_W G l bs own cc nL ini d kc ks Q (pc + 3) L (.ref b :: rest) S) : pm_W G l bs own cc nL ini d kc ks Q pc L (.ref a :: rest) S := pm_getf (c := 7) (j := 20) (r := (RX7, TX7, 41)) rfl (by decide) hk hw rfl hdg (by
  show pm_W G l bs own cc nL ini d kc ks Q (pc + 3) L (va_rf (pm_p S 370 a) :: rest) S
  rw [hp]
  exact k)
theorem pm_p_Model_lateTo {index a : Nat} (hk : pm_k S a = 8) (hw : pm_lk own index RX7 "lateTo" "[I") {b : Nat} (hini : ini = true) (hown : own = RX7) (hw2 : Cond.fieldLink own index RX7 "lateTo" "[I" ∈ pm_ws) (hdg : decode cc pc = .ok (.putfield index, 3)) (k : pm_W G l bs own cc nL ini d kc ks Q (pc + 3) L rest (pm_sp S 370 a (some b))) : pm_W G l bs own cc nL ini d kc ks Q pc L (.ref b :: .ref a :: rest) S := pm_putf (c := 7) (j := 20) (r := (RX7, TX7, 41)) rfl (by decide) hk hw rfl (Or.inr ⟨rfl, hini, hown, hw2⟩) (ty := .array .int) (by decide +kernel) rfl rfl (pm_off_sp S 370 a (some b)) rfl (pm_fv_sp rfl (some b)) hdg k
theorem pm_g_Model_due {index a : Nat} (hk : pm_k S a = 8) (hw : pm_lk own index RX7 "due" "[I") {b : Nat} (hp : pm_p S 371 a = some b) (hdg : decode cc pc = .ok (.getfield index, 3)) (k : pm_W G l bs own cc nL ini d kc ks Q (pc + 3) L (.ref b :: rest) S) : pm_W G l bs own cc nL ini d kc ks Q pc L (.ref a :: rest) S := pm_getf (c := 7) (j := 21) (r := (RX7, TX7, 41)) rfl (by decide) hk hw rfl hdg (by
  show pm_W G l bs own cc nL ini d kc ks Q (pc + 3) L (va_rf (pm_p S 371 a) :: rest) S
  rw [hp]
  exact k)
theorem pm_p_Model_due {index a : Nat} (hk : pm_k S a = 8) (hw : pm_lk own index RX7 "due" "[I") {b : Nat} (hini : ini = true) (hown : own = RX7) (hw2 : Cond.fieldLink own index RX7 "due" "[I" ∈ pm_ws) (hdg : decode cc pc = .ok (.putfield index, 3)) (k : pm_W G l bs own cc nL ini d kc ks Q (pc + 3) L rest (pm_sp S 371 a (some b))) : pm_W G l bs own cc nL ini d kc ks Q pc L (.ref b :: .ref a :: rest) S := pm_putf (c := 7) (j := 21) (r := (RX7, TX7, 41)) rfl (by decide) hk hw rfl (Or.inr ⟨rfl, hini, hown, hw2⟩) (ty := .array .int) (by decide +kernel) rfl rfl (pm_off_sp S 371 a (some b)) rfl (pm_fv_sp rfl (some b)) hdg k
theorem pm_g_Model_timed {index a : Nat} (hk : pm_k S a = 8) (hw : pm_lk own index RX7 "timed" "[Z") {b : Nat} (hp : pm_p S 372 a = some b) (hdg : decode cc pc = .ok (.getfield index, 3)) (k : pm_W G l bs own cc nL ini d kc ks Q (pc + 3) L (.ref b :: rest) S) : pm_W G l bs own cc nL ini d kc ks Q pc L (.ref a :: rest) S := pm_getf (c := 7) (j := 22) (r := (RX7, TX7, 41)) rfl (by decide) hk hw rfl hdg (by
  show pm_W G l bs own cc nL ini d kc ks Q (pc + 3) L (va_rf (pm_p S 372 a) :: rest) S
  rw [hp]
  exact k)
theorem pm_p_Model_timed {index a : Nat} (hk : pm_k S a = 8) (hw : pm_lk own index RX7 "timed" "[Z") {b : Nat} (hini : ini = true) (hown : own = RX7) (hw2 : Cond.fieldLink own index RX7 "timed" "[Z" ∈ pm_ws) (hdg : decode cc pc = .ok (.putfield index, 3)) (k : pm_W G l bs own cc nL ini d kc ks Q (pc + 3) L rest (pm_sp S 372 a (some b))) : pm_W G l bs own cc nL ini d kc ks Q pc L (.ref b :: .ref a :: rest) S := pm_putf (c := 7) (j := 22) (r := (RX7, TX7, 41)) rfl (by decide) hk hw rfl (Or.inr ⟨rfl, hini, hown, hw2⟩) (ty := .array .boolean) (by decide +kernel) rfl rfl (pm_off_sp S 372 a (some b)) rfl (pm_fv_sp rfl (some b)) hdg k
theorem pm_g_Model_since {index a : Nat} (hk : pm_k S a = 8) (hw : pm_lk own index RX7 "since" "[I") {b : Nat} (hp : pm_p S 373 a = some b) (hdg : decode cc pc = .ok (.getfield index, 3)) (k : pm_W G l bs own cc nL ini d kc ks Q (pc + 3) L (.ref b :: rest) S) : pm_W G l bs own cc nL ini d kc ks Q pc L (.ref a :: rest) S := pm_getf (c := 7) (j := 23) (r := (RX7, TX7, 41)) rfl (by decide) hk hw rfl hdg (by
  show pm_W G l bs own cc nL ini d kc ks Q (pc + 3) L (va_rf (pm_p S 373 a) :: rest) S
  rw [hp]
  exact k)
theorem pm_p_Model_since {index a : Nat} (hk : pm_k S a = 8) (hw : pm_lk own index RX7 "since" "[I") {b : Nat} (hini : ini = true) (hown : own = RX7) (hw2 : Cond.fieldLink own index RX7 "since" "[I" ∈ pm_ws) (hdg : decode cc pc = .ok (.putfield index, 3)) (k : pm_W G l bs own cc nL ini d kc ks Q (pc + 3) L rest (pm_sp S 373 a (some b))) : pm_W G l bs own cc nL ini d kc ks Q pc L (.ref b :: .ref a :: rest) S := pm_putf (c := 7) (j := 23) (r := (RX7, TX7, 41)) rfl (by decide) hk hw rfl (Or.inr ⟨rfl, hini, hown, hw2⟩) (ty := .array .int) (by decide +kernel) rfl rfl (pm_off_sp S 373 a (some b)) rfl (pm_fv_sp rfl (some b)) hdg k
theorem pm_g_Model_linked {index a : Nat} (hk : pm_k S a = 8) (hw : pm_lk own index RX7 "linked" "[Z") {b : Nat} (hp : pm_p S 374 a = some b) (hdg : decode cc pc = .ok (.getfield index, 3)) (k : pm_W G l bs own cc nL ini d kc ks Q (pc + 3) L (.ref b :: rest) S) : pm_W G l bs own cc nL ini d kc ks Q pc L (.ref a :: rest) S := pm_getf (c := 7) (j := 24) (r := (RX7, TX7, 41)) rfl (by decide) hk hw rfl hdg (by
  show pm_W G l bs own cc nL ini d kc ks Q (pc + 3) L (va_rf (pm_p S 374 a) :: rest) S
  rw [hp]
  exact k)
theorem pm_p_Model_linked {index a : Nat} (hk : pm_k S a = 8) (hw : pm_lk own index RX7 "linked" "[Z") {b : Nat} (hini : ini = true) (hown : own = RX7) (hw2 : Cond.fieldLink own index RX7 "linked" "[Z" ∈ pm_ws) (hdg : decode cc pc = .ok (.putfield index, 3)) (k : pm_W G l bs own cc nL ini d kc ks Q (pc + 3) L rest (pm_sp S 374 a (some b))) : pm_W G l bs own cc nL ini d kc ks Q pc L (.ref b :: .ref a :: rest) S := pm_putf (c := 7) (j := 24) (r := (RX7, TX7, 41)) rfl (by decide) hk hw rfl (Or.inr ⟨rfl, hini, hown, hw2⟩) (ty := .array .boolean) (by decide +kernel) rfl rfl (pm_off_sp S 374 a (some b)) rfl (pm_fv_sp rfl (some b)) hdg k
theorem pm_g_Model_count {index a : Nat} (hk : pm_k S a = 8) (hw : pm_lk own index RX7 "count" "I") (hdg : decode cc pc = .ok (.getfield index, 3)) (k : pm_W G l bs own cc nL ini d kc ks Q (pc + 3) L (.int (pm_i S 375 a) :: rest) S) : pm_W G l bs own cc nL ini d kc ks Q pc L (.ref a :: rest) S := pm_getf (c := 7) (j := 25) (r := (RX7, TX7, 41)) rfl (by decide) hk hw rfl hdg k
theorem pm_p_Model_count {index a : Nat} (hk : pm_k S a = 8) (hw : pm_lk own index RX7 "count" "I") {x : Int32} (hdg : decode cc pc = .ok (.putfield index, 3)) (k : pm_W G l bs own cc nL ini d kc ks Q (pc + 3) L rest (pm_si S 375 a x)) : pm_W G l bs own cc nL ini d kc ks Q pc L (.int x :: .ref a :: rest) S := pm_putf (c := 7) (j := 25) (r := (RX7, TX7, 41)) rfl (by decide) hk hw rfl (Or.inl rfl) (ty := .int) (by decide +kernel) rfl rfl (pm_off_si S 375 a x) rfl (pm_fv_si rfl x) hdg k
theorem pm_g_Model_readies {index a : Nat} (hk : pm_k S a = 8) (hw : pm_lk own index RX7 "readies" "I") (hdg : decode cc pc = .ok (.getfield index, 3)) (k : pm_W G l bs own cc nL ini d kc ks Q (pc + 3) L (.int (pm_i S 376 a) :: rest) S) : pm_W G l bs own cc nL ini d kc ks Q pc L (.ref a :: rest) S := pm_getf (c := 7) (j := 26) (r := (RX7, TX7, 41)) rfl (by decide) hk hw rfl hdg k
theorem pm_p_Model_readies {index a : Nat} (hk : pm_k S a = 8) (hw : pm_lk own index RX7 "readies" "I") {x : Int32} (hdg : decode cc pc = .ok (.putfield index, 3)) (k : pm_W G l bs own cc nL ini d kc ks Q (pc + 3) L rest (pm_si S 376 a x)) : pm_W G l bs own cc nL ini d kc ks Q pc L (.int x :: .ref a :: rest) S := pm_putf (c := 7) (j := 26) (r := (RX7, TX7, 41)) rfl (by decide) hk hw rfl (Or.inl rfl) (ty := .int) (by decide +kernel) rfl rfl (pm_off_si S 376 a x) rfl (pm_fv_si rfl x) hdg k
theorem pm_g_Model_watchers {index a : Nat} (hk : pm_k S a = 8) (hw : pm_lk own index RX7 "watchers" "[I") {b : Nat} (hp : pm_p S 377 a = some b) (hdg : decode cc pc = .ok (.getfield index, 3)) (k : pm_W G l bs own cc nL ini d kc ks Q (pc + 3) L (.ref b :: rest) S) : pm_W G l bs own cc nL ini d kc ks Q pc L (.ref a :: rest) S := pm_getf (c := 7) (j := 27) (r := (RX7, TX7, 41)) rfl (by decide) hk hw rfl hdg (by
  show pm_W G l bs own cc nL ini d kc ks Q (pc + 3) L (va_rf (pm_p S 377 a) :: rest) S
  rw [hp]
  exact k)
theorem pm_p_Model_watchers {index a : Nat} (hk : pm_k S a = 8) (hw : pm_lk own index RX7 "watchers" "[I") {b : Nat} (hini : ini = true) (hown : own = RX7) (hw2 : Cond.fieldLink own index RX7 "watchers" "[I" ∈ pm_ws) (hdg : decode cc pc = .ok (.putfield index, 3)) (k : pm_W G l bs own cc nL ini d kc ks Q (pc + 3) L rest (pm_sp S 377 a (some b))) : pm_W G l bs own cc nL ini d kc ks Q pc L (.ref b :: .ref a :: rest) S := pm_putf (c := 7) (j := 27) (r := (RX7, TX7, 41)) rfl (by decide) hk hw rfl (Or.inr ⟨rfl, hini, hown, hw2⟩) (ty := .array .int) (by decide +kernel) rfl rfl (pm_off_sp S 377 a (some b)) rfl (pm_fv_sp rfl (some b)) hdg k
theorem pm_g_Model_watched {index a : Nat} (hk : pm_k S a = 8) (hw : pm_lk own index RX7 "watched" "[I") {b : Nat} (hp : pm_p S 378 a = some b) (hdg : decode cc pc = .ok (.getfield index, 3)) (k : pm_W G l bs own cc nL ini d kc ks Q (pc + 3) L (.ref b :: rest) S) : pm_W G l bs own cc nL ini d kc ks Q pc L (.ref a :: rest) S := pm_getf (c := 7) (j := 28) (r := (RX7, TX7, 41)) rfl (by decide) hk hw rfl hdg (by
  show pm_W G l bs own cc nL ini d kc ks Q (pc + 3) L (va_rf (pm_p S 378 a) :: rest) S
  rw [hp]
  exact k)
theorem pm_p_Model_watched {index a : Nat} (hk : pm_k S a = 8) (hw : pm_lk own index RX7 "watched" "[I") {b : Nat} (hini : ini = true) (hown : own = RX7) (hw2 : Cond.fieldLink own index RX7 "watched" "[I" ∈ pm_ws) (hdg : decode cc pc = .ok (.putfield index, 3)) (k : pm_W G l bs own cc nL ini d kc ks Q (pc + 3) L rest (pm_sp S 378 a (some b))) : pm_W G l bs own cc nL ini d kc ks Q pc L (.ref b :: .ref a :: rest) S := pm_putf (c := 7) (j := 28) (r := (RX7, TX7, 41)) rfl (by decide) hk hw rfl (Or.inr ⟨rfl, hini, hown, hw2⟩) (ty := .array .int) (by decide +kernel) rfl rfl (pm_off_sp S 378 a (some b)) rfl (pm_fv_sp rfl (some b)) hdg k
theorem pm_g_Model_numbers {index a : Nat} (hk : pm_k S a = 8) (hw : pm_lk own index RX7 "numbers" "[I") {b : Nat} (hp : pm_p S 379 a = some b) (hdg : decode cc pc = .ok (.getfield index, 3)) (k : pm_W G l bs own cc nL ini d kc ks Q (pc + 3) L (.ref b :: rest) S) : pm_W G l bs own cc nL ini d kc ks Q pc L (.ref a :: rest) S := pm_getf (c := 7) (j := 29) (r := (RX7, TX7, 41)) rfl (by decide) hk hw rfl hdg (by
  show pm_W G l bs own cc nL ini d kc ks Q (pc + 3) L (va_rf (pm_p S 379 a) :: rest) S
  rw [hp]
  exact k)
theorem pm_p_Model_numbers {index a : Nat} (hk : pm_k S a = 8) (hw : pm_lk own index RX7 "numbers" "[I") {b : Nat} (hini : ini = true) (hown : own = RX7) (hw2 : Cond.fieldLink own index RX7 "numbers" "[I" ∈ pm_ws) (hdg : decode cc pc = .ok (.putfield index, 3)) (k : pm_W G l bs own cc nL ini d kc ks Q (pc + 3) L rest (pm_sp S 379 a (some b))) : pm_W G l bs own cc nL ini d kc ks Q pc L (.ref b :: .ref a :: rest) S := pm_putf (c := 7) (j := 29) (r := (RX7, TX7, 41)) rfl (by decide) hk hw rfl (Or.inr ⟨rfl, hini, hown, hw2⟩) (ty := .array .int) (by decide +kernel) rfl rfl (pm_off_sp S 379 a (some b)) rfl (pm_fv_sp rfl (some b)) hdg k
theorem pm_g_Model_watchCount {index a : Nat} (hk : pm_k S a = 8) (hw : pm_lk own index RX7 "watchCount" "I") (hdg : decode cc pc = .ok (.getfield index, 3)) (k : pm_W G l bs own cc nL ini d kc ks Q (pc + 3) L (.int (pm_i S 380 a) :: rest) S) : pm_W G l bs own cc nL ini d kc ks Q pc L (.ref a :: rest) S := pm_getf (c := 7) (j := 30) (r := (RX7, TX7, 41)) rfl (by decide) hk hw rfl hdg k
theorem pm_p_Model_watchCount {index a : Nat} (hk : pm_k S a = 8) (hw : pm_lk own index RX7 "watchCount" "I") {x : Int32} (hdg : decode cc pc = .ok (.putfield index, 3)) (k : pm_W G l bs own cc nL ini d kc ks Q (pc + 3) L rest (pm_si S 380 a x)) : pm_W G l bs own cc nL ini d kc ks Q pc L (.int x :: .ref a :: rest) S := pm_putf (c := 7) (j := 30) (r := (RX7, TX7, 41)) rfl (by decide) hk hw rfl (Or.inl rfl) (ty := .int) (by decide +kernel) rfl rfl (pm_off_si S 380 a x) rfl (pm_fv_si rfl x) hdg k
theorem pm_g_Model_made {index a : Nat} (hk : pm_k S a = 8) (hw : pm_lk own index RX7 "made" "I") (hdg : decode cc pc = .ok (.getfield index, 3)) (k : pm_W G l bs own cc nL ini d kc ks Q (pc + 3) L (.int (pm_i S 381 a) :: rest) S) : pm_W G l bs own cc nL ini d kc ks Q pc L (.ref a :: rest) S := pm_getf (c := 7) (j := 31) (r := (RX7, TX7, 41)) rfl (by decide) hk hw rfl hdg k
theorem pm_p_Model_made {index a : Nat} (hk : pm_k S a = 8) (hw : pm_lk own index RX7 "made" "I") {x : Int32} (hdg : decode cc pc = .ok (.putfield index, 3)) (k : pm_W G l bs own cc nL ini d kc ks Q (pc + 3) L rest (pm_si S 381 a x)) : pm_W G l bs own cc nL ini d kc ks Q pc L (.int x :: .ref a :: rest) S := pm_putf (c := 7) (j := 31) (r := (RX7, TX7, 41)) rfl (by decide) hk hw rfl (Or.inl rfl) (ty := .int) (by decide +kernel) rfl rfl (pm_off_si S 381 a x) rfl (pm_fv_si rfl x) hdg k
theorem pm_g_Model_fallen {index a : Nat} (hk : pm_k S a = 8) (hw : pm_lk own index RX7 "fallen" "[I") {b : Nat} (hp : pm_p S 382 a = some b) (hdg : decode cc pc = .ok (.getfield index, 3)) (k : pm_W G l bs own cc nL ini d kc ks Q (pc + 3) L (.ref b :: rest) S) : pm_W G l bs own cc nL ini d kc ks Q pc L (.ref a :: rest) S := pm_getf (c := 7) (j := 32) (r := (RX7, TX7, 41)) rfl (by decide) hk hw rfl hdg (by
  show pm_W G l bs own cc nL ini d kc ks Q (pc + 3) L (va_rf (pm_p S 382 a) :: rest) S
  rw [hp]
  exact k)
theorem pm_p_Model_fallen {index a : Nat} (hk : pm_k S a = 8) (hw : pm_lk own index RX7 "fallen" "[I") {b : Nat} (hini : ini = true) (hown : own = RX7) (hw2 : Cond.fieldLink own index RX7 "fallen" "[I" ∈ pm_ws) (hdg : decode cc pc = .ok (.putfield index, 3)) (k : pm_W G l bs own cc nL ini d kc ks Q (pc + 3) L rest (pm_sp S 382 a (some b))) : pm_W G l bs own cc nL ini d kc ks Q pc L (.ref b :: .ref a :: rest) S := pm_putf (c := 7) (j := 32) (r := (RX7, TX7, 41)) rfl (by decide) hk hw rfl (Or.inr ⟨rfl, hini, hown, hw2⟩) (ty := .array .int) (by decide +kernel) rfl rfl (pm_off_sp S 382 a (some b)) rfl (pm_fv_sp rfl (some b)) hdg k
theorem pm_g_Model_fallenCount {index a : Nat} (hk : pm_k S a = 8) (hw : pm_lk own index RX7 "fallenCount" "I") (hdg : decode cc pc = .ok (.getfield index, 3)) (k : pm_W G l bs own cc nL ini d kc ks Q (pc + 3) L (.int (pm_i S 383 a) :: rest) S) : pm_W G l bs own cc nL ini d kc ks Q pc L (.ref a :: rest) S := pm_getf (c := 7) (j := 33) (r := (RX7, TX7, 41)) rfl (by decide) hk hw rfl hdg k
theorem pm_p_Model_fallenCount {index a : Nat} (hk : pm_k S a = 8) (hw : pm_lk own index RX7 "fallenCount" "I") {x : Int32} (hdg : decode cc pc = .ok (.putfield index, 3)) (k : pm_W G l bs own cc nL ini d kc ks Q (pc + 3) L rest (pm_si S 383 a x)) : pm_W G l bs own cc nL ini d kc ks Q pc L (.int x :: .ref a :: rest) S := pm_putf (c := 7) (j := 33) (r := (RX7, TX7, 41)) rfl (by decide) hk hw rfl (Or.inl rfl) (ty := .int) (by decide +kernel) rfl rfl (pm_off_si S 383 a x) rfl (pm_fv_si rfl x) hdg k
theorem pm_g_Model_out {index a : Nat} (hk : pm_k S a = 8) (hw : pm_lk own index RX7 "out" "[I") {b : Nat} (hp : pm_p S 384 a = some b) (hdg : decode cc pc = .ok (.getfield index, 3)) (k : pm_W G l bs own cc nL ini d kc ks Q (pc + 3) L (.ref b :: rest) S) : pm_W G l bs own cc nL ini d kc ks Q pc L (.ref a :: rest) S := pm_getf (c := 7) (j := 34) (r := (RX7, TX7, 41)) rfl (by decide) hk hw rfl hdg (by
  show pm_W G l bs own cc nL ini d kc ks Q (pc + 3) L (va_rf (pm_p S 384 a) :: rest) S
  rw [hp]
  exact k)
theorem pm_p_Model_out {index a : Nat} (hk : pm_k S a = 8) (hw : pm_lk own index RX7 "out" "[I") {b : Nat} (hini : ini = true) (hown : own = RX7) (hw2 : Cond.fieldLink own index RX7 "out" "[I" ∈ pm_ws) (hdg : decode cc pc = .ok (.putfield index, 3)) (k : pm_W G l bs own cc nL ini d kc ks Q (pc + 3) L rest (pm_sp S 384 a (some b))) : pm_W G l bs own cc nL ini d kc ks Q pc L (.ref b :: .ref a :: rest) S := pm_putf (c := 7) (j := 34) (r := (RX7, TX7, 41)) rfl (by decide) hk hw rfl (Or.inr ⟨rfl, hini, hown, hw2⟩) (ty := .array .int) (by decide +kernel) rfl rfl (pm_off_sp S 384 a (some b)) rfl (pm_fv_sp rfl (some b)) hdg k
theorem pm_g_Model_printed {index a : Nat} (hk : pm_k S a = 8) (hw : pm_lk own index RX7 "printed" "I") (hdg : decode cc pc = .ok (.getfield index, 3)) (k : pm_W G l bs own cc nL ini d kc ks Q (pc + 3) L (.int (pm_i S 385 a) :: rest) S) : pm_W G l bs own cc nL ini d kc ks Q pc L (.ref a :: rest) S := pm_getf (c := 7) (j := 35) (r := (RX7, TX7, 41)) rfl (by decide) hk hw rfl hdg k
theorem pm_p_Model_printed {index a : Nat} (hk : pm_k S a = 8) (hw : pm_lk own index RX7 "printed" "I") {x : Int32} (hdg : decode cc pc = .ok (.putfield index, 3)) (k : pm_W G l bs own cc nL ini d kc ks Q (pc + 3) L rest (pm_si S 385 a x)) : pm_W G l bs own cc nL ini d kc ks Q pc L (.int x :: .ref a :: rest) S := pm_putf (c := 7) (j := 35) (r := (RX7, TX7, 41)) rfl (by decide) hk hw rfl (Or.inl rfl) (ty := .int) (by decide +kernel) rfl rfl (pm_off_si S 385 a x) rfl (pm_fv_si rfl x) hdg k
theorem pm_g_Model_slices {index a : Nat} (hk : pm_k S a = 8) (hw : pm_lk own index RX7 "slices" "I") (hdg : decode cc pc = .ok (.getfield index, 3)) (k : pm_W G l bs own cc nL ini d kc ks Q (pc + 3) L (.int (pm_i S 386 a) :: rest) S) : pm_W G l bs own cc nL ini d kc ks Q pc L (.ref a :: rest) S := pm_getf (c := 7) (j := 36) (r := (RX7, TX7, 41)) rfl (by decide) hk hw rfl hdg k
theorem pm_p_Model_slices {index a : Nat} (hk : pm_k S a = 8) (hw : pm_lk own index RX7 "slices" "I") {x : Int32} (hdg : decode cc pc = .ok (.putfield index, 3)) (k : pm_W G l bs own cc nL ini d kc ks Q (pc + 3) L rest (pm_si S 386 a x)) : pm_W G l bs own cc nL ini d kc ks Q pc L (.int x :: .ref a :: rest) S := pm_putf (c := 7) (j := 36) (r := (RX7, TX7, 41)) rfl (by decide) hk hw rfl (Or.inl rfl) (ty := .int) (by decide +kernel) rfl rfl (pm_off_si S 386 a x) rfl (pm_fv_si rfl x) hdg k
theorem pm_g_Model_allDone {index a : Nat} (hk : pm_k S a = 8) (hw : pm_lk own index RX7 "allDone" "I") (hdg : decode cc pc = .ok (.getfield index, 3)) (k : pm_W G l bs own cc nL ini d kc ks Q (pc + 3) L (.int (pm_i S 387 a) :: rest) S) : pm_W G l bs own cc nL ini d kc ks Q pc L (.ref a :: rest) S := pm_getf (c := 7) (j := 37) (r := (RX7, TX7, 41)) rfl (by decide) hk hw rfl hdg k
theorem pm_p_Model_allDone {index a : Nat} (hk : pm_k S a = 8) (hw : pm_lk own index RX7 "allDone" "I") {x : Int32} (hdg : decode cc pc = .ok (.putfield index, 3)) (k : pm_W G l bs own cc nL ini d kc ks Q (pc + 3) L rest (pm_si S 387 a x)) : pm_W G l bs own cc nL ini d kc ks Q pc L (.int x :: .ref a :: rest) S := pm_putf (c := 7) (j := 37) (r := (RX7, TX7, 41)) rfl (by decide) hk hw rfl (Or.inl rfl) (ty := .int) (by decide +kernel) rfl rfl (pm_off_si S 387 a x) rfl (pm_fv_si rfl x) hdg k
theorem pm_g_Model_time {index a : Nat} (hk : pm_k S a = 8) (hw : pm_lk own index RX7 "time" "I") (hdg : decode cc pc = .ok (.getfield index, 3)) (k : pm_W G l bs own cc nL ini d kc ks Q (pc + 3) L (.int (pm_i S 388 a) :: rest) S) : pm_W G l bs own cc nL ini d kc ks Q pc L (.ref a :: rest) S := pm_getf (c := 7) (j := 38) (r := (RX7, TX7, 41)) rfl (by decide) hk hw rfl hdg k
theorem pm_p_Model_time {index a : Nat} (hk : pm_k S a = 8) (hw : pm_lk own index RX7 "time" "I") {x : Int32} (hdg : decode cc pc = .ok (.putfield index, 3)) (k : pm_W G l bs own cc nL ini d kc ks Q (pc + 3) L rest (pm_si S 388 a x)) : pm_W G l bs own cc nL ini d kc ks Q pc L (.int x :: .ref a :: rest) S := pm_putf (c := 7) (j := 38) (r := (RX7, TX7, 41)) rfl (by decide) hk hw rfl (Or.inl rfl) (ty := .int) (by decide +kernel) rfl rfl (pm_off_si S 388 a x) rfl (pm_fv_si rfl x) hdg k
theorem pm_g_Model_came {index a : Nat} (hk : pm_k S a = 8) (hw : pm_lk own index RX7 "came" "I") (hdg : decode cc pc = .ok (.getfield index, 3)) (k : pm_W G l bs own cc nL ini d kc ks Q (pc + 3) L (.int (pm_i S 389 a) :: rest) S) : pm_W G l bs own cc nL ini d kc ks Q pc L (.ref a :: rest) S := pm_getf (c := 7) (j := 39) (r := (RX7, TX7, 41)) rfl (by decide) hk hw rfl hdg k
theorem pm_p_Model_came {index a : Nat} (hk : pm_k S a = 8) (hw : pm_lk own index RX7 "came" "I") {x : Int32} (hdg : decode cc pc = .ok (.putfield index, 3)) (k : pm_W G l bs own cc nL ini d kc ks Q (pc + 3) L rest (pm_si S 389 a x)) : pm_W G l bs own cc nL ini d kc ks Q pc L (.int x :: .ref a :: rest) S := pm_putf (c := 7) (j := 39) (r := (RX7, TX7, 41)) rfl (by decide) hk hw rfl (Or.inl rfl) (ty := .int) (by decide +kernel) rfl rfl (pm_off_si S 389 a x) rfl (pm_fv_si rfl x) hdg k
theorem pm_g_Model_thrown {index a : Nat} (hk : pm_k S a = 8) (hw : pm_lk own index RX7 "thrown" "I") (hdg : decode cc pc = .ok (.getfield index, 3)) (k : pm_W G l bs own cc nL ini d kc ks Q (pc + 3) L (.int (pm_i S 390 a) :: rest) S) : pm_W G l bs own cc nL ini d kc ks Q pc L (.ref a :: rest) S := pm_getf (c := 7) (j := 40) (r := (RX7, TX7, 41)) rfl (by decide) hk hw rfl hdg k
theorem pm_p_Model_thrown {index a : Nat} (hk : pm_k S a = 8) (hw : pm_lk own index RX7 "thrown" "I") {x : Int32} (hdg : decode cc pc = .ok (.putfield index, 3)) (k : pm_W G l bs own cc nL ini d kc ks Q (pc + 3) L rest (pm_si S 390 a x)) : pm_W G l bs own cc nL ini d kc ks Q pc L (.int x :: .ref a :: rest) S := pm_putf (c := 7) (j := 40) (r := (RX7, TX7, 41)) rfl (by decide) hk hw rfl (Or.inl rfl) (ty := .int) (by decide +kernel) rfl rfl (pm_off_si S 390 a x) rfl (pm_fv_si rfl x) hdg k
theorem pm_df_Model (S : pm_S) (a : Nat) : ∀ j, j < 41 → defaultValue (tyX7 j) = pm_fv (pm_nw S a 8 0) 7 a j := by
  intro j hj
  have h := hj
  have e : ∀ o f, pm_sv (pm_nw S a 8 0) o f a = (match o with | 0 => .int 0 | 1 => .null | _ => .long 0) := by
    intro o f
    unfold pm_sv
    split <;> simp [pm_i_nw, pm_p_nw, pm_j_nw, va_rf]
  unfold pm_fv
  rw [e]
  revert j
  decide
theorem pm_new_Model {index kc' ks' : Nat} (hw1 : Cond.classLink own index RX7 ∈ pm_ws) (hkc : kc' + 1 ≤ kc) (hks : ks' + 41 ≤ ks) (hdg : decode cc pc = .ok (.new index, 3)) (k : ∀ a : Nat, pm_k S a = 0 → bs ≤ a → pm_W G l bs own cc nL ini d kc' ks' Q (pc + 3) L (.ref a :: rest) (pm_nw S a 8 0)) : pm_W G l bs own cc nL ini d kc ks Q pc L rest S := pm_new (c := 7) (r := (RX7, TX7, 41)) rfl hw1 pm_in_X7 pm_ii_X7 hkc hks (fun S a j _ hj ty hty => by cases hty; exact pm_df_Model S a j hj) hdg k
end PMF
end
section
/-! rules in the form in which the walks use them -/
section PMT
variable {G : pm_G} {l : Launch} {bs : Nat} {own : String} {cc : ByteArray} {nL : Nat} {ini : Bool} {d kc ks : Nat} {Q : Instr → List Value → pm_S → Prop} {pc : Nat} {L rest : List Value} {S : pm_S}
theorem pm_istn {k9 : Fin 4} {i : Nat} {x : Int32} (hdg : decode cc pc = .ok (.istore_n k9, 1)) (hi : (k9 : Nat) = i) (hn : i < nL) (k : pm_W G l bs own cc nL ini d kc ks Q (pc + 1) (L.set i (.int x)) rest S) (hp : pm_c1 L i := by first | exact trivial | exact pm_c1_s rfl rfl | exact pm_c1_s rfl (pm_rf_cat _) | assumption) : pm_W G l bs own cc nL ini d kc ks Q pc L (.int x :: rest) S := by
  subst hi
  exact pm_istore_n hdg hn k hp
theorem pm_lstn {k9 : Fin 4} {i : Nat} {x : Int64} (hdg : decode cc pc = .ok (.lstore_n k9, 1)) (hi : (k9 : Nat) = i) (hn : i + 1 < nL) (k : pm_W G l bs own cc nL ini d kc ks Q (pc + 1) ((L.set i (.long x)).set (i + 1) pm_u) rest S) (hp : pm_c1 L i := by first | exact trivial | exact pm_c1_s rfl rfl | exact pm_c1_s rfl (pm_rf_cat _) | assumption) : pm_W G l bs own cc nL ini d kc ks Q pc L (.long x :: rest) S := by
  subst hi
  exact pm_lstore_n hdg hn k hp
theorem pm_astn {k9 : Fin 4} {i : Nat} {v : Value} (hdg : decode cc pc = .ok (.astore_n k9, 1)) (hi : (k9 : Nat) = i) (hn : i < nL) (k : pm_W G l bs own cc nL ini d kc ks Q (pc + 1) (L.set i v) rest S) (hr : pm_isr v := by first | exact Or.inr ⟨_, rfl⟩ | exact Or.inl rfl | exact pm_isr_rf _ | assumption) (hp : pm_c1 L i := by first | exact trivial | exact pm_c1_s rfl rfl | exact pm_c1_s rfl (pm_rf_cat _) | assumption) : pm_W G l bs own cc nL ini d kc ks Q pc L (v :: rest) S := by
  subst hi
  exact pm_astore_n hdg hn k hr hp
theorem pm_iret {post : Int32 → pm_S → Prop} {x : Int32} (hdg : decode cc pc = .ok (.ireturn, 1)) (h : post x S) : pm_W G l bs own cc nL ini d kc ks (pm_xi post) pc L [.int x] S := pm_exit hdg ⟨rfl, x, rfl, h⟩
theorem pm_zret {post : Int32 → pm_S → Prop} {x : Int32} (hdg : decode cc pc = .ok (.ireturn, 1)) (hx : x = 0 ∨ x = 1) (h : post x S) : pm_W G l bs own cc nL ini d kc ks (pm_xz post) pc L [.int x] S := pm_exit hdg ⟨rfl, x, rfl, hx, h⟩
theorem pm_vret {post : pm_S → Prop} (hdg : decode cc pc = .ok (.return_, 1)) (h : post S) : pm_W G l bs own cc nL ini d kc ks (pm_xv post) pc L [] S := pm_exit hdg ⟨rfl, rfl, h⟩
theorem pm_aret {post : Option Nat → pm_S → Prop} {a : Nat} (hdg : decode cc pc = .ok (.areturn, 1)) (h : post (some a) S) : pm_W G l bs own cc nL ini d kc ks (pm_xr post) pc L [.ref a] S := pm_exit hdg ⟨rfl, some a, rfl, h⟩
theorem pm_aretn {post : Option Nat → pm_S → Prop} (hdg : decode cc pc = .ok (.areturn, 1)) (h : post none S) : pm_W G l bs own cc nL ini d kc ks (pm_xr post) pc L [.null] S := pm_exit hdg ⟨rfl, none, rfl, h⟩
theorem pm_aretr {post : Option Nat → pm_S → Prop} {r : Option Nat} (hdg : decode cc pc = .ok (.areturn, 1)) (h : post r S) : pm_W G l bs own cc nL ini d kc ks (pm_xr post) pc L [va_rf r] S := pm_exit hdg ⟨rfl, r, rfl, h⟩
variable {y : MethodName} {bytes : ByteArray} {maxL : Nat} {ret : Option FieldType} {n d' kc1 ks1 kc2 ks2 index : Nat} {As : List Value} {b : Nat}
/-- calls of methods that make nothing -/
theorem pm_vi {post : Int32 → pm_S → Prop} (hM : pm_M G l bs y bytes maxL ret d' 0 0 (.ref b :: As) S (pm_qi post)) (hy : pm_yb y bytes maxL ret n) (hy2 : Cond.instanceMethod y ∈ pm_ws ∧ Cond.selects y.cls y y ∈ pm_ws) (hl : Cond.methodLink own index y ∈ pm_ws) {c : Nat} {r : vw_C} (hr : vwCl[c]? = some r) (hrc : r.1 = y.cls) (hb : pm_k S b = c + 1) (hdg : decode cc pc = .ok (.invokevirtual index, 3)) {st0 : List Value} (hst : st0 = As.reverse ++ .ref b :: rest) (hn : As.length = n) (hd : d' + 1 ≤ d) (hrs : (rest.map fun v => v.category).sum ≤ 8)
    (k : ∀ (x : Int32) (S' : pm_S), post x S' → pm_W G l bs own cc nL ini d kc ks Q (pc + 3) L (.int x :: rest) S') : pm_W G l bs own cc nL ini d kc ks Q pc L st0 S :=
  pm_callV hM hy hy2 hl hr hrc hb hn hd (kc2 := kc) (ks2 := ks) (by omega) (by omega) hrs hdg hst (fun v S' h => by obtain ⟨x, rfl, h⟩ := h; exact k x S' h)
theorem pm_vv {post : pm_S → Prop} (hM : pm_M G l bs y bytes maxL ret d' 0 0 (.ref b :: As) S (pm_qv post)) (hy : pm_yb y bytes maxL ret n) (hy2 : Cond.instanceMethod y ∈ pm_ws ∧ Cond.selects y.cls y y ∈ pm_ws) (hl : Cond.methodLink own index y ∈ pm_ws) {c : Nat} {r : vw_C} (hr : vwCl[c]? = some r) (hrc : r.1 = y.cls) (hb : pm_k S b = c + 1) (hdg : decode cc pc = .ok (.invokevirtual index, 3)) {st0 : List Value} (hst : st0 = As.reverse ++ .ref b :: rest) (hn : As.length = n) (hd : d' + 1 ≤ d) (hrs : (rest.map fun v => v.category).sum ≤ 8)
    (k : ∀ (S' : pm_S), post S' → pm_W G l bs own cc nL ini d kc ks Q (pc + 3) L rest S') : pm_W G l bs own cc nL ini d kc ks Q pc L st0 S :=
  pm_callV hM hy hy2 hl hr hrc hb hn hd (kc2 := kc) (ks2 := ks) (by omega) (by omega) hrs hdg hst (fun v S' h => by obtain ⟨rfl, h⟩ := h; exact k S' h)
theorem pm_vr {post : Option Nat → pm_S → Prop} (hM : pm_M G l bs y bytes maxL ret d' 0 0 (.ref b :: As) S (pm_qr post)) (hy : pm_yb y bytes maxL ret n) (hy2 : Cond.instanceMethod y ∈ pm_ws ∧ Cond.selects y.cls y y ∈ pm_ws) (hl : Cond.methodLink own index y ∈ pm_ws) {c : Nat} {r : vw_C} (hr : vwCl[c]? = some r) (hrc : r.1 = y.cls) (hb : pm_k S b = c + 1) (hdg : decode cc pc = .ok (.invokevirtual index, 3)) {st0 : List Value} (hst : st0 = As.reverse ++ .ref b :: rest) (hn : As.length = n) (hd : d' + 1 ≤ d) (hrs : (rest.map fun v => v.category).sum ≤ 8)
    (k : ∀ (x : Option Nat) (S' : pm_S), post x S' → pm_W G l bs own cc nL ini d kc ks Q (pc + 3) L (va_rf x :: rest) S') : pm_W G l bs own cc nL ini d kc ks Q pc L st0 S :=
  pm_callV hM hy hy2 hl hr hrc hb hn hd (kc2 := kc) (ks2 := ks) (by omega) (by omega) hrs hdg hst (fun v S' h => by obtain ⟨x, rfl, h⟩ := h; exact k x S' h)
theorem pm_ssi {post : Int32 → pm_S → Prop} (hM : pm_M G l bs y bytes maxL ret d' 0 0 As S (pm_qi post)) (hy : pm_yb y bytes maxL ret n) (hy2 : Cond.static y ∈ pm_ws) (hl : Cond.methodLink own index y ∈ pm_ws) (hdg : decode cc pc = .ok (.invokestatic index, 3)) {st0 : List Value} (hst : st0 = As.reverse ++ rest) (hn : As.length = n) (hd : d' + 1 ≤ d) (hrs : (rest.map fun v => v.category).sum ≤ 8)
    (k : ∀ (x : Int32) (S' : pm_S), post x S' → pm_W G l bs own cc nL ini d kc ks Q (pc + 3) L (.int x :: rest) S') : pm_W G l bs own cc nL ini d kc ks Q pc L st0 S :=
  pm_callS hM hy hy2 hl hn hd (kc2 := kc) (ks2 := ks) (by omega) (by omega) hrs hdg hst (fun v S' h => by obtain ⟨x, rfl, h⟩ := h; exact k x S' h)
end PMT
end
section
/-! what a method may have changed; terms of the class -/
def pm_fr (S S' : pm_S) (F : Nat → Nat → Prop) (A : Nat → Prop) : Prop := pm_k S' = pm_k S ∧ pm_n S' = pm_n S ∧ (∀ g b, ¬ F g b → pm_i S' g b = pm_i S g b ∧ pm_j S' g b = pm_j S g b ∧ pm_p S' g b = pm_p S g b) ∧ (∀ b, ¬ A b → pm_x S' b = pm_x S b ∧ pm_y S' b = pm_y S b ∧ pm_z S' b = pm_z S b)
theorem pm_fr.rf {S : pm_S} {F : Nat → Nat → Prop} {A : Nat → Prop} : pm_fr S S F A := ⟨rfl, rfl, fun _ _ _ => ⟨rfl, rfl, rfl⟩, fun _ _ => ⟨rfl, rfl, rfl⟩⟩
theorem pm_fr.tr {S S1 S2 : pm_S} {F : Nat → Nat → Prop} {A : Nat → Prop} (h1 : pm_fr S S1 F A) (h2 : pm_fr S1 S2 F A) : pm_fr S S2 F A := by
  obtain ⟨a1, a2, a3, a4⟩ := h1
  obtain ⟨b1, b2, b3, b4⟩ := h2
  refine ⟨b1.trans a1, b2.trans a2, fun g b h => ?_, fun b h => ?_⟩
  · exact ⟨(b3 g b h).1.trans (a3 g b h).1, (b3 g b h).2.1.trans (a3 g b h).2.1, (b3 g b h).2.2.trans (a3 g b h).2.2⟩
  · exact ⟨(b4 b h).1.trans (a4 b h).1, (b4 b h).2.1.trans (a4 b h).2.1, (b4 b h).2.2.trans (a4 b h).2.2⟩
theorem pm_fr.mono {S S1 : pm_S} {F F' : Nat → Nat → Prop} {A A' : Nat → Prop} (h : pm_fr S S1 F A) (hF : ∀ g b, F g b → F' g b) (hA : ∀ b, A b → A' b) : pm_fr S S1 F' A' := ⟨h.1, h.2.1, fun g b q => h.2.2.1 g b (fun z => q (hF g b z)), fun b q => h.2.2.2 b (fun z => q (hA b z))⟩
theorem pm_fr_si {S : pm_S} {f a : Nat} {v : Int32} {F : Nat → Nat → Prop} {A : Nat → Prop} (h : F f a) : pm_fr S (pm_si S f a v) F A := ⟨rfl, rfl, fun g b q => ⟨by rw [pm_i_si, if_neg (fun z => q (by rw [z.1, z.2]; exact h))], rfl, rfl⟩, fun _ _ => ⟨rfl, rfl, rfl⟩⟩
theorem pm_fr_sj {S : pm_S} {f a : Nat} {v : Int64} {F : Nat → Nat → Prop} {A : Nat → Prop} (h : F f a) : pm_fr S (pm_sj S f a v) F A := ⟨rfl, rfl, fun g b q => ⟨rfl, by rw [pm_j_sj, if_neg (fun z => q (by rw [z.1, z.2]; exact h))], rfl⟩, fun _ _ => ⟨rfl, rfl, rfl⟩⟩
theorem pm_fr_sp {S : pm_S} {f a : Nat} {v : Option Nat} {F : Nat → Nat → Prop} {A : Nat → Prop} (h : F f a) : pm_fr S (pm_sp S f a v) F A := ⟨rfl, rfl, fun g b q => ⟨rfl, rfl, by rw [pm_p_sp, if_neg (fun z => q (by rw [z.1, z.2]; exact h))]⟩, fun _ _ => ⟨rfl, rfl, rfl⟩⟩
theorem pm_fr_sx {S : pm_S} {a i : Nat} {v : Int32} {F : Nat → Nat → Prop} {A : Nat → Prop} (h : A a) : pm_fr S (pm_sx S a i v) F A := ⟨rfl, rfl, fun _ _ _ => ⟨rfl, rfl, rfl⟩, fun b q => ⟨by funext e; rw [pm_x_sx, if_neg (fun z => q (by rw [z.1]; exact h))], rfl, rfl⟩⟩
theorem pm_fr_sz {S : pm_S} {a i : Nat} {v : Option Nat} {F : Nat → Nat → Prop} {A : Nat → Prop} (h : A a) : pm_fr S (pm_sz S a i v) F A := ⟨rfl, rfl, fun _ _ _ => ⟨rfl, rfl, rfl⟩, fun b q => ⟨rfl, rfl, by funext e; rw [pm_z_sz, if_neg (fun z => q (by rw [z.1]; exact h))]⟩⟩
theorem pm_fr_sr {S : pm_S} {a : Nat} {r : Nat → Int32} {F : Nat → Nat → Prop} {A : Nat → Prop} (h : A a) : pm_fr S (pm_sr S a r) F A := ⟨rfl, rfl, fun _ _ _ => ⟨rfl, rfl, rfl⟩, fun b q => ⟨by funext e; rw [pm_x_sr, if_neg (fun z => q (by rw [z]; exact h))], rfl, rfl⟩⟩
/-- an object of Term, its row -/
def pm_to (S : pm_S) (t r : Nat) : Prop := pm_k S t = 4 ∧ pm_p S 150 t = some r ∧ pm_k S r = 9 ∧ pm_n S r = 95
/-- .. that holds the row of numbers w -/
def pm_tm (S : pm_S) (t r : Nat) (w : List Int32) : Prop := pm_to S t r ∧ pm_i S 151 t = nI w.length ∧ w.length ≤ 95 ∧ ∀ i, i < w.length → w[i]? = some (pm_x S r i)
/-- a term's own change -/
def pm_ft (S S' : pm_S) (t r : Nat) : Prop := pm_fr S S' (fun g b => g = 151 ∧ b = t) (fun b => b = r)
theorem pm_to.fr {S S' : pm_S} {t r : Nat} {F : Nat → Nat → Prop} {A : Nat → Prop} (h : pm_to S t r) (hf : pm_fr S S' F A) (h1 : ¬ F 150 t) : pm_to S' t r := by
  obtain ⟨a1, a2, a3, a4⟩ := h
  exact ⟨by rw [hf.1]; exact a1, by rw [(hf.2.2.1 150 t h1).2.2]; exact a2, by rw [hf.1]; exact a3, by rw [hf.2.1]; exact a4⟩
theorem pm_to.ft {S S' : pm_S} {t r a b : Nat} (h : pm_to S t r) (hf : pm_ft S S' a b) : pm_to S' t r := h.fr hf (fun z => by omega)
theorem pm_tm.fr {S S' : pm_S} {t r : Nat} {w : List Int32} {F : Nat → Nat → Prop} {A : Nat → Prop} (h : pm_tm S t r w) (hf : pm_fr S S' F A) (h1 : ¬ F 150 t) (h2 : ¬ F 151 t) (h3 : ¬ A r) : pm_tm S' t r w := by
  obtain ⟨a1, a2, a3, a4⟩ := h
  exact ⟨a1.fr hf h1, by rw [(hf.2.2.1 151 t h2).1]; exact a2, a3, fun i hi => by rw [(hf.2.2.2 r h3).1]; exact a4 i hi⟩
theorem pm_lt0 {a : Int32} : a < 0 ↔ a.toInt < 0 := by rw [Int32.lt_iff_toInt_lt]; rfl
theorem pm_0le {a : Int32} : 0 ≤ a ↔ 0 ≤ a.toInt := by rw [Int32.le_iff_toInt_le]; rfl
theorem pm_nle {a b : Nat} (hb : b < 2 ^ 31) (ha : a < 2 ^ 31) : nI a ≤ nI b ↔ a ≤ b := nI_leI ha hb
end
section
/-! small methods that change nothing -/
def pm_kd (x : Int32) : Int32 := if x = -1 then 3 else x
set_option maxHeartbeats 4000000 in
set_option maxRecDepth 100000 in
theorem c_X3_kindOf (G : pm_G) (l : Launch) (bs : Nat) (t : Int32) (S : pm_S)  : pm_M G l bs yX3_kindOf cX3_kindOf 1 (some .int) 0 0 0 [.int t] S (pm_qi (fun x S2 => x = pm_kd t ∧ S2 = S)) := by
  refine pm_Mi (L := [.int t]) (by decide) rfl (pm_en_1 rfl (pm_en_0 rfl)) ?_
  refine pm_iload_n dX3_kindOf_0 rfl ?_
  refine pm_iconst (v := (-1)) dX3_kindOf_1 (by decide) ?_
  refine pm_icmp_ne (tgt := 9) dX3_kindOf_2 (by decide) (fun h2 => ?_) (fun h2 => ?_)
  · skip
    refine pm_iload_n dX3_kindOf_9 rfl ?_
    refine pm_iret dX3_kindOf_10 ?_
    exact ⟨by simp [pm_kd, *], rfl⟩
  · skip
    refine pm_iconst (v := 3) dX3_kindOf_5 (by decide) ?_
    refine pm_goto (tgt := 10) dX3_kindOf_6 (by decide) ?_
    refine pm_iret dX3_kindOf_10 ?_
    exact ⟨by simp [pm_kd, *], rfl⟩

set_option maxHeartbeats 4000000 in
set_option maxRecDepth 100000 in
theorem c_X6_isBelow (G : pm_G) (l : Launch) (bs : Nat) (a b : Int32) (S : pm_S)  : pm_M G l bs yX6_isBelow cX6_isBelow 2 (some .boolean) 0 0 0 [.int a, .int b] S (pm_qi (fun x S2 => x = (if 0 ≤ a ∧ a < b then 1 else 0) ∧ S2 = S)) := by
  refine pm_Mz (L := [.int a, .int b]) (by decide) rfl (pm_en_1 rfl (pm_en_1 rfl (pm_en_0 rfl))) ?_
  refine pm_iload_n dX6_isBelow_0 rfl ?_
  refine pm_if_lt (tgt := 13) dX6_isBelow_1 (by decide) (fun h1 => ?_) (fun h1 => ?_)
  · skip
    refine pm_iconst (v := 0) dX6_isBelow_13 (by decide) ?_
    refine pm_zret dX6_isBelow_14 (by first | exact Or.inl rfl | exact Or.inr rfl | assumption) ?_
    refine ⟨?_, rfl⟩
    first | (rw [if_pos ⟨Int32.not_lt.mp h1, Int32.not_le.mp h6⟩]; done) | (rw [if_neg (fun z => Int32.not_lt.mpr z.1 h1)]; done) | (rw [if_neg (fun z => Int32.not_le.mpr z.2 h6)]; done)
  · skip
    refine pm_iload_n dX6_isBelow_4 rfl ?_
    refine pm_iload_n dX6_isBelow_5 rfl ?_
    refine pm_icmp_ge (tgt := 13) dX6_isBelow_6 (by decide) (fun h6 => ?_) (fun h6 => ?_)
    · skip
      refine pm_iconst (v := 0) dX6_isBelow_13 (by decide) ?_
      refine pm_zret dX6_isBelow_14 (by first | exact Or.inl rfl | exact Or.inr rfl | assumption) ?_
      refine ⟨?_, rfl⟩
      first | (rw [if_pos ⟨Int32.not_lt.mp h1, Int32.not_le.mp h6⟩]; done) | (rw [if_neg (fun z => Int32.not_lt.mpr z.1 h1)]; done) | (rw [if_neg (fun z => Int32.not_le.mpr z.2 h6)]; done)
    · skip
      refine pm_iconst (v := 1) dX6_isBelow_9 (by decide) ?_
      refine pm_goto (tgt := 14) dX6_isBelow_10 (by decide) ?_
      refine pm_zret dX6_isBelow_14 (by first | exact Or.inl rfl | exact Or.inr rfl | assumption) ?_
      refine ⟨?_, rfl⟩
      first | (rw [if_pos ⟨Int32.not_lt.mp h1, Int32.not_le.mp h6⟩]; done) | (rw [if_neg (fun z => Int32.not_lt.mpr z.1 h1)]; done) | (rw [if_neg (fun z => Int32.not_le.mpr z.2 h6)]; done)

set_option maxHeartbeats 4000000 in
set_option maxRecDepth 100000 in
theorem c_X3_kind (G : pm_G) (l : Launch) (bs : Nat) (t r : Nat) (w : List Int32) (S : pm_S) (h : pm_tm S t r w) (h0 : 0 < w.length) : pm_M G l bs yX3_kind cX3_kind 1 (some .int) 1 0 0 [.ref t] S (pm_qi (fun x S2 => w[0]?.map pm_kd = some x ∧ S2 = S)) := by
  obtain ⟨⟨hk, hp, hkr, hnr⟩, hlen, hle, hx⟩ := h
  refine pm_Mi (L := [.ref t]) (by decide) rfl (pm_en_1 rfl (pm_en_0 rfl)) ?_
  refine pm_aload_n dX3_kind_0 rfl ?_
  refine pm_g_Term_row (by assumption) pm_f_X3_11 (by assumption) dX3_kind_1 ?_
  refine pm_iconst (v := 0) dX3_kind_4 (by decide) ?_
  refine pm_iaload (n := 0) (by assumption) nI_0.symm (by omega) (by omega) dX3_kind_5 ?_
  refine pm_ssi (c_X3_kindOf G l bs _ S) pm_y_X3_kindOf pm_s_X3_kindOf pm_m_X3_19 dX3_kind_6 rfl rfl (by decide) (Nat.le_of_ble_eq_true rfl) (fun x6 S6 h6 => ?_)
  obtain ⟨rfl, rfl⟩ := h6
  refine pm_iret dX3_kind_9 ?_
  exact ⟨by rw [hx 0 h0]; rfl, rfl⟩

set_option maxHeartbeats 4000000 in
set_option maxRecDepth 100000 in
theorem c_X3_value (G : pm_G) (l : Launch) (bs : Nat) (t r : Nat) (w : List Int32) (S : pm_S) (h : pm_tm S t r w) (h0 : 1 < w.length) : pm_M G l bs yX3_value cX3_value 1 (some .int) 0 0 0 [.ref t] S (pm_qi (fun x S2 => w[1]? = some x ∧ S2 = S)) := by
  obtain ⟨⟨hk, hp, hkr, hnr⟩, hlen, hle, hx⟩ := h
  refine pm_Mi (L := [.ref t]) (by decide) rfl (pm_en_1 rfl (pm_en_0 rfl)) ?_
  refine pm_aload_n dX3_value_0 rfl ?_
  refine pm_g_Term_row (by assumption) pm_f_X3_11 (by assumption) dX3_value_1 ?_
  refine pm_iconst (v := 1) dX3_value_4 (by decide) ?_
  refine pm_iaload (n := 1) (by assumption) rfl (by omega) (by omega) dX3_value_5 ?_
  refine pm_iret dX3_value_6 ?_
  exact ⟨hx 1 h0, rfl⟩

set_option maxHeartbeats 4000000 in
set_option maxRecDepth 100000 in
theorem c_X3_isAtom (G : pm_G) (l : Launch) (bs : Nat) (t r : Nat) (w : List Int32) (a : Int32) (S : pm_S) (h : pm_tm S t r w) (h0 : 1 < w.length) : pm_M G l bs yX3_isAtom cX3_isAtom 2 (some .boolean) 0 0 0 [.ref t, .int a] S (pm_qi (fun x S2 => x = (if w[0]? = some 1 ∧ w[1]? = some a then 1 else 0) ∧ S2 = S)) := by
  obtain ⟨⟨hk, hp, hkr, hnr⟩, hlen, hle, hx⟩ := h
  refine pm_Mz (L := [.ref t, .int a]) (by decide) rfl (pm_en_1 rfl (pm_en_1 rfl (pm_en_0 rfl))) ?_
  refine pm_aload_n dX3_isAtom_0 rfl ?_
  refine pm_g_Term_row (by assumption) pm_f_X3_11 (by assumption) dX3_isAtom_1 ?_
  refine pm_iconst (v := 0) dX3_isAtom_4 (by decide) ?_
  refine pm_iaload (n := 0) (by assumption) nI_0.symm (by omega) (by omega) dX3_isAtom_5 ?_
  refine pm_iconst (v := 1) dX3_isAtom_6 (by decide) ?_
  refine pm_icmp_ne (tgt := 24) dX3_isAtom_7 (by decide) (fun h7 => ?_) (fun h7 => ?_)
  · skip
    refine pm_iconst (v := 0) dX3_isAtom_24 (by decide) ?_
    refine pm_zret dX3_isAtom_25 (by first | exact Or.inl rfl | exact Or.inr rfl | assumption) ?_
    refine ⟨?_, rfl⟩
    rw [hx 0 (by omega), hx 1 h0]
    simp only [Option.some.injEq]
    simp [*]
  · skip
    refine pm_aload_n dX3_isAtom_10 rfl ?_
    refine pm_g_Term_row (by assumption) pm_f_X3_11 (by assumption) dX3_isAtom_11 ?_
    refine pm_iconst (v := 1) dX3_isAtom_14 (by decide) ?_
    refine pm_iaload (n := 1) (by assumption) rfl (by omega) (by omega) dX3_isAtom_15 ?_
    refine pm_iload_n dX3_isAtom_16 rfl ?_
    refine pm_icmp_ne (tgt := 24) dX3_isAtom_17 (by decide) (fun h17 => ?_) (fun h17 => ?_)
    · skip
      refine pm_iconst (v := 0) dX3_isAtom_24 (by decide) ?_
      refine pm_zret dX3_isAtom_25 (by first | exact Or.inl rfl | exact Or.inr rfl | assumption) ?_
      refine ⟨?_, rfl⟩
      rw [hx 0 (by omega), hx 1 h0]
      simp only [Option.some.injEq]
      simp [*]
    · skip
      refine pm_iconst (v := 1) dX3_isAtom_20 (by decide) ?_
      refine pm_goto (tgt := 25) dX3_isAtom_21 (by decide) ?_
      refine pm_zret dX3_isAtom_25 (by first | exact Or.inl rfl | exact Or.inr rfl | assumption) ?_
      refine ⟨?_, rfl⟩
      rw [hx 0 (by omega), hx 1 h0]
      simp only [Option.some.injEq]
      simp [*]

set_option maxHeartbeats 4000000 in
set_option maxRecDepth 100000 in
theorem c_X3_numberAt (G : pm_G) (l : Launch) (bs : Nat) (t r : Nat) (w : List Int32) (i : Int32) (S : pm_S) (h : pm_tm S t r w) : pm_M G l bs yX3_numberAt cX3_numberAt 2 (some .int) 0 0 0 [.ref t, .int i] S (pm_qi (fun x S2 => x = (if 0 ≤ i ∧ i.toInt < w.length then w.getD i.toInt.toNat 0 else -1) ∧ S2 = S)) := by
  obtain ⟨⟨hk, hp, hkr, hnr⟩, hlen, hle, hx⟩ := h
  refine pm_Mi (L := [.ref t, .int i]) (by decide) rfl (pm_en_1 rfl (pm_en_1 rfl (pm_en_0 rfl))) ?_
  refine pm_iload_n dX3_numberAt_0 rfl ?_
  refine pm_if_lt (tgt := 21) dX3_numberAt_1 (by decide) (fun h1 => ?_) (fun h1 => ?_)
  · skip
    have h9 : ¬ (0 ≤ i ∧ i.toInt < w.length) := fun z => by have := pm_0le.mp z.1; have := pm_lt0.mp h1; omega
    refine pm_iconst (v := (-1)) dX3_numberAt_21 (by decide) ?_
    refine pm_iret dX3_numberAt_22 ?_
    refine ⟨?_, rfl⟩
    first | (rw [if_neg h9]; done) | (rw [if_pos h9, nI_toInt hn]; have h8 := hx n hlt; simp [List.getD, h8]; done)
  · skip
    refine pm_iload_n dX3_numberAt_4 rfl ?_
    refine pm_aload_n dX3_numberAt_5 rfl ?_
    refine pm_g_Term_length (by assumption) pm_f_X3_15 dX3_numberAt_6 ?_
    obtain ⟨n, hn, rfl⟩ := nI_of h1
    refine pm_icmp_ge (tgt := 21) dX3_numberAt_9 (by decide) (fun h9 => ?_) (fun h9 => ?_)
    · skip
      have h9 : ¬ (0 ≤ nI n ∧ (nI n).toInt < w.length) := fun z => by rw [hlen] at h9; have := (pm_nle hn (by omega)).mp h9; have := nI_toInt hn; omega
      refine pm_iconst (v := (-1)) dX3_numberAt_21 (by decide) ?_
      refine pm_iret dX3_numberAt_22 ?_
      refine ⟨?_, rfl⟩
      first | (rw [if_neg h9]; done) | (rw [if_pos h9, nI_toInt hn]; have h8 := hx n hlt; simp [List.getD, h8]; done)
    · skip
      have hlt : n < w.length := by rw [hlen] at h9; rcases Nat.lt_or_ge n w.length with q | q; exact q; exact absurd ((pm_nle hn (by omega)).mpr q) h9
      have h9 : (0 ≤ nI n ∧ (nI n).toInt < w.length) := ⟨nI_pos' hn, by have := nI_toInt hn; omega⟩
      refine pm_aload_n dX3_numberAt_12 rfl ?_
      refine pm_g_Term_row (by assumption) pm_f_X3_11 (by assumption) dX3_numberAt_13 ?_
      refine pm_iload_n dX3_numberAt_16 rfl ?_
      refine pm_iaload (n := n) (by assumption) rfl (by omega) (by omega) dX3_numberAt_17 ?_
      refine pm_goto (tgt := 22) dX3_numberAt_18 (by decide) ?_
      refine pm_iret dX3_numberAt_22 ?_
      refine ⟨?_, rfl⟩
      first | (rw [if_neg h9]; done) | (rw [if_pos h9, nI_toInt hn]; have h8 := hx n hlt; simp [List.getD, h8]; done)
end
