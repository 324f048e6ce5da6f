section
-- ===== PART A: goes FIRST, ahead of the names: the tables' words, and 'selects' of the private methods out of them =====
/-- a private method of a class that the tables say can be made, by its rows of tables_1 -/
def lw_okq (q : MethodName × Nat) : Prop := (q.1.cls ≠ "java/lang/invoke/MethodHandle" ∧ q.1.cls ≠ "java/lang/invoke/VarHandle") ∧ Cond.instantiable q.1.cls q.2 ∈ tables_1 ∧ Cond.privateMethod q.1 ∈ tables_1 ∧ Cond.instanceMethod q.1 ∈ tables_1
theorem lw_p0 : lw_okq (⟨"java/lang/Throwable", "fillInStackTrace", "(I)Ljava/lang/Throwable;"⟩, 6) := ⟨⟨by decide +kernel, by decide +kernel⟩, List.mem_of_getElem? (i := 244) (by decide +kernel), List.mem_of_getElem? (i := 242) (by decide +kernel), List.mem_of_getElem? (i := 243) (by decide +kernel)⟩
theorem lw_p1 : lw_okq (⟨"KeptItems$Source", "passBlanks", "(I)I"⟩, 5) := ⟨⟨by decide +kernel, by decide +kernel⟩, List.mem_of_getElem? (i := 34) (by decide +kernel), List.mem_of_getElem? (i := 295) (by decide +kernel), List.mem_of_getElem? (i := 296) (by decide +kernel)⟩
theorem lw_p2 : lw_okq (⟨"KeptItems$Source", "tokenFrom", "(I)I"⟩, 5) := ⟨⟨by decide +kernel, by decide +kernel⟩, List.mem_of_getElem? (i := 34) (by decide +kernel), List.mem_of_getElem? (i := 299) (by decide +kernel), List.mem_of_getElem? (i := 300) (by decide +kernel)⟩
theorem lw_p3 : lw_okq (⟨"KeptItems$Source", "quotedFrom", "(I)I"⟩, 5) := ⟨⟨by decide +kernel, by decide +kernel⟩, List.mem_of_getElem? (i := 34) (by decide +kernel), List.mem_of_getElem? (i := 303) (by decide +kernel), List.mem_of_getElem? (i := 304) (by decide +kernel)⟩
theorem lw_p4 : lw_okq (⟨"KeptItems$Source", "behindRun", "(IZ)I"⟩, 5) := ⟨⟨by decide +kernel, by decide +kernel⟩, List.mem_of_getElem? (i := 34) (by decide +kernel), List.mem_of_getElem? (i := 313) (by decide +kernel), List.mem_of_getElem? (i := 314) (by decide +kernel)⟩
theorem lw_p5 : lw_okq (⟨"KeptItems$Reading", "readItem", "(I)V"⟩, 4) := ⟨⟨by decide +kernel, by decide +kernel⟩, List.mem_of_getElem? (i := 28) (by decide +kernel), List.mem_of_getElem? (i := 423) (by decide +kernel), List.mem_of_getElem? (i := 424) (by decide +kernel)⟩
theorem lw_p6 : lw_okq (⟨"KeptItems$Reading", "sees", "(C)Z"⟩, 4) := ⟨⟨by decide +kernel, by decide +kernel⟩, List.mem_of_getElem? (i := 28) (by decide +kernel), List.mem_of_getElem? (i := 427) (by decide +kernel), List.mem_of_getElem? (i := 428) (by decide +kernel)⟩
theorem lw_p7 : lw_okq (⟨"KeptItems$Reading", "readBlock", "(I)I"⟩, 4) := ⟨⟨by decide +kernel, by decide +kernel⟩, List.mem_of_getElem? (i := 28) (by decide +kernel), List.mem_of_getElem? (i := 431) (by decide +kernel), List.mem_of_getElem? (i := 432) (by decide +kernel)⟩
theorem lw_p8 : lw_okq (⟨"KeptItems$Reading", "opens", "(CI)Z"⟩, 4) := ⟨⟨by decide +kernel, by decide +kernel⟩, List.mem_of_getElem? (i := 28) (by decide +kernel), List.mem_of_getElem? (i := 435) (by decide +kernel), List.mem_of_getElem? (i := 436) (by decide +kernel)⟩
theorem lw_p9 : lw_okq (⟨"KeptItems$Reading", "needs", "(C)V"⟩, 4) := ⟨⟨by decide +kernel, by decide +kernel⟩, List.mem_of_getElem? (i := 28) (by decide +kernel), List.mem_of_getElem? (i := 439) (by decide +kernel), List.mem_of_getElem? (i := 440) (by decide +kernel)⟩
theorem lw_p10 : lw_okq (⟨"KeptItems$Reading", "takes", "(C)Z"⟩, 4) := ⟨⟨by decide +kernel, by decide +kernel⟩, List.mem_of_getElem? (i := 28) (by decide +kernel), List.mem_of_getElem? (i := 443) (by decide +kernel), List.mem_of_getElem? (i := 444) (by decide +kernel)⟩
theorem lw_p11 : lw_okq (⟨"KeptItems$Reading", "readSum", "(I)I"⟩, 4) := ⟨⟨by decide +kernel, by decide +kernel⟩, List.mem_of_getElem? (i := 28) (by decide +kernel), List.mem_of_getElem? (i := 447) (by decide +kernel), List.mem_of_getElem? (i := 448) (by decide +kernel)⟩
theorem lw_p12 : lw_okq (⟨"KeptItems$Reading", "readFactor", "(I)I"⟩, 4) := ⟨⟨by decide +kernel, by decide +kernel⟩, List.mem_of_getElem? (i := 28) (by decide +kernel), List.mem_of_getElem? (i := 451) (by decide +kernel), List.mem_of_getElem? (i := 452) (by decide +kernel)⟩
theorem lw_p13 : lw_okq (⟨"KeptItems$Reading", "readCall", "(II)I"⟩, 4) := ⟨⟨by decide +kernel, by decide +kernel⟩, List.mem_of_getElem? (i := 28) (by decide +kernel), List.mem_of_getElem? (i := 460) (by decide +kernel), List.mem_of_getElem? (i := 461) (by decide +kernel)⟩
theorem lw_p14 : lw_okq (⟨"KeptItems$Reading", "namedValue", "(I)I"⟩, 4) := ⟨⟨by decide +kernel, by decide +kernel⟩, List.mem_of_getElem? (i := 28) (by decide +kernel), List.mem_of_getElem? (i := 464) (by decide +kernel), List.mem_of_getElem? (i := 465) (by decide +kernel)⟩
theorem lw_p15 : lw_okq (⟨"KeptItems", "traceTokens", "(II)I"⟩, 7) := ⟨⟨by decide +kernel, by decide +kernel⟩, List.mem_of_getElem? (i := 20) (by decide +kernel), List.mem_of_getElem? (i := 472) (by decide +kernel), List.mem_of_getElem? (i := 473) (by decide +kernel)⟩
def lw_privs_1 : List (MethodName × Nat) := [(⟨"java/lang/Throwable", "fillInStackTrace", "(I)Ljava/lang/Throwable;"⟩, 6), (⟨"KeptItems$Source", "passBlanks", "(I)I"⟩, 5), (⟨"KeptItems$Source", "tokenFrom", "(I)I"⟩, 5), (⟨"KeptItems$Source", "quotedFrom", "(I)I"⟩, 5), (⟨"KeptItems$Source", "behindRun", "(IZ)I"⟩, 5), (⟨"KeptItems$Reading", "readItem", "(I)V"⟩, 4), (⟨"KeptItems$Reading", "sees", "(C)Z"⟩, 4), (⟨"KeptItems$Reading", "readBlock", "(I)I"⟩, 4), (⟨"KeptItems$Reading", "opens", "(CI)Z"⟩, 4), (⟨"KeptItems$Reading", "needs", "(C)V"⟩, 4), (⟨"KeptItems$Reading", "takes", "(C)Z"⟩, 4), (⟨"KeptItems$Reading", "readSum", "(I)I"⟩, 4), (⟨"KeptItems$Reading", "readFactor", "(I)I"⟩, 4), (⟨"KeptItems$Reading", "readCall", "(II)I"⟩, 4), (⟨"KeptItems$Reading", "namedValue", "(I)I"⟩, 4), (⟨"KeptItems", "traceTokens", "(II)I"⟩, 7)]
theorem lw_r1 : ∀ q ∈ lw_privs_1, lw_okq q := List.forall_mem_cons.mpr ⟨lw_p0, List.forall_mem_cons.mpr ⟨lw_p1, List.forall_mem_cons.mpr ⟨lw_p2, List.forall_mem_cons.mpr ⟨lw_p3, List.forall_mem_cons.mpr ⟨lw_p4, List.forall_mem_cons.mpr ⟨lw_p5, List.forall_mem_cons.mpr ⟨lw_p6, List.forall_mem_cons.mpr ⟨lw_p7, List.forall_mem_cons.mpr ⟨lw_p8, List.forall_mem_cons.mpr ⟨lw_p9, List.forall_mem_cons.mpr ⟨lw_p10, List.forall_mem_cons.mpr ⟨lw_p11, List.forall_mem_cons.mpr ⟨lw_p12, List.forall_mem_cons.mpr ⟨lw_p13, List.forall_mem_cons.mpr ⟨lw_p14, List.forall_mem_cons.mpr ⟨lw_p15, fun _ h => absurd h List.not_mem_nil⟩⟩⟩⟩⟩⟩⟩⟩⟩⟩⟩⟩⟩⟩⟩⟩
theorem lw_p16 : lw_okq (⟨"KeptItems", "numberItems", "()V"⟩, 7) := ⟨⟨by decide +kernel, by decide +kernel⟩, List.mem_of_getElem? (i := 20) (by decide +kernel), List.mem_of_getElem? (i := 483) (by decide +kernel), List.mem_of_getElem? (i := 484) (by decide +kernel)⟩
theorem lw_p17 : lw_okq (⟨"KeptItems", "oldItem", "(I)I"⟩, 7) := ⟨⟨by decide +kernel, by decide +kernel⟩, List.mem_of_getElem? (i := 20) (by decide +kernel), List.mem_of_getElem? (i := 487) (by decide +kernel), List.mem_of_getElem? (i := 488) (by decide +kernel)⟩
theorem lw_p18 : lw_okq (⟨"KeptItemsModel", "keepOld", "()V"⟩, 43) := ⟨⟨by decide +kernel, by decide +kernel⟩, List.mem_of_getElem? (i := 526) (by decide +kernel), List.mem_of_getElem? (i := 679) (by decide +kernel), List.mem_of_getElem? (i := 680) (by decide +kernel)⟩
theorem lw_p19 : lw_okq (⟨"KeptItemsModel", "change", "(II)V"⟩, 43) := ⟨⟨by decide +kernel, by decide +kernel⟩, List.mem_of_getElem? (i := 526) (by decide +kernel), List.mem_of_getElem? (i := 683) (by decide +kernel), List.mem_of_getElem? (i := 684) (by decide +kernel)⟩
theorem lw_p20 : lw_okq (⟨"KeptItemsModel", "findTokens", "()V"⟩, 43) := ⟨⟨by decide +kernel, by decide +kernel⟩, List.mem_of_getElem? (i := 526) (by decide +kernel), List.mem_of_getElem? (i := 687) (by decide +kernel), List.mem_of_getElem? (i := 688) (by decide +kernel)⟩
theorem lw_p21 : lw_okq (⟨"KeptItemsModel", "skip", "(I)I"⟩, 43) := ⟨⟨by decide +kernel, by decide +kernel⟩, List.mem_of_getElem? (i := 526) (by decide +kernel), List.mem_of_getElem? (i := 691) (by decide +kernel), List.mem_of_getElem? (i := 692) (by decide +kernel)⟩
theorem lw_p22 : lw_okq (⟨"KeptItemsModel", "addToken", "(III)V"⟩, 43) := ⟨⟨by decide +kernel, by decide +kernel⟩, List.mem_of_getElem? (i := 526) (by decide +kernel), List.mem_of_getElem? (i := 704) (by decide +kernel), List.mem_of_getElem? (i := 705) (by decide +kernel)⟩
theorem lw_p23 : lw_okq (⟨"KeptItemsModel", "read", "()V"⟩, 43) := ⟨⟨by decide +kernel, by decide +kernel⟩, List.mem_of_getElem? (i := 526) (by decide +kernel), List.mem_of_getElem? (i := 708) (by decide +kernel), List.mem_of_getElem? (i := 709) (by decide +kernel)⟩
theorem lw_p24 : lw_okq (⟨"KeptItemsModel", "readToken", "(I)Z"⟩, 43) := ⟨⟨by decide +kernel, by decide +kernel⟩, List.mem_of_getElem? (i := 526) (by decide +kernel), List.mem_of_getElem? (i := 712) (by decide +kernel), List.mem_of_getElem? (i := 713) (by decide +kernel)⟩
theorem lw_p25 : lw_okq (⟨"KeptItemsModel", "is", "(IC)Z"⟩, 43) := ⟨⟨by decide +kernel, by decide +kernel⟩, List.mem_of_getElem? (i := 526) (by decide +kernel), List.mem_of_getElem? (i := 716) (by decide +kernel), List.mem_of_getElem? (i := 717) (by decide +kernel)⟩
theorem lw_p26 : lw_okq (⟨"KeptItemsModel", "push", "(I)Z"⟩, 43) := ⟨⟨by decide +kernel, by decide +kernel⟩, List.mem_of_getElem? (i := 526) (by decide +kernel), List.mem_of_getElem? (i := 720) (by decide +kernel), List.mem_of_getElem? (i := 721) (by decide +kernel)⟩
theorem lw_p27 : lw_okq (⟨"KeptItemsModel", "whole", "()V"⟩, 43) := ⟨⟨by decide +kernel, by decide +kernel⟩, List.mem_of_getElem? (i := 526) (by decide +kernel), List.mem_of_getElem? (i := 724) (by decide +kernel), List.mem_of_getElem? (i := 725) (by decide +kernel)⟩
theorem lw_p28 : lw_okq (⟨"KeptItemsModel", "top", "()I"⟩, 43) := ⟨⟨by decide +kernel, by decide +kernel⟩, List.mem_of_getElem? (i := 526) (by decide +kernel), List.mem_of_getElem? (i := 728) (by decide +kernel), List.mem_of_getElem? (i := 729) (by decide +kernel)⟩
theorem lw_p29 : lw_okq (⟨"KeptItemsModel", "readItem", "(I)Z"⟩, 43) := ⟨⟨by decide +kernel, by decide +kernel⟩, List.mem_of_getElem? (i := 526) (by decide +kernel), List.mem_of_getElem? (i := 732) (by decide +kernel), List.mem_of_getElem? (i := 733) (by decide +kernel)⟩
theorem lw_p30 : lw_okq (⟨"KeptItemsModel", "start", "(IZ)V"⟩, 43) := ⟨⟨by decide +kernel, by decide +kernel⟩, List.mem_of_getElem? (i := 526) (by decide +kernel), List.mem_of_getElem? (i := 736) (by decide +kernel), List.mem_of_getElem? (i := 737) (by decide +kernel)⟩
theorem lw_p31 : lw_okq (⟨"KeptItemsModel", "finish", "(II)V"⟩, 43) := ⟨⟨by decide +kernel, by decide +kernel⟩, List.mem_of_getElem? (i := 526) (by decide +kernel), List.mem_of_getElem? (i := 740) (by decide +kernel), List.mem_of_getElem? (i := 741) (by decide +kernel)⟩
def lw_privs_2 : List (MethodName × Nat) := [(⟨"KeptItems", "numberItems", "()V"⟩, 7), (⟨"KeptItems", "oldItem", "(I)I"⟩, 7), (⟨"KeptItemsModel", "keepOld", "()V"⟩, 43), (⟨"KeptItemsModel", "change", "(II)V"⟩, 43), (⟨"KeptItemsModel", "findTokens", "()V"⟩, 43), (⟨"KeptItemsModel", "skip", "(I)I"⟩, 43), (⟨"KeptItemsModel", "addToken", "(III)V"⟩, 43), (⟨"KeptItemsModel", "read", "()V"⟩, 43), (⟨"KeptItemsModel", "readToken", "(I)Z"⟩, 43), (⟨"KeptItemsModel", "is", "(IC)Z"⟩, 43), (⟨"KeptItemsModel", "push", "(I)Z"⟩, 43), (⟨"KeptItemsModel", "whole", "()V"⟩, 43), (⟨"KeptItemsModel", "top", "()I"⟩, 43), (⟨"KeptItemsModel", "readItem", "(I)Z"⟩, 43), (⟨"KeptItemsModel", "start", "(IZ)V"⟩, 43), (⟨"KeptItemsModel", "finish", "(II)V"⟩, 43)]
theorem lw_r2 : ∀ q ∈ lw_privs_2, lw_okq q := List.forall_mem_cons.mpr ⟨lw_p16, List.forall_mem_cons.mpr ⟨lw_p17, List.forall_mem_cons.mpr ⟨lw_p18, List.forall_mem_cons.mpr ⟨lw_p19, List.forall_mem_cons.mpr ⟨lw_p20, List.forall_mem_cons.mpr ⟨lw_p21, List.forall_mem_cons.mpr ⟨lw_p22, List.forall_mem_cons.mpr ⟨lw_p23, List.forall_mem_cons.mpr ⟨lw_p24, List.forall_mem_cons.mpr ⟨lw_p25, List.forall_mem_cons.mpr ⟨lw_p26, List.forall_mem_cons.mpr ⟨lw_p27, List.forall_mem_cons.mpr ⟨lw_p28, List.forall_mem_cons.mpr ⟨lw_p29, List.forall_mem_cons.mpr ⟨lw_p30, List.forall_mem_cons.mpr ⟨lw_p31, fun _ h => absurd h List.not_mem_nil⟩⟩⟩⟩⟩⟩⟩⟩⟩⟩⟩⟩⟩⟩⟩⟩
theorem lw_p32 : lw_okq (⟨"KeptItemsModel", "readNamed", "(I)Z"⟩, 43) := ⟨⟨by decide +kernel, by decide +kernel⟩, List.mem_of_getElem? (i := 526) (by decide +kernel), List.mem_of_getElem? (i := 744) (by decide +kernel), List.mem_of_getElem? (i := 745) (by decide +kernel)⟩
theorem lw_p33 : lw_okq (⟨"KeptItemsModel", "readFactor", "(I)Z"⟩, 43) := ⟨⟨by decide +kernel, by decide +kernel⟩, List.mem_of_getElem? (i := 526) (by decide +kernel), List.mem_of_getElem? (i := 748) (by decide +kernel), List.mem_of_getElem? (i := 749) (by decide +kernel)⟩
theorem lw_p34 : lw_okq (⟨"KeptItemsModel", "close", "()Z"⟩, 43) := ⟨⟨by decide +kernel, by decide +kernel⟩, List.mem_of_getElem? (i := 526) (by decide +kernel), List.mem_of_getElem? (i := 752) (by decide +kernel), List.mem_of_getElem? (i := 753) (by decide +kernel)⟩
theorem lw_p35 : lw_okq (⟨"KeptItemsModel", "readBehind", "(I)Z"⟩, 43) := ⟨⟨by decide +kernel, by decide +kernel⟩, List.mem_of_getElem? (i := 526) (by decide +kernel), List.mem_of_getElem? (i := 756) (by decide +kernel), List.mem_of_getElem? (i := 757) (by decide +kernel)⟩
theorem lw_p36 : lw_okq (⟨"KeptItemsModel", "compareTokens", "(III)I"⟩, 43) := ⟨⟨by decide +kernel, by decide +kernel⟩, List.mem_of_getElem? (i := 526) (by decide +kernel), List.mem_of_getElem? (i := 760) (by decide +kernel), List.mem_of_getElem? (i := 761) (by decide +kernel)⟩
theorem lw_p37 : lw_okq (⟨"KeptItemsModel", "tokenAt", "(III)I"⟩, 43) := ⟨⟨by decide +kernel, by decide +kernel⟩, List.mem_of_getElem? (i := 526) (by decide +kernel), List.mem_of_getElem? (i := 764) (by decide +kernel), List.mem_of_getElem? (i := 765) (by decide +kernel)⟩
theorem lw_p38 : lw_okq (⟨"KeptItemsModel", "giveNumbers", "()V"⟩, 43) := ⟨⟨by decide +kernel, by decide +kernel⟩, List.mem_of_getElem? (i := 526) (by decide +kernel), List.mem_of_getElem? (i := 768) (by decide +kernel), List.mem_of_getElem? (i := 769) (by decide +kernel)⟩
theorem lw_p39 : lw_okq (⟨"KeptItemsModel", "oldOf", "(I)I"⟩, 43) := ⟨⟨by decide +kernel, by decide +kernel⟩, List.mem_of_getElem? (i := 526) (by decide +kernel), List.mem_of_getElem? (i := 772) (by decide +kernel), List.mem_of_getElem? (i := 773) (by decide +kernel)⟩
theorem lw_p40 : lw_okq (⟨"KeptItemsModel", "findValues", "()V"⟩, 43) := ⟨⟨by decide +kernel, by decide +kernel⟩, List.mem_of_getElem? (i := 526) (by decide +kernel), List.mem_of_getElem? (i := 776) (by decide +kernel), List.mem_of_getElem? (i := 777) (by decide +kernel)⟩
theorem lw_p41 : lw_okq (⟨"KeptItemsModel", "countInside", "(I)I"⟩, 43) := ⟨⟨by decide +kernel, by decide +kernel⟩, List.mem_of_getElem? (i := 526) (by decide +kernel), List.mem_of_getElem? (i := 780) (by decide +kernel), List.mem_of_getElem? (i := 781) (by decide +kernel)⟩
theorem lw_p42 : lw_okq (⟨"KeptItemsModel", "valueOf", "(III)I"⟩, 43) := ⟨⟨by decide +kernel, by decide +kernel⟩, List.mem_of_getElem? (i := 526) (by decide +kernel), List.mem_of_getElem? (i := 784) (by decide +kernel), List.mem_of_getElem? (i := 785) (by decide +kernel)⟩
theorem lw_p43 : lw_okq (⟨"KeptItemsModel", "enter", "(ZI)V"⟩, 43) := ⟨⟨by decide +kernel, by decide +kernel⟩, List.mem_of_getElem? (i := 526) (by decide +kernel), List.mem_of_getElem? (i := 788) (by decide +kernel), List.mem_of_getElem? (i := 789) (by decide +kernel)⟩
theorem lw_p44 : lw_okq (⟨"KeptItemsModel", "leave", "(Z)I"⟩, 43) := ⟨⟨by decide +kernel, by decide +kernel⟩, List.mem_of_getElem? (i := 526) (by decide +kernel), List.mem_of_getElem? (i := 792) (by decide +kernel), List.mem_of_getElem? (i := 793) (by decide +kernel)⟩
theorem lw_p45 : lw_okq (⟨"KeptItemsModel", "total", "()I"⟩, 43) := ⟨⟨by decide +kernel, by decide +kernel⟩, List.mem_of_getElem? (i := 526) (by decide +kernel), List.mem_of_getElem? (i := 796) (by decide +kernel), List.mem_of_getElem? (i := 797) (by decide +kernel)⟩
theorem lw_p46 : lw_okq (⟨"KeptItemsModel", "take", "(I)V"⟩, 43) := ⟨⟨by decide +kernel, by decide +kernel⟩, List.mem_of_getElem? (i := 526) (by decide +kernel), List.mem_of_getElem? (i := 800) (by decide +kernel), List.mem_of_getElem? (i := 801) (by decide +kernel)⟩
theorem lw_p47 : lw_okq (⟨"KeptItemsModel", "operate", "(I)V"⟩, 43) := ⟨⟨by decide +kernel, by decide +kernel⟩, List.mem_of_getElem? (i := 526) (by decide +kernel), List.mem_of_getElem? (i := 804) (by decide +kernel), List.mem_of_getElem? (i := 805) (by decide +kernel)⟩
def lw_privs_3 : List (MethodName × Nat) := [(⟨"KeptItemsModel", "readNamed", "(I)Z"⟩, 43), (⟨"KeptItemsModel", "readFactor", "(I)Z"⟩, 43), (⟨"KeptItemsModel", "close", "()Z"⟩, 43), (⟨"KeptItemsModel", "readBehind", "(I)Z"⟩, 43), (⟨"KeptItemsModel", "compareTokens", "(III)I"⟩, 43), (⟨"KeptItemsModel", "tokenAt", "(III)I"⟩, 43), (⟨"KeptItemsModel", "giveNumbers", "()V"⟩, 43), (⟨"KeptItemsModel", "oldOf", "(I)I"⟩, 43), (⟨"KeptItemsModel", "findValues", "()V"⟩, 43), (⟨"KeptItemsModel", "countInside", "(I)I"⟩, 43), (⟨"KeptItemsModel", "valueOf", "(III)I"⟩, 43), (⟨"KeptItemsModel", "enter", "(ZI)V"⟩, 43), (⟨"KeptItemsModel", "leave", "(Z)I"⟩, 43), (⟨"KeptItemsModel", "total", "()I"⟩, 43), (⟨"KeptItemsModel", "take", "(I)V"⟩, 43), (⟨"KeptItemsModel", "operate", "(I)V"⟩, 43)]
theorem lw_r3 : ∀ q ∈ lw_privs_3, lw_okq q := List.forall_mem_cons.mpr ⟨lw_p32, List.forall_mem_cons.mpr ⟨lw_p33, List.forall_mem_cons.mpr ⟨lw_p34, List.forall_mem_cons.mpr ⟨lw_p35, List.forall_mem_cons.mpr ⟨lw_p36, List.forall_mem_cons.mpr ⟨lw_p37, List.forall_mem_cons.mpr ⟨lw_p38, List.forall_mem_cons.mpr ⟨lw_p39, List.forall_mem_cons.mpr ⟨lw_p40, List.forall_mem_cons.mpr ⟨lw_p41, List.forall_mem_cons.mpr ⟨lw_p42, List.forall_mem_cons.mpr ⟨lw_p43, List.forall_mem_cons.mpr ⟨lw_p44, List.forall_mem_cons.mpr ⟨lw_p45, List.forall_mem_cons.mpr ⟨lw_p46, List.forall_mem_cons.mpr ⟨lw_p47, fun _ h => absurd h List.not_mem_nil⟩⟩⟩⟩⟩⟩⟩⟩⟩⟩⟩⟩⟩⟩⟩⟩
theorem lw_p48 : lw_okq (⟨"KeptItemsModel", "restart", "(II)V"⟩, 43) := ⟨⟨by decide +kernel, by decide +kernel⟩, List.mem_of_getElem? (i := 526) (by decide +kernel), List.mem_of_getElem? (i := 808) (by decide +kernel), List.mem_of_getElem? (i := 809) (by decide +kernel)⟩
theorem lw_p49 : lw_okq (⟨"KeptItemsModel", "numberValue", "(I)I"⟩, 43) := ⟨⟨by decide +kernel, by decide +kernel⟩, List.mem_of_getElem? (i := 526) (by decide +kernel), List.mem_of_getElem? (i := 812) (by decide +kernel), List.mem_of_getElem? (i := 813) (by decide +kernel)⟩
theorem lw_p50 : lw_okq (⟨"KeptItemsModel", "named", "(II)I"⟩, 43) := ⟨⟨by decide +kernel, by decide +kernel⟩, List.mem_of_getElem? (i := 526) (by decide +kernel), List.mem_of_getElem? (i := 816) (by decide +kernel), List.mem_of_getElem? (i := 817) (by decide +kernel)⟩
theorem lw_p51 : lw_okq (⟨"KeptItemsModel", "sameLetters", "(II)Z"⟩, 43) := ⟨⟨by decide +kernel, by decide +kernel⟩, List.mem_of_getElem? (i := 526) (by decide +kernel), List.mem_of_getElem? (i := 820) (by decide +kernel), List.mem_of_getElem? (i := 821) (by decide +kernel)⟩
theorem lw_p52 : lw_okq (⟨"KeptItemsModel", "isItem", "(I)Z"⟩, 43) := ⟨⟨by decide +kernel, by decide +kernel⟩, List.mem_of_getElem? (i := 526) (by decide +kernel), List.mem_of_getElem? (i := 856) (by decide +kernel), List.mem_of_getElem? (i := 857) (by decide +kernel)⟩
def lw_privs_4 : List (MethodName × Nat) := [(⟨"KeptItemsModel", "restart", "(II)V"⟩, 43), (⟨"KeptItemsModel", "numberValue", "(I)I"⟩, 43), (⟨"KeptItemsModel", "named", "(II)I"⟩, 43), (⟨"KeptItemsModel", "sameLetters", "(II)Z"⟩, 43), (⟨"KeptItemsModel", "isItem", "(I)Z"⟩, 43)]
theorem lw_r4 : ∀ q ∈ lw_privs_4, lw_okq q := List.forall_mem_cons.mpr ⟨lw_p48, List.forall_mem_cons.mpr ⟨lw_p49, List.forall_mem_cons.mpr ⟨lw_p50, List.forall_mem_cons.mpr ⟨lw_p51, List.forall_mem_cons.mpr ⟨lw_p52, fun _ h => absurd h List.not_mem_nil⟩⟩⟩⟩⟩
def lw_privs : List (MethodName × Nat) := lw_privs_1 ++ (lw_privs_2 ++ (lw_privs_3 ++ (lw_privs_4)))
def lw_tbl : List Cond := k2_sels lw_privs ++ tables_1
theorem lw_privs_ok : ∀ q ∈ lw_privs, lw_okq q := by
  show ∀ q ∈ lw_privs_1 ++ (lw_privs_2 ++ (lw_privs_3 ++ (lw_privs_4))), lw_okq q
  exact List.forall_mem_append.mpr ⟨lw_r1, List.forall_mem_append.mpr ⟨lw_r2, List.forall_mem_append.mpr ⟨lw_r3, lw_r4⟩⟩⟩
-- ===== end of PART A; then your names; then what follows =====
end
section
/- names: methods, classes, the world's shape, words (printed by program) -/
abbrev zY : Type := MethodName × ByteArray × Nat × Option FieldType
def mK_init : zY := (⟨"KeptItems", "<init>", "()V"⟩, prog_1_method_1_code, 1, (Option.none : Option Jvm.ClassFile.FieldType))
def mK_type : zY := (⟨"KeptItems", "type", "(C)Z"⟩, prog_1_method_2_code, 3, (Option.some Jvm.ClassFile.FieldType.boolean))
def mK_wipe : zY := (⟨"KeptItems", "wipe", "()I"⟩, prog_1_method_3_code, 2, (Option.some Jvm.ClassFile.FieldType.int))
def mK_edit : zY := (⟨"KeptItems", "edit", "(II)I"⟩, prog_1_method_4_code, 6, (Option.some Jvm.ClassFile.FieldType.int))
def mK_length : zY := (⟨"KeptItems", "length", "()I"⟩, prog_1_method_5_code, 1, (Option.some Jvm.ClassFile.FieldType.int))
def mK_at : zY := (⟨"KeptItems", "at", "(I)C"⟩, prog_1_method_6_code, 2, (Option.some Jvm.ClassFile.FieldType.char))
def mK_tokens : zY := (⟨"KeptItems", "tokens", "()I"⟩, prog_1_method_7_code, 1, (Option.some Jvm.ClassFile.FieldType.int))
def mK_token : zY := (⟨"KeptItems", "token", "(I)I"⟩, prog_1_method_8_code, 2, (Option.some Jvm.ClassFile.FieldType.int))
def mK_fault : zY := (⟨"KeptItems", "fault", "()I"⟩, prog_1_method_9_code, 1, (Option.some Jvm.ClassFile.FieldType.int))
def mK_items : zY := (⟨"KeptItems", "items", "()I"⟩, prog_1_method_10_code, 1, (Option.some Jvm.ClassFile.FieldType.int))
def mK_kept : zY := (⟨"KeptItems", "kept", "()I"⟩, prog_1_method_11_code, 1, (Option.some Jvm.ClassFile.FieldType.int))
def mK_number : zY := (⟨"KeptItems", "number", "(I)I"⟩, prog_1_method_12_code, 2, (Option.some Jvm.ClassFile.FieldType.int))
def mK_which : zY := (⟨"KeptItems", "which", "(I)I"⟩, prog_1_method_13_code, 2, (Option.some Jvm.ClassFile.FieldType.int))
def mK_begin : zY := (⟨"KeptItems", "begin", "(I)I"⟩, prog_1_method_14_code, 2, (Option.some Jvm.ClassFile.FieldType.int))
def mK_end : zY := (⟨"KeptItems", "end", "(I)I"⟩, prog_1_method_15_code, 2, (Option.some Jvm.ClassFile.FieldType.int))
def mK_level : zY := (⟨"KeptItems", "level", "(I)I"⟩, prog_1_method_16_code, 2, (Option.some Jvm.ClassFile.FieldType.int))
def mK_value : zY := (⟨"KeptItems", "value", "(I)I"⟩, prog_1_method_17_code, 2, (Option.some Jvm.ClassFile.FieldType.int))
def mK_traceTokens : zY := (⟨"KeptItems", "traceTokens", "(II)I"⟩, prog_1_method_18_code, 8, (Option.some Jvm.ClassFile.FieldType.int))
def mK_numberItems : zY := (⟨"KeptItems", "numberItems", "()V"⟩, prog_1_method_19_code, 3, (Option.none : Option Jvm.ClassFile.FieldType))
def mK_oldItem : zY := (⟨"KeptItems", "oldItem", "(I)I"⟩, prog_1_method_20_code, 6, (Option.some Jvm.ClassFile.FieldType.int))
def mM_init : zY := (⟨"KeptItemsModel", "<init>", "()V"⟩, prog_6_method_1_code, 1, (Option.none : Option Jvm.ClassFile.FieldType))
def mM_thrown : zY := (⟨"KeptItemsModel", "thrown", "()I"⟩, prog_6_method_2_code, 1, (Option.some Jvm.ClassFile.FieldType.int))
def mM_type : zY := (⟨"KeptItemsModel", "type", "(C)Z"⟩, prog_6_method_3_code, 2, (Option.some Jvm.ClassFile.FieldType.boolean))
def mM_wipe : zY := (⟨"KeptItemsModel", "wipe", "()I"⟩, prog_6_method_4_code, 2, (Option.some Jvm.ClassFile.FieldType.int))
def mM_change : zY := (⟨"KeptItemsModel", "change", "(II)V"⟩, prog_6_method_5_code, 5, (Option.none : Option Jvm.ClassFile.FieldType))
def mM_isLetter : zY := (⟨"KeptItemsModel", "isLetter", "(C)Z"⟩, prog_6_method_6_code, 1, (Option.some Jvm.ClassFile.FieldType.boolean))
def mM_isDigit : zY := (⟨"KeptItemsModel", "isDigit", "(C)Z"⟩, prog_6_method_7_code, 1, (Option.some Jvm.ClassFile.FieldType.boolean))
def mM_isSign : zY := (⟨"KeptItemsModel", "isSign", "(C)Z"⟩, prog_6_method_8_code, 1, (Option.some Jvm.ClassFile.FieldType.boolean))
def mM_skip : zY := (⟨"KeptItemsModel", "skip", "(I)I"⟩, prog_6_method_9_code, 4, (Option.some Jvm.ClassFile.FieldType.int))
def mM_addToken : zY := (⟨"KeptItemsModel", "addToken", "(III)V"⟩, prog_6_method_10_code, 4, (Option.none : Option Jvm.ClassFile.FieldType))
def mM_findTokens : zY := (⟨"KeptItemsModel", "findTokens", "()V"⟩, prog_6_method_11_code, 5, (Option.none : Option Jvm.ClassFile.FieldType))
def mM_is : zY := (⟨"KeptItemsModel", "is", "(IC)Z"⟩, prog_6_method_12_code, 3, (Option.some Jvm.ClassFile.FieldType.boolean))
def mM_top : zY := (⟨"KeptItemsModel", "top", "()I"⟩, prog_6_method_13_code, 1, (Option.some Jvm.ClassFile.FieldType.int))
def mM_push : zY := (⟨"KeptItemsModel", "push", "(I)Z"⟩, prog_6_method_14_code, 2, (Option.some Jvm.ClassFile.FieldType.boolean))
def mM_whole : zY := (⟨"KeptItemsModel", "whole", "()V"⟩, prog_6_method_15_code, 1, (Option.none : Option Jvm.ClassFile.FieldType))
def mM_start : zY := (⟨"KeptItemsModel", "start", "(IZ)V"⟩, prog_6_method_16_code, 3, (Option.none : Option Jvm.ClassFile.FieldType))
def mM_finish : zY := (⟨"KeptItemsModel", "finish", "(II)V"⟩, prog_6_method_17_code, 3, (Option.none : Option Jvm.ClassFile.FieldType))
def mM_readItem : zY := (⟨"KeptItemsModel", "readItem", "(I)Z"⟩, prog_6_method_18_code, 2, (Option.some Jvm.ClassFile.FieldType.boolean))
def mM_readNamed : zY := (⟨"KeptItemsModel", "readNamed", "(I)Z"⟩, prog_6_method_19_code, 2, (Option.some Jvm.ClassFile.FieldType.boolean))
def mM_readFactor : zY := (⟨"KeptItemsModel", "readFactor", "(I)Z"⟩, prog_6_method_20_code, 2, (Option.some Jvm.ClassFile.FieldType.boolean))
def mM_close : zY := (⟨"KeptItemsModel", "close", "()Z"⟩, prog_6_method_21_code, 2, (Option.some Jvm.ClassFile.FieldType.boolean))
def mM_readBehind : zY := (⟨"KeptItemsModel", "readBehind", "(I)Z"⟩, prog_6_method_22_code, 4, (Option.some Jvm.ClassFile.FieldType.boolean))
def mM_readToken : zY := (⟨"KeptItemsModel", "readToken", "(I)Z"⟩, prog_6_method_23_code, 2, (Option.some Jvm.ClassFile.FieldType.boolean))
def mM_read : zY := (⟨"KeptItemsModel", "read", "()V"⟩, prog_6_method_24_code, 3, (Option.none : Option Jvm.ClassFile.FieldType))
def mM_numberValue : zY := (⟨"KeptItemsModel", "numberValue", "(I)I"⟩, prog_6_method_25_code, 4, (Option.some Jvm.ClassFile.FieldType.int))
def mM_sameLetters : zY := (⟨"KeptItemsModel", "sameLetters", "(II)Z"⟩, prog_6_method_26_code, 5, (Option.some Jvm.ClassFile.FieldType.boolean))
def mM_named : zY := (⟨"KeptItemsModel", "named", "(II)I"⟩, prog_6_method_27_code, 5, (Option.some Jvm.ClassFile.FieldType.int))
def mM_enter : zY := (⟨"KeptItemsModel", "enter", "(ZI)V"⟩, prog_6_method_28_code, 3, (Option.none : Option Jvm.ClassFile.FieldType))
def mM_take : zY := (⟨"KeptItemsModel", "take", "(I)V"⟩, prog_6_method_29_code, 2, (Option.none : Option Jvm.ClassFile.FieldType))
def mM_total : zY := (⟨"KeptItemsModel", "total", "()I"⟩, prog_6_method_30_code, 1, (Option.some Jvm.ClassFile.FieldType.int))
def mM_restart : zY := (⟨"KeptItemsModel", "restart", "(II)V"⟩, prog_6_method_31_code, 3, (Option.none : Option Jvm.ClassFile.FieldType))
def mM_leave : zY := (⟨"KeptItemsModel", "leave", "(Z)I"⟩, prog_6_method_32_code, 3, (Option.some Jvm.ClassFile.FieldType.int))
def mM_operate : zY := (⟨"KeptItemsModel", "operate", "(I)V"⟩, prog_6_method_33_code, 2, (Option.none : Option Jvm.ClassFile.FieldType))
def mM_valueOf : zY := (⟨"KeptItemsModel", "valueOf", "(III)I"⟩, prog_6_method_34_code, 7, (Option.some Jvm.ClassFile.FieldType.int))
def mM_countInside : zY := (⟨"KeptItemsModel", "countInside", "(I)I"⟩, prog_6_method_35_code, 4, (Option.some Jvm.ClassFile.FieldType.int))
def mM_findValues : zY := (⟨"KeptItemsModel", "findValues", "()V"⟩, prog_6_method_36_code, 2, (Option.none : Option Jvm.ClassFile.FieldType))
def mM_keepOld : zY := (⟨"KeptItemsModel", "keepOld", "()V"⟩, prog_6_method_37_code, 2, (Option.none : Option Jvm.ClassFile.FieldType))
def mM_tokenAt : zY := (⟨"KeptItemsModel", "tokenAt", "(III)I"⟩, prog_6_method_38_code, 5, (Option.some Jvm.ClassFile.FieldType.int))
def mM_compareTokens : zY := (⟨"KeptItemsModel", "compareTokens", "(III)I"⟩, prog_6_method_39_code, 9, (Option.some Jvm.ClassFile.FieldType.int))
def mM_oldOf : zY := (⟨"KeptItemsModel", "oldOf", "(I)I"⟩, prog_6_method_40_code, 5, (Option.some Jvm.ClassFile.FieldType.int))
def mM_giveNumbers : zY := (⟨"KeptItemsModel", "giveNumbers", "()V"⟩, prog_6_method_41_code, 3, (Option.none : Option Jvm.ClassFile.FieldType))
def mM_edit : zY := (⟨"KeptItemsModel", "edit", "(II)I"⟩, prog_6_method_42_code, 5, (Option.some Jvm.ClassFile.FieldType.int))
def mM_length : zY := (⟨"KeptItemsModel", "length", "()I"⟩, prog_6_method_43_code, 1, (Option.some Jvm.ClassFile.FieldType.int))
def mM_at : zY := (⟨"KeptItemsModel", "at", "(I)C"⟩, prog_6_method_44_code, 2, (Option.some Jvm.ClassFile.FieldType.char))
def mM_tokens : zY := (⟨"KeptItemsModel", "tokens", "()I"⟩, prog_6_method_45_code, 1, (Option.some Jvm.ClassFile.FieldType.int))
def mM_token : zY := (⟨"KeptItemsModel", "token", "(I)I"⟩, prog_6_method_46_code, 2, (Option.some Jvm.ClassFile.FieldType.int))
def mM_fault : zY := (⟨"KeptItemsModel", "fault", "()I"⟩, prog_6_method_47_code, 1, (Option.some Jvm.ClassFile.FieldType.int))
def mM_items : zY := (⟨"KeptItemsModel", "items", "()I"⟩, prog_6_method_48_code, 1, (Option.some Jvm.ClassFile.FieldType.int))
def mM_kept : zY := (⟨"KeptItemsModel", "kept", "()I"⟩, prog_6_method_49_code, 1, (Option.some Jvm.ClassFile.FieldType.int))
def mM_isItem : zY := (⟨"KeptItemsModel", "isItem", "(I)Z"⟩, prog_6_method_50_code, 2, (Option.some Jvm.ClassFile.FieldType.boolean))
def mM_number : zY := (⟨"KeptItemsModel", "number", "(I)I"⟩, prog_6_method_51_code, 2, (Option.some Jvm.ClassFile.FieldType.int))
def mM_which : zY := (⟨"KeptItemsModel", "which", "(I)I"⟩, prog_6_method_52_code, 4, (Option.some Jvm.ClassFile.FieldType.int))
def mM_begin : zY := (⟨"KeptItemsModel", "begin", "(I)I"⟩, prog_6_method_53_code, 2, (Option.some Jvm.ClassFile.FieldType.int))
def mM_end : zY := (⟨"KeptItemsModel", "end", "(I)I"⟩, prog_6_method_54_code, 2, (Option.some Jvm.ClassFile.FieldType.int))
def mM_level : zY := (⟨"KeptItemsModel", "level", "(I)I"⟩, prog_6_method_55_code, 2, (Option.some Jvm.ClassFile.FieldType.int))
def mM_value : zY := (⟨"KeptItemsModel", "value", "(I)I"⟩, prog_6_method_56_code, 2, (Option.some Jvm.ClassFile.FieldType.int))
def mR_init : zY := (⟨"KeptItems$Reading", "<init>", "()V"⟩, prog_2_method_1_code, 1, (Option.none : Option Jvm.ClassFile.FieldType))
def mR_readTokens : zY := (⟨"KeptItems$Reading", "readTokens", "()V"⟩, prog_2_method_2_code, 3, (Option.none : Option Jvm.ClassFile.FieldType))
def mR_faultPlace : zY := (⟨"KeptItems$Reading", "faultPlace", "()I"⟩, prog_2_method_3_code, 1, (Option.some Jvm.ClassFile.FieldType.int))
def mR_sees : zY := (⟨"KeptItems$Reading", "sees", "(C)Z"⟩, prog_2_method_4_code, 2, (Option.some Jvm.ClassFile.FieldType.boolean))
def mR_takes : zY := (⟨"KeptItems$Reading", "takes", "(C)Z"⟩, prog_2_method_5_code, 3, (Option.some Jvm.ClassFile.FieldType.boolean))
def mR_needs : zY := (⟨"KeptItems$Reading", "needs", "(C)V"⟩, prog_2_method_6_code, 2, (Option.none : Option Jvm.ClassFile.FieldType))
def mR_opens : zY := (⟨"KeptItems$Reading", "opens", "(CI)Z"⟩, prog_2_method_7_code, 4, (Option.some Jvm.ClassFile.FieldType.boolean))
def mR_readItem : zY := (⟨"KeptItems$Reading", "readItem", "(I)V"⟩, prog_2_method_8_code, 4, (Option.none : Option Jvm.ClassFile.FieldType))
def mR_readBlock : zY := (⟨"KeptItems$Reading", "readBlock", "(I)I"⟩, prog_2_method_9_code, 3, (Option.some Jvm.ClassFile.FieldType.int))
def mR_readSum : zY := (⟨"KeptItems$Reading", "readSum", "(I)I"⟩, prog_2_method_10_code, 5, (Option.some Jvm.ClassFile.FieldType.int))
def mR_readFactor : zY := (⟨"KeptItems$Reading", "readFactor", "(I)I"⟩, prog_2_method_11_code, 4, (Option.some Jvm.ClassFile.FieldType.int))
def mR_readCall : zY := (⟨"KeptItems$Reading", "readCall", "(II)I"⟩, prog_2_method_12_code, 5, (Option.some Jvm.ClassFile.FieldType.int))
def mR_namedValue : zY := (⟨"KeptItems$Reading", "namedValue", "(I)I"⟩, prog_2_method_13_code, 5, (Option.some Jvm.ClassFile.FieldType.int))
def mS_init : zY := (⟨"KeptItems$Source", "<init>", "()V"⟩, prog_3_method_1_code, 1, (Option.none : Option Jvm.ClassFile.FieldType))
def mS_fill : zY := (⟨"KeptItems$Source", "fill", "(LKeptItems$Source;II[CI)V"⟩, prog_3_method_2_code, 7, (Option.none : Option Jvm.ClassFile.FieldType))
def mS_findTokens : zY := (⟨"KeptItems$Source", "findTokens", "()V"⟩, prog_3_method_3_code, 2, (Option.none : Option Jvm.ClassFile.FieldType))
def mS_passBlanks : zY := (⟨"KeptItems$Source", "passBlanks", "(I)I"⟩, prog_3_method_4_code, 5, (Option.some Jvm.ClassFile.FieldType.int))
def mS_tokenFrom : zY := (⟨"KeptItems$Source", "tokenFrom", "(I)I"⟩, prog_3_method_5_code, 3, (Option.some Jvm.ClassFile.FieldType.int))
def mS_markOf : zY := (⟨"KeptItems$Source", "markOf", "(IC)C"⟩, prog_3_method_6_code, 2, (Option.some Jvm.ClassFile.FieldType.char))
def mS_quotedFrom : zY := (⟨"KeptItems$Source", "quotedFrom", "(I)I"⟩, prog_3_method_7_code, 3, (Option.some Jvm.ClassFile.FieldType.int))
def mS_behindRun : zY := (⟨"KeptItems$Source", "behindRun", "(IZ)I"⟩, prog_3_method_8_code, 4, (Option.some Jvm.ClassFile.FieldType.int))
def mS_isLetter : zY := (⟨"KeptItems$Source", "isLetter", "(C)Z"⟩, prog_3_method_9_code, 1, (Option.some Jvm.ClassFile.FieldType.boolean))
def mS_isDigit : zY := (⟨"KeptItems$Source", "isDigit", "(C)Z"⟩, prog_3_method_10_code, 1, (Option.some Jvm.ClassFile.FieldType.boolean))
def mS_packed : zY := (⟨"KeptItems$Source", "packed", "(III)I"⟩, prog_3_method_11_code, 3, (Option.some Jvm.ClassFile.FieldType.int))
def mS_placeOf : zY := (⟨"KeptItems$Source", "placeOf", "(I)I"⟩, prog_3_method_12_code, 2, (Option.some Jvm.ClassFile.FieldType.int))
def mS_lengthOf : zY := (⟨"KeptItems$Source", "lengthOf", "(I)I"⟩, prog_3_method_13_code, 2, (Option.some Jvm.ClassFile.FieldType.int))
def mS_placeBehind : zY := (⟨"KeptItems$Source", "placeBehind", "(I)I"⟩, prog_3_method_14_code, 2, (Option.some Jvm.ClassFile.FieldType.int))
def mS_movedToken : zY := (⟨"KeptItems$Source", "movedToken", "(IIII)I"⟩, prog_3_method_15_code, 5, (Option.some Jvm.ClassFile.FieldType.int))
def mS_areSame : zY := (⟨"KeptItems$Source", "areSame", "(II)Z"⟩, prog_3_method_16_code, 7, (Option.some Jvm.ClassFile.FieldType.boolean))
def mS_digitsValue : zY := (⟨"KeptItems$Source", "digitsValue", "(I)I"⟩, prog_3_method_17_code, 6, (Option.some Jvm.ClassFile.FieldType.int))
def mT_init : zY := (⟨"KeptItems$Tree", "<init>", "()V"⟩, prog_4_method_1_code, 1, (Option.none : Option Jvm.ClassFile.FieldType))
def mT_has : zY := (⟨"KeptItems$Tree", "has", "(I)Z"⟩, prog_4_method_2_code, 2, (Option.some Jvm.ClassFile.FieldType.boolean))
def mT_itemOfTokens : zY := (⟨"KeptItems$Tree", "itemOfTokens", "(II)I"⟩, prog_4_method_3_code, 4, (Option.some Jvm.ClassFile.FieldType.int))
def mT_itemNumbered : zY := (⟨"KeptItems$Tree", "itemNumbered", "(I)I"⟩, prog_4_method_4_code, 3, (Option.some Jvm.ClassFile.FieldType.int))
def mJ_indexOf1 : zY := (⟨"java/lang/String", "indexOf", "(I)I"⟩, prog_13_method_79_code, 2, (Option.some Jvm.ClassFile.FieldType.int))
def mJ_indexOf2 : zY := (⟨"java/lang/String", "indexOf", "(II)I"⟩, prog_13_method_80_code, 3, (Option.some Jvm.ClassFile.FieldType.int))
def mJ_isLatin1 : zY := (⟨"java/lang/String", "isLatin1", "()Z"⟩, prog_13_method_154_code, 1, (Option.some Jvm.ClassFile.FieldType.boolean))
def mJ_length : zY := (⟨"java/lang/String", "length", "()I"⟩, prog_13_method_54_code, 1, (Option.some Jvm.ClassFile.FieldType.int))
def mJ_coder : zY := (⟨"java/lang/String", "coder", "()B"⟩, prog_13_method_152_code, 1, (Option.some Jvm.ClassFile.FieldType.byte))
def mJ_lindexOf : zY := (⟨"java/lang/StringLatin1", "indexOf", "([BIII)I"⟩, prog_14_method_22_code, 4, (Option.some Jvm.ClassFile.FieldType.int))
def mJ_canEncode : zY := (⟨"java/lang/StringLatin1", "canEncode", "(I)Z"⟩, prog_14_method_4_code, 1, (Option.some Jvm.ClassFile.FieldType.boolean))
def mJ_max : zY := (⟨"java/lang/Math", "max", "(II)I"⟩, prog_11_method_65_code, 2, (Option.some Jvm.ClassFile.FieldType.int))
def mJ_min : zY := (⟨"java/lang/Math", "min", "(II)I"⟩, prog_11_method_69_code, 2, (Option.some Jvm.ClassFile.FieldType.int))
def mJ_indexOfChar : zY := (⟨"java/lang/StringLatin1", "indexOfChar", "([BIII)I"⟩, prog_14_method_23_code, 6, (Option.some Jvm.ClassFile.FieldType.int))
def mJ_fill : zY := (⟨"java/util/Arrays", "fill", "([II)V"⟩, prog_18_method_103_code, 4, (Option.none : Option Jvm.ClassFile.FieldType))
def mW_law : zY := (⟨"KeptItemsLaw", "law", "([I)Z"⟩, code, 7, some .boolean)
def mW_edit : zY := (⟨"KeptItemsLaw", "edit", "(LKeptItems;II[J)I"⟩, method_3_code, 5, some .int)
def mW_token : zY := (⟨"KeptItemsLaw", "token", "(LKeptItems;I[J)I"⟩, method_4_code, 4, some .int)
def mW_begin : zY := (⟨"KeptItemsLaw", "begin", "(LKeptItems;I[J)I"⟩, method_5_code, 4, some .int)
def mW_end : zY := (⟨"KeptItemsLaw", "end", "(LKeptItems;I[J)I"⟩, method_6_code, 4, some .int)
def mW_value : zY := (⟨"KeptItemsLaw", "value", "(LKeptItems;I[J)I"⟩, method_7_code, 4, some .int)
def zF_K : u_T := fun k => match k with
  | 0 => ("KeptItems", "row", "[C", true)
  | 1 => ("KeptItems", "rowSize", "I", false)
  | 2 => ("KeptItems", "now", "LKeptItems$Reading;", false)
  | 3 => ("KeptItems", "before", "LKeptItems$Reading;", false)
  | 4 => ("KeptItems", "origins", "[I", true)
  | 5 => ("KeptItems", "keptItems", "I", false)
  | _ => ("KeptItems", "numbersGiven", "I", false)
def zt_K : Nat → FieldType := fun k => match k with
  | 0 => .array .char
  | 1 => .int
  | 2 => .object "KeptItems$Reading"
  | 3 => .object "KeptItems$Reading"
  | 4 => .array .int
  | 5 => .int
  | _ => .int
theorem zt_K_ok : ∀ k, k < 7 → parseFieldDescriptor (zF_K k).2.2.1 = some (zt_K k) := by decide +kernel
theorem zn_K_ok : ∀ a, a < 7 → ∀ b, b < 7 → a ≠ b → (zF_K a).2.1 ≠ (zF_K b).2.1 := by decide +kernel
def zF_R : u_T := fun k => match k with
  | 0 => ("KeptItems$Reading", "source", "LKeptItems$Source;", true)
  | 1 => ("KeptItems$Reading", "tree", "LKeptItems$Tree;", true)
  | 2 => ("KeptItems$Reading", "next", "I", false)
  | _ => ("KeptItems$Reading", "stopped", "Z", false)
def zt_R : Nat → FieldType := fun k => match k with
  | 0 => .object "KeptItems$Source"
  | 1 => .object "KeptItems$Tree"
  | 2 => .int
  | _ => .boolean
theorem zt_R_ok : ∀ k, k < 4 → parseFieldDescriptor (zF_R k).2.2.1 = some (zt_R k) := by decide +kernel
theorem zn_R_ok : ∀ a, a < 4 → ∀ b, b < 4 → a ≠ b → (zF_R a).2.1 ≠ (zF_R b).2.1 := by decide +kernel
def zF_S : u_T := fun k => match k with
  | 0 => ("KeptItems$Source", "chars", "[C", true)
  | 1 => ("KeptItems$Source", "size", "I", false)
  | 2 => ("KeptItems$Source", "found", "[I", true)
  | 3 => ("KeptItems$Source", "marks", "[C", true)
  | _ => ("KeptItems$Source", "count", "I", false)
def zt_S : Nat → FieldType := fun k => match k with
  | 0 => .array .char
  | 1 => .int
  | 2 => .array .int
  | 3 => .array .char
  | _ => .int
theorem zt_S_ok : ∀ k, k < 5 → parseFieldDescriptor (zF_S k).2.2.1 = some (zt_S k) := by decide +kernel
theorem zn_S_ok : ∀ a, a < 5 → ∀ b, b < 5 → a ≠ b → (zF_S a).2.1 ≠ (zF_S b).2.1 := by decide +kernel
def zF_T : u_T := fun k => match k with
  | 0 => ("KeptItems$Tree", "firsts", "[I", true)
  | 1 => ("KeptItems$Tree", "lasts", "[I", true)
  | 2 => ("KeptItems$Tree", "levels", "[I", true)
  | 3 => ("KeptItems$Tree", "values", "[I", true)
  | 4 => ("KeptItems$Tree", "numbers", "[I", true)
  | _ => ("KeptItems$Tree", "count", "I", false)
def zt_T : Nat → FieldType := fun k => match k with
  | 0 => .array .int
  | 1 => .array .int
  | 2 => .array .int
  | 3 => .array .int
  | 4 => .array .int
  | _ => .int
theorem zt_T_ok : ∀ k, k < 6 → parseFieldDescriptor (zF_T k).2.2.1 = some (zt_T k) := by decide +kernel
theorem zn_T_ok : ∀ a, a < 6 → ∀ b, b < 6 → a ≠ b → (zF_T a).2.1 ≠ (zF_T b).2.1 := by decide +kernel
def zF_M : u_T := fun k => match k with
  | 0 => ("KeptItemsModel", "thrown", "I", false)
  | 1 => ("KeptItemsModel", "size", "I", false)
  | 2 => ("KeptItemsModel", "text", "[C", false)
  | 3 => ("KeptItemsModel", "typed", "I", false)
  | 4 => ("KeptItemsModel", "row", "[C", false)
  | 5 => ("KeptItemsModel", "tokens", "I", false)
  | 6 => ("KeptItemsModel", "place", "[I", false)
  | 7 => ("KeptItemsModel", "many", "[I", false)
  | 8 => ("KeptItemsModel", "kind", "[I", false)
  | 9 => ("KeptItemsModel", "oldTokens", "I", false)
  | 10 => ("KeptItemsModel", "oldPlace", "[I", false)
  | 11 => ("KeptItemsModel", "oldMany", "[I", false)
  | 12 => ("KeptItemsModel", "oldKind", "[I", false)
  | 13 => ("KeptItemsModel", "image", "[I", false)
  | 14 => ("KeptItemsModel", "items", "I", false)
  | 15 => ("KeptItemsModel", "begun", "I", false)
  | 16 => ("KeptItemsModel", "first", "[I", false)
  | 17 => ("KeptItemsModel", "last", "[I", false)
  | 18 => ("KeptItemsModel", "levels", "[I", false)
  | 19 => ("KeptItemsModel", "braced", "[Z", false)
  | 20 => ("KeptItemsModel", "defines", "[Z", false)
  | 21 => ("KeptItemsModel", "numbers", "[I", false)
  | 22 => ("KeptItemsModel", "values", "[I", false)
  | 23 => ("KeptItemsModel", "oldItems", "I", false)
  | 24 => ("KeptItemsModel", "oldFirst", "[I", false)
  | 25 => ("KeptItemsModel", "oldLast", "[I", false)
  | 26 => ("KeptItemsModel", "oldNumbers", "[I", false)
  | 27 => ("KeptItemsModel", "fresh", "I", false)
  | 28 => ("KeptItemsModel", "stayed", "I", false)
  | 29 => ("KeptItemsModel", "fault", "I", false)
  | 30 => ("KeptItemsModel", "open", "I", false)
  | 31 => ("KeptItemsModel", "opened", "[I", false)
  | 32 => ("KeptItemsModel", "state", "I", false)
  | 33 => ("KeptItemsModel", "blocks", "I", false)
  | 34 => ("KeptItemsModel", "block", "[I", false)
  | 35 => ("KeptItemsModel", "item", "I", false)
  | 36 => ("KeptItemsModel", "deep", "I", false)
  | 37 => ("KeptItemsModel", "sum", "[I", false)
  | 38 => ("KeptItemsModel", "sign", "[I", false)
  | 39 => ("KeptItemsModel", "term", "[I", false)
  | 40 => ("KeptItemsModel", "minus", "[I", false)
  | 41 => ("KeptItemsModel", "list", "[I", false)
  | _ => ("KeptItemsModel", "isList", "[Z", false)
def zt_M : Nat → FieldType := fun k => match k with
  | 0 => .int
  | 1 => .int
  | 2 => .array .char
  | 3 => .int
  | 4 => .array .char
  | 5 => .int
  | 6 => .array .int
  | 7 => .array .int
  | 8 => .array .int
  | 9 => .int
  | 10 => .array .int
  | 11 => .array .int
  | 12 => .array .int
  | 13 => .array .int
  | 14 => .int
  | 15 => .int
  | 16 => .array .int
  | 17 => .array .int
  | 18 => .array .int
  | 19 => .array .boolean
  | 20 => .array .boolean
  | 21 => .array .int
  | 22 => .array .int
  | 23 => .int
  | 24 => .array .int
  | 25 => .array .int
  | 26 => .array .int
  | 27 => .int
  | 28 => .int
  | 29 => .int
  | 30 => .int
  | 31 => .array .int
  | 32 => .int
  | 33 => .int
  | 34 => .array .int
  | 35 => .int
  | 36 => .int
  | 37 => .array .int
  | 38 => .array .int
  | 39 => .array .int
  | 40 => .array .int
  | 41 => .array .int
  | _ => .array .boolean
theorem zt_M_ok : ∀ k, k < 43 → parseFieldDescriptor (zF_M k).2.2.1 = some (zt_M k) := by decide +kernel
theorem zn_M_ok : ∀ a, a < 43 → ∀ b, b < 43 → a ≠ b → (zF_M a).2.1 ≠ (zF_M b).2.1 := by decide +kernel
def zcl : List vw_C := [("KeptItems", zF_K, 7), ("KeptItems$Reading", zF_R, 4), ("KeptItems$Source", zF_S, 5), ("KeptItems$Tree", zF_T, 6), ("KeptItemsModel", zF_M, 43)]
def zrf : Nat → List Bool := fun ci => match ci with
  | 0 => [true, false, true, true, true, false, false]
  | 1 => [true, true, false, false]
  | 2 => [true, false, true, true, false]
  | 3 => [true, true, true, true, true, false]
  | 4 => [false, false, true, false, true, false, true, true, true, false, true, true, true, true, false, false, true, true, true, true, true, true, true, false, true, true, true, false, false, false, false, true, false, false, true, false, false, true, true, true, true, true, true]
  | _ => []
def zsh : List ((Nat × Nat) ⊕ Nat) := [.inr 0, .inl (1, 40), .inr 1, .inr 2, .inr 3, .inl (1, 160), .inl (0, 160), .inl (1, 160), .inl (0, 160), .inl (0, 160), .inl (0, 160), .inl (0, 160), .inl (0, 160), .inr 1, .inr 2, .inr 3, .inl (1, 160), .inl (0, 160), .inl (1, 160), .inl (0, 160), .inl (0, 160), .inl (0, 160), .inl (0, 160), .inl (0, 160), .inl (0, 160), .inr 4, .inl (1, 160), .inl (1, 40), .inl (0, 160), .inl (0, 160), .inl (0, 160), .inl (0, 160), .inl (0, 160), .inl (0, 160), .inl (0, 160), .inl (0, 160), .inl (0, 160), .inl (0, 160), .inl (2, 160), .inl (2, 160), .inl (0, 160), .inl (0, 160), .inl (0, 160), .inl (0, 160), .inl (0, 160), .inl (0, 13), .inl (0, 13), .inl (0, 16), .inl (0, 16), .inl (0, 16), .inl (0, 16), .inl (0, 16), .inl (2, 16), .inl (3, 1)]
/-- where the references point; n the reading now, b the one before -/
def zP0 (n b : Nat) : Nat → Nat → Nat := fun o k => match o, k with
  | 0, 0 => 1
  | 0, 2 => n
  | 0, 3 => b
  | 0, 4 => 24
  | 2, 0 => 3
  | 2, 1 => 4
  | 3, 0 => 5
  | 3, 2 => 6
  | 3, 3 => 7
  | 4, 0 => 8
  | 4, 1 => 9
  | 4, 2 => 10
  | 4, 3 => 11
  | 4, 4 => 12
  | 13, 0 => 14
  | 13, 1 => 15
  | 14, 0 => 16
  | 14, 2 => 17
  | 14, 3 => 18
  | 15, 0 => 19
  | 15, 1 => 20
  | 15, 2 => 21
  | 15, 3 => 22
  | 15, 4 => 23
  | 25, 2 => 26
  | 25, 4 => 27
  | 25, 6 => 28
  | 25, 7 => 29
  | 25, 8 => 30
  | 25, 10 => 31
  | 25, 11 => 32
  | 25, 12 => 33
  | 25, 13 => 34
  | 25, 16 => 35
  | 25, 17 => 36
  | 25, 18 => 37
  | 25, 19 => 38
  | 25, 20 => 39
  | 25, 21 => 40
  | 25, 22 => 41
  | 25, 24 => 42
  | 25, 25 => 43
  | 25, 26 => 44
  | 25, 31 => 45
  | 25, 34 => 46
  | 25, 37 => 47
  | 25, 38 => 48
  | 25, 39 => 49
  | 25, 40 => 50
  | 25, 41 => 51
  | 25, 42 => 52
  | _, _ => 0
def zT : List Jvm.Cond := lw_tbl.filter goodWord
theorem zT_good (w : Jvm.Cond) (h : w ∈ zT) : (w.onTables && w.keeps) = true ∨ ∃ ty, w = .arrayClass ty := good_of_word (List.mem_filter.mp h).2
theorem zin {w : Jvm.Cond} (i : Nat) (h : tables_1[i]? = some w) (g : goodWord w = true) : w ∈ zT := List.mem_filter.mpr ⟨List.mem_append_right _ (List.mem_of_getElem? h), g⟩
theorem zinS {q : MethodName × Nat} (i : Nat) (h : lw_privs[i]? = some q) : Jvm.Cond.selects q.1.cls q.1 q.1 ∈ zT := List.mem_filter.mpr ⟨List.mem_append_left _ (List.mem_map.mpr ⟨q, List.mem_of_getElem? h, rfl⟩), rfl⟩
theorem zy_K_0 : u_lay "KeptItems" zF_K 0 ∈ zT := zin 122 (by decide +kernel) (by decide +kernel)
theorem zy_K_1 : u_lay "KeptItems" zF_K 1 ∈ zT := zin 124 (by decide +kernel) (by decide +kernel)
theorem zy_K_2 : u_lay "KeptItems" zF_K 2 ∈ zT := zin 126 (by decide +kernel) (by decide +kernel)
theorem zy_K_3 : u_lay "KeptItems" zF_K 3 ∈ zT := zin 128 (by decide +kernel) (by decide +kernel)
theorem zy_K_4 : u_lay "KeptItems" zF_K 4 ∈ zT := zin 130 (by decide +kernel) (by decide +kernel)
theorem zy_K_5 : u_lay "KeptItems" zF_K 5 ∈ zT := zin 132 (by decide +kernel) (by decide +kernel)
theorem zy_K_6 : u_lay "KeptItems" zF_K 6 ∈ zT := zin 134 (by decide +kernel) (by decide +kernel)
theorem zy_K : ∀ w ∈ u_ws "KeptItems" zF_K 7, w ∈ zT := by
  intro w hw
  obtain ⟨k, hk, rfl⟩ := List.mem_map.mp hw
  have hk := List.mem_range.mp hk
  match k, hk with
  | 0, _ => exact zy_K_0
  | 1, _ => exact zy_K_1
  | 2, _ => exact zy_K_2
  | 3, _ => exact zy_K_3
  | 4, _ => exact zy_K_4
  | 5, _ => exact zy_K_5
  | 6, _ => exact zy_K_6
  | k + 7, hk => exact absurd hk (by omega)
theorem zy_R_0 : u_lay "KeptItems$Reading" zF_R 0 ∈ zT := zin 106 (by decide +kernel) (by decide +kernel)
theorem zy_R_1 : u_lay "KeptItems$Reading" zF_R 1 ∈ zT := zin 108 (by decide +kernel) (by decide +kernel)
theorem zy_R_2 : u_lay "KeptItems$Reading" zF_R 2 ∈ zT := zin 110 (by decide +kernel) (by decide +kernel)
theorem zy_R_3 : u_lay "KeptItems$Reading" zF_R 3 ∈ zT := zin 112 (by decide +kernel) (by decide +kernel)
theorem zy_R : ∀ w ∈ u_ws "KeptItems$Reading" zF_R 4, w ∈ zT := by
  intro w hw
  obtain ⟨k, hk, rfl⟩ := List.mem_map.mp hw
  have hk := List.mem_range.mp hk
  match k, hk with
  | 0, _ => exact zy_R_0
  | 1, _ => exact zy_R_1
  | 2, _ => exact zy_R_2
  | 3, _ => exact zy_R_3
  | k + 4, hk => exact absurd hk (by omega)
theorem zy_S_0 : u_lay "KeptItems$Source" zF_S 0 ∈ zT := zin 51 (by decide +kernel) (by decide +kernel)
theorem zy_S_1 : u_lay "KeptItems$Source" zF_S 1 ∈ zT := zin 53 (by decide +kernel) (by decide +kernel)
theorem zy_S_2 : u_lay "KeptItems$Source" zF_S 2 ∈ zT := zin 55 (by decide +kernel) (by decide +kernel)
theorem zy_S_3 : u_lay "KeptItems$Source" zF_S 3 ∈ zT := zin 57 (by decide +kernel) (by decide +kernel)
theorem zy_S_4 : u_lay "KeptItems$Source" zF_S 4 ∈ zT := zin 59 (by decide +kernel) (by decide +kernel)
theorem zy_S : ∀ w ∈ u_ws "KeptItems$Source" zF_S 5, w ∈ zT := by
  intro w hw
  obtain ⟨k, hk, rfl⟩ := List.mem_map.mp hw
  have hk := List.mem_range.mp hk
  match k, hk with
  | 0, _ => exact zy_S_0
  | 1, _ => exact zy_S_1
  | 2, _ => exact zy_S_2
  | 3, _ => exact zy_S_3
  | 4, _ => exact zy_S_4
  | k + 5, hk => exact absurd hk (by omega)
theorem zy_T_0 : u_lay "KeptItems$Tree" zF_T 0 ∈ zT := zin 87 (by decide +kernel) (by decide +kernel)
theorem zy_T_1 : u_lay "KeptItems$Tree" zF_T 1 ∈ zT := zin 89 (by decide +kernel) (by decide +kernel)
theorem zy_T_2 : u_lay "KeptItems$Tree" zF_T 2 ∈ zT := zin 91 (by decide +kernel) (by decide +kernel)
theorem zy_T_3 : u_lay "KeptItems$Tree" zF_T 3 ∈ zT := zin 93 (by decide +kernel) (by decide +kernel)
theorem zy_T_4 : u_lay "KeptItems$Tree" zF_T 4 ∈ zT := zin 95 (by decide +kernel) (by decide +kernel)
theorem zy_T_5 : u_lay "KeptItems$Tree" zF_T 5 ∈ zT := zin 97 (by decide +kernel) (by decide +kernel)
theorem zy_T : ∀ w ∈ u_ws "KeptItems$Tree" zF_T 6, w ∈ zT := by
  intro w hw
  obtain ⟨k, hk, rfl⟩ := List.mem_map.mp hw
  have hk := List.mem_range.mp hk
  match k, hk with
  | 0, _ => exact zy_T_0
  | 1, _ => exact zy_T_1
  | 2, _ => exact zy_T_2
  | 3, _ => exact zy_T_3
  | 4, _ => exact zy_T_4
  | 5, _ => exact zy_T_5
  | k + 6, hk => exact absurd hk (by omega)
theorem zy_M_0 : u_lay "KeptItemsModel" zF_M 0 ∈ zT := zin 574 (by decide +kernel) (by decide +kernel)
theorem zy_M_1 : u_lay "KeptItemsModel" zF_M 1 ∈ zT := zin 576 (by decide +kernel) (by decide +kernel)
theorem zy_M_2 : u_lay "KeptItemsModel" zF_M 2 ∈ zT := zin 578 (by decide +kernel) (by decide +kernel)
theorem zy_M_3 : u_lay "KeptItemsModel" zF_M 3 ∈ zT := zin 580 (by decide +kernel) (by decide +kernel)
theorem zy_M_4 : u_lay "KeptItemsModel" zF_M 4 ∈ zT := zin 582 (by decide +kernel) (by decide +kernel)
theorem zy_M_5 : u_lay "KeptItemsModel" zF_M 5 ∈ zT := zin 584 (by decide +kernel) (by decide +kernel)
theorem zy_M_6 : u_lay "KeptItemsModel" zF_M 6 ∈ zT := zin 586 (by decide +kernel) (by decide +kernel)
theorem zy_M_7 : u_lay "KeptItemsModel" zF_M 7 ∈ zT := zin 588 (by decide +kernel) (by decide +kernel)
theorem zy_M_8 : u_lay "KeptItemsModel" zF_M 8 ∈ zT := zin 590 (by decide +kernel) (by decide +kernel)
theorem zy_M_9 : u_lay "KeptItemsModel" zF_M 9 ∈ zT := zin 592 (by decide +kernel) (by decide +kernel)
theorem zy_M_10 : u_lay "KeptItemsModel" zF_M 10 ∈ zT := zin 594 (by decide +kernel) (by decide +kernel)
theorem zy_M_11 : u_lay "KeptItemsModel" zF_M 11 ∈ zT := zin 596 (by decide +kernel) (by decide +kernel)
theorem zy_M_12 : u_lay "KeptItemsModel" zF_M 12 ∈ zT := zin 598 (by decide +kernel) (by decide +kernel)
theorem zy_M_13 : u_lay "KeptItemsModel" zF_M 13 ∈ zT := zin 600 (by decide +kernel) (by decide +kernel)
theorem zy_M_14 : u_lay "KeptItemsModel" zF_M 14 ∈ zT := zin 602 (by decide +kernel) (by decide +kernel)
theorem zy_M_15 : u_lay "KeptItemsModel" zF_M 15 ∈ zT := zin 604 (by decide +kernel) (by decide +kernel)
theorem zy_M_16 : u_lay "KeptItemsModel" zF_M 16 ∈ zT := zin 606 (by decide +kernel) (by decide +kernel)
theorem zy_M_17 : u_lay "KeptItemsModel" zF_M 17 ∈ zT := zin 608 (by decide +kernel) (by decide +kernel)
theorem zy_M_18 : u_lay "KeptItemsModel" zF_M 18 ∈ zT := zin 610 (by decide +kernel) (by decide +kernel)
theorem zy_M_19 : u_lay "KeptItemsModel" zF_M 19 ∈ zT := zin 612 (by decide +kernel) (by decide +kernel)
theorem zy_M_20 : u_lay "KeptItemsModel" zF_M 20 ∈ zT := zin 614 (by decide +kernel) (by decide +kernel)
theorem zy_M_21 : u_lay "KeptItemsModel" zF_M 21 ∈ zT := zin 616 (by decide +kernel) (by decide +kernel)
theorem zy_M_22 : u_lay "KeptItemsModel" zF_M 22 ∈ zT := zin 618 (by decide +kernel) (by decide +kernel)
theorem zy_M_23 : u_lay "KeptItemsModel" zF_M 23 ∈ zT := zin 620 (by decide +kernel) (by decide +kernel)
theorem zy_M_24 : u_lay "KeptItemsModel" zF_M 24 ∈ zT := zin 622 (by decide +kernel) (by decide +kernel)
theorem zy_M_25 : u_lay "KeptItemsModel" zF_M 25 ∈ zT := zin 624 (by decide +kernel) (by decide +kernel)
theorem zy_M_26 : u_lay "KeptItemsModel" zF_M 26 ∈ zT := zin 626 (by decide +kernel) (by decide +kernel)
theorem zy_M_27 : u_lay "KeptItemsModel" zF_M 27 ∈ zT := zin 628 (by decide +kernel) (by decide +kernel)
theorem zy_M_28 : u_lay "KeptItemsModel" zF_M 28 ∈ zT := zin 630 (by decide +kernel) (by decide +kernel)
theorem zy_M_29 : u_lay "KeptItemsModel" zF_M 29 ∈ zT := zin 632 (by decide +kernel) (by decide +kernel)
theorem zy_M_30 : u_lay "KeptItemsModel" zF_M 30 ∈ zT := zin 634 (by decide +kernel) (by decide +kernel)
theorem zy_M_31 : u_lay "KeptItemsModel" zF_M 31 ∈ zT := zin 636 (by decide +kernel) (by decide +kernel)
theorem zy_M_32 : u_lay "KeptItemsModel" zF_M 32 ∈ zT := zin 638 (by decide +kernel) (by decide +kernel)
theorem zy_M_33 : u_lay "KeptItemsModel" zF_M 33 ∈ zT := zin 640 (by decide +kernel) (by decide +kernel)
theorem zy_M_34 : u_lay "KeptItemsModel" zF_M 34 ∈ zT := zin 642 (by decide +kernel) (by decide +kernel)
theorem zy_M_35 : u_lay "KeptItemsModel" zF_M 35 ∈ zT := zin 644 (by decide +kernel) (by decide +kernel)
theorem zy_M_36 : u_lay "KeptItemsModel" zF_M 36 ∈ zT := zin 646 (by decide +kernel) (by decide +kernel)
theorem zy_M_37 : u_lay "KeptItemsModel" zF_M 37 ∈ zT := zin 648 (by decide +kernel) (by decide +kernel)
theorem zy_M_38 : u_lay "KeptItemsModel" zF_M 38 ∈ zT := zin 650 (by decide +kernel) (by decide +kernel)
theorem zy_M_39 : u_lay "KeptItemsModel" zF_M 39 ∈ zT := zin 652 (by decide +kernel) (by decide +kernel)
theorem zy_M_40 : u_lay "KeptItemsModel" zF_M 40 ∈ zT := zin 654 (by decide +kernel) (by decide +kernel)
theorem zy_M_41 : u_lay "KeptItemsModel" zF_M 41 ∈ zT := zin 656 (by decide +kernel) (by decide +kernel)
theorem zy_M_42 : u_lay "KeptItemsModel" zF_M 42 ∈ zT := zin 658 (by decide +kernel) (by decide +kernel)
theorem zy_M : ∀ w ∈ u_ws "KeptItemsModel" zF_M 43, w ∈ zT := by
  intro w hw
  obtain ⟨k, hk, rfl⟩ := List.mem_map.mp hw
  have hk := List.mem_range.mp hk
  match k, hk with
  | 0, _ => exact zy_M_0
  | 1, _ => exact zy_M_1
  | 2, _ => exact zy_M_2
  | 3, _ => exact zy_M_3
  | 4, _ => exact zy_M_4
  | 5, _ => exact zy_M_5
  | 6, _ => exact zy_M_6
  | 7, _ => exact zy_M_7
  | 8, _ => exact zy_M_8
  | 9, _ => exact zy_M_9
  | 10, _ => exact zy_M_10
  | 11, _ => exact zy_M_11
  | 12, _ => exact zy_M_12
  | 13, _ => exact zy_M_13
  | 14, _ => exact zy_M_14
  | 15, _ => exact zy_M_15
  | 16, _ => exact zy_M_16
  | 17, _ => exact zy_M_17
  | 18, _ => exact zy_M_18
  | 19, _ => exact zy_M_19
  | 20, _ => exact zy_M_20
  | 21, _ => exact zy_M_21
  | 22, _ => exact zy_M_22
  | 23, _ => exact zy_M_23
  | 24, _ => exact zy_M_24
  | 25, _ => exact zy_M_25
  | 26, _ => exact zy_M_26
  | 27, _ => exact zy_M_27
  | 28, _ => exact zy_M_28
  | 29, _ => exact zy_M_29
  | 30, _ => exact zy_M_30
  | 31, _ => exact zy_M_31
  | 32, _ => exact zy_M_32
  | 33, _ => exact zy_M_33
  | 34, _ => exact zy_M_34
  | 35, _ => exact zy_M_35
  | 36, _ => exact zy_M_36
  | 37, _ => exact zy_M_37
  | 38, _ => exact zy_M_38
  | 39, _ => exact zy_M_39
  | 40, _ => exact zy_M_40
  | 41, _ => exact zy_M_41
  | 42, _ => exact zy_M_42
  | k + 43, hk => exact absurd hk (by omega)
theorem zcl_in {ci : Nat} {C : String} {T : u_T} {N : Nat} (h : zcl[ci]? = some (C, T, N)) : ∀ w ∈ u_ws C T N, w ∈ zT := by
  match ci, h with
  | 0, h => cases h; exact zy_K
  | 1, h => cases h; exact zy_R
  | 2, h => cases h; exact zy_S
  | 3, h => cases h; exact zy_T
  | 4, h => cases h; exact zy_M
  | k + 5, h => simp [zcl] at h
theorem zcl_ty {ci : Nat} {C : String} {T : u_T} {N : Nat} (h : zcl[ci]? = some (C, T, N)) : ∃ ty0 : Nat → FieldType, (∀ k, k < N → parseFieldDescriptor (T k).2.2.1 = some (ty0 k)) ∧ ∀ a, a < N → ∀ b, b < N → a ≠ b → (T a).2.1 ≠ (T b).2.1 := by
  match ci, h with
  | 0, h => cases h; exact ⟨zt_K, zt_K_ok, zn_K_ok⟩
  | 1, h => cases h; exact ⟨zt_R, zt_R_ok, zn_R_ok⟩
  | 2, h => cases h; exact ⟨zt_S, zt_S_ok, zn_S_ok⟩
  | 3, h => cases h; exact ⟨zt_T, zt_T_ok, zn_T_ok⟩
  | 4, h => cases h; exact ⟨zt_M, zt_M_ok, zn_M_ok⟩
  | k + 5, h => simp [zcl] at h
theorem zsh_all : zsh.all (fun q => match q with | .inl (t, n) => decide (t < 4) && decide (n < 200) | .inr _ => true) = true := by decide
theorem zsh_t {o t n : Nat} (h : zsh[o]? = some (.inl (t, n))) : t < 4 := by
  have := List.all_eq_true.mp zsh_all _ (List.mem_of_getElem? h)
  simp at this; exact this.1
theorem zsh_len {o t n : Nat} (h : zsh[o]? = some (.inl (t, n))) : n < 200 := by
  have := List.all_eq_true.mp zsh_all _ (List.mem_of_getElem? h)
  simp at this; exact this.2
theorem zsh_l3 : (zsh.take 53).all (fun q => match q with | .inl (t, _) => decide (t ≠ 3) | .inr _ => true) = true := by decide
theorem zsh_l3q {q n : Nat} (h : zsh[q]? = some (.inl (3, n))) : q = 53 := by
  have hq := (List.getElem?_eq_some_iff.mp h).1
  have hl : zsh.length = 54 := by decide
  by_cases hlt : q < 53
  · have h2 : (zsh.take 53)[q]? = some (.inl (3, n)) := by rw [List.getElem?_take, if_pos hlt, h]
    have := List.all_eq_true.mp zsh_l3 _ (List.mem_of_getElem? h2)
    simp at this
  · omega
theorem zsh_l {q n o : Nat} (h : zsh[q]? = some (.inl (3, n))) (h2 : zsh[o]? = some (.inl (3, 1))) : q = o := (zsh_l3q h).trans (zsh_l3q h2).symm
theorem zcp_nat : Jvm.Cond.native arraycopyName ∈ zT := zin 289 (by decide +kernel) (by decide +kernel)
theorem zcp_st : Jvm.Cond.static arraycopyName ∈ zT := zin 288 (by decide +kernel) (by decide +kernel)
theorem zcp_ini : Jvm.Cond.initialized "java/lang/System" ∈ zT := zin 11 (by decide +kernel) (by decide +kernel)
theorem zcp_words : nativeFrameWords "java/lang/System" "arraycopy" 5 + 11 + 8 ≤ 64 := by decide +kernel
def zso : String := "KeptItems$Source"
def zsi : Nat := 67
def zstx : String := "=;+-*(){},"
def zsn : Nat := 10
def zsb : List Int32 := [61, 59, 43, 45, 42, 40, 41, 123, 125, 44]
end
