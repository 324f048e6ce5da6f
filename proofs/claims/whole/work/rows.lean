section
-- ===== PART A: goes FIRST, ahead of the names: the tables' words, and 'selects' of the private methods out of them =====
/-- a private method of a class that the tables say can be made, by its rows of tables_1 -/
def lw_okq (q : MethodName × Nat) : Prop := (q.1.cls ≠ "java/lang/invoke/MethodHandle" ∧ q.1.cls ≠ "java/lang/invoke/VarHandle") ∧ Cond.instantiable q.1.cls q.2 ∈ tables_1 ∧ Cond.privateMethod q.1 ∈ tables_1 ∧ Cond.instanceMethod q.1 ∈ tables_1
theorem lw_p0 : lw_okq (⟨"java/lang/Throwable", "fillInStackTrace", "(I)Ljava/lang/Throwable;"⟩, 6) := ⟨⟨by decide +kernel, by decide +kernel⟩, List.mem_of_getElem? (i := 244) (by decide +kernel), List.mem_of_getElem? (i := 242) (by decide +kernel), List.mem_of_getElem? (i := 243) (by decide +kernel)⟩
theorem lw_p1 : lw_okq (⟨"KeptItems$Source", "passBlanks", "(I)I"⟩, 5) := ⟨⟨by decide +kernel, by decide +kernel⟩, List.mem_of_getElem? (i := 34) (by decide +kernel), List.mem_of_getElem? (i := 295) (by decide +kernel), List.mem_of_getElem? (i := 296) (by decide +kernel)⟩
theorem lw_p2 : lw_okq (⟨"KeptItems$Source", "tokenFrom", "(I)I"⟩, 5) := ⟨⟨by decide +kernel, by decide +kernel⟩, List.mem_of_getElem? (i := 34) (by decide +kernel), List.mem_of_getElem? (i := 299) (by decide +kernel), List.mem_of_getElem? (i := 300) (by decide +kernel)⟩
theorem lw_p3 : lw_okq (⟨"KeptItems$Source", "quotedFrom", "(I)I"⟩, 5) := ⟨⟨by decide +kernel, by decide +kernel⟩, List.mem_of_getElem? (i := 34) (by decide +kernel), List.mem_of_getElem? (i := 303) (by decide +kernel), List.mem_of_getElem? (i := 304) (by decide +kernel)⟩
theorem lw_p4 : lw_okq (⟨"KeptItems$Source", "behindRun", "(IZ)I"⟩, 5) := ⟨⟨by decide +kernel, by decide +kernel⟩, List.mem_of_getElem? (i := 34) (by decide +kernel), List.mem_of_getElem? (i := 313) (by decide +kernel), List.mem_of_getElem? (i := 314) (by decide +kernel)⟩
theorem lw_p5 : lw_okq (⟨"KeptItems$Reading", "readItem", "(I)V"⟩, 4) := ⟨⟨by decide +kernel, by decide +kernel⟩, List.mem_of_getElem? (i := 28) (by decide +kernel), List.mem_of_getElem? (i := 423) (by decide +kernel), List.mem_of_getElem? (i := 424) (by decide +kernel)⟩
theorem lw_p6 : lw_okq (⟨"KeptItems$Reading", "sees", "(C)Z"⟩, 4) := ⟨⟨by decide +kernel, by decide +kernel⟩, List.mem_of_getElem? (i := 28) (by decide +kernel), List.mem_of_getElem? (i := 427) (by decide +kernel), List.mem_of_getElem? (i := 428) (by decide +kernel)⟩
theorem lw_p7 : lw_okq (⟨"KeptItems$Reading", "readBlock", "(I)I"⟩, 4) := ⟨⟨by decide +kernel, by decide +kernel⟩, List.mem_of_getElem? (i := 28) (by decide +kernel), List.mem_of_getElem? (i := 431) (by decide +kernel), List.mem_of_getElem? (i := 432) (by decide +kernel)⟩
theorem lw_p8 : lw_okq (⟨"KeptItems$Reading", "opens", "(CI)Z"⟩, 4) := ⟨⟨by decide +kernel, by decide +kernel⟩, List.mem_of_getElem? (i := 28) (by decide +kernel), List.mem_of_getElem? (i := 435) (by decide +kernel), List.mem_of_getElem? (i := 436) (by decide +kernel)⟩
theorem lw_p9 : lw_okq (⟨"KeptItems$Reading", "needs", "(C)V"⟩, 4) := ⟨⟨by decide +kernel, by decide +kernel⟩, List.mem_of_getElem? (i := 28) (by decide +kernel), List.mem_of_getElem? (i := 439) (by decide +kernel), List.mem_of_getElem? (i := 440) (by decide +kernel)⟩
theorem lw_p10 : lw_okq (⟨"KeptItems$Reading", "takes", "(C)Z"⟩, 4) := ⟨⟨by decide +kernel, by decide +kernel⟩, List.mem_of_getElem? (i := 28) (by decide +kernel), List.mem_of_getElem? (i := 443) (by decide +kernel), List.mem_of_getElem? (i := 444) (by decide +kernel)⟩
theorem lw_p11 : lw_okq (⟨"KeptItems$Reading", "readSum", "(I)I"⟩, 4) := ⟨⟨by decide +kernel, by decide +kernel⟩, List.mem_of_getElem? (i := 28) (by decide +kernel), List.mem_of_getElem? (i := 447) (by decide +kernel), List.mem_of_getElem? (i := 448) (by decide +kernel)⟩
theorem lw_p12 : lw_okq (⟨"KeptItems$Reading", "readFactor", "(I)I"⟩, 4) := ⟨⟨by decide +kernel, by decide +kernel⟩, List.mem_of_getElem? (i := 28) (by decide +kernel), List.mem_of_getElem? (i := 451) (by decide +kernel), List.mem_of_getElem? (i := 452) (by decide +kernel)⟩
theorem lw_p13 : lw_okq (⟨"KeptItems$Reading", "readCall", "(II)I"⟩, 4) := ⟨⟨by decide +kernel, by decide +kernel⟩, List.mem_of_getElem? (i := 28) (by decide +kernel), List.mem_of_getElem? (i := 460) (by decide +kernel), List.mem_of_getElem? (i := 461) (by decide +kernel)⟩
theorem lw_p14 : lw_okq (⟨"KeptItems$Reading", "namedValue", "(I)I"⟩, 4) := ⟨⟨by decide +kernel, by decide +kernel⟩, List.mem_of_getElem? (i := 28) (by decide +kernel), List.mem_of_getElem? (i := 464) (by decide +kernel), List.mem_of_getElem? (i := 465) (by decide +kernel)⟩
theorem lw_p15 : lw_okq (⟨"KeptItems", "traceTokens", "(II)I"⟩, 7) := ⟨⟨by decide +kernel, by decide +kernel⟩, List.mem_of_getElem? (i := 20) (by decide +kernel), List.mem_of_getElem? (i := 472) (by decide +kernel), List.mem_of_getElem? (i := 473) (by decide +kernel)⟩
def lw_privs_1 : List (MethodName × Nat) := [(⟨"java/lang/Throwable", "fillInStackTrace", "(I)Ljava/lang/Throwable;"⟩, 6), (⟨"KeptItems$Source", "passBlanks", "(I)I"⟩, 5), (⟨"KeptItems$Source", "tokenFrom", "(I)I"⟩, 5), (⟨"KeptItems$Source", "quotedFrom", "(I)I"⟩, 5), (⟨"KeptItems$Source", "behindRun", "(IZ)I"⟩, 5), (⟨"KeptItems$Reading", "readItem", "(I)V"⟩, 4), (⟨"KeptItems$Reading", "sees", "(C)Z"⟩, 4), (⟨"KeptItems$Reading", "readBlock", "(I)I"⟩, 4), (⟨"KeptItems$Reading", "opens", "(CI)Z"⟩, 4), (⟨"KeptItems$Reading", "needs", "(C)V"⟩, 4), (⟨"KeptItems$Reading", "takes", "(C)Z"⟩, 4), (⟨"KeptItems$Reading", "readSum", "(I)I"⟩, 4), (⟨"KeptItems$Reading", "readFactor", "(I)I"⟩, 4), (⟨"KeptItems$Reading", "readCall", "(II)I"⟩, 4), (⟨"KeptItems$Reading", "namedValue", "(I)I"⟩, 4), (⟨"KeptItems", "traceTokens", "(II)I"⟩, 7)]
theorem lw_r1 : ∀ q ∈ lw_privs_1, lw_okq q := List.forall_mem_cons.mpr ⟨lw_p0, List.forall_mem_cons.mpr ⟨lw_p1, List.forall_mem_cons.mpr ⟨lw_p2, List.forall_mem_cons.mpr ⟨lw_p3, List.forall_mem_cons.mpr ⟨lw_p4, List.forall_mem_cons.mpr ⟨lw_p5, List.forall_mem_cons.mpr ⟨lw_p6, List.forall_mem_cons.mpr ⟨lw_p7, List.forall_mem_cons.mpr ⟨lw_p8, List.forall_mem_cons.mpr ⟨lw_p9, List.forall_mem_cons.mpr ⟨lw_p10, List.forall_mem_cons.mpr ⟨lw_p11, List.forall_mem_cons.mpr ⟨lw_p12, List.forall_mem_cons.mpr ⟨lw_p13, List.forall_mem_cons.mpr ⟨lw_p14, List.forall_mem_cons.mpr ⟨lw_p15, fun _ h => absurd h List.not_mem_nil⟩⟩⟩⟩⟩⟩⟩⟩⟩⟩⟩⟩⟩⟩⟩⟩
theorem lw_p16 : lw_okq (⟨"KeptItems", "numberItems", "()V"⟩, 7) := ⟨⟨by decide +kernel, by decide +kernel⟩, List.mem_of_getElem? (i := 20) (by decide +kernel), List.mem_of_getElem? (i := 483) (by decide +kernel), List.mem_of_getElem? (i := 484) (by decide +kernel)⟩
theorem lw_p17 : lw_okq (⟨"KeptItems", "oldItem", "(I)I"⟩, 7) := ⟨⟨by decide +kernel, by decide +kernel⟩, List.mem_of_getElem? (i := 20) (by decide +kernel), List.mem_of_getElem? (i := 487) (by decide +kernel), List.mem_of_getElem? (i := 488) (by decide +kernel)⟩
theorem lw_p18 : lw_okq (⟨"KeptItemsModel", "keepOld", "()V"⟩, 43) := ⟨⟨by decide +kernel, by decide +kernel⟩, List.mem_of_getElem? (i := 526) (by decide +kernel), List.mem_of_getElem? (i := 679) (by decide +kernel), List.mem_of_getElem? (i := 680) (by decide +kernel)⟩
theorem lw_p19 : lw_okq (⟨"KeptItemsModel", "change", "(II)V"⟩, 43) := ⟨⟨by decide +kernel, by decide +kernel⟩, List.mem_of_getElem? (i := 526) (by decide +kernel), List.mem_of_getElem? (i := 683) (by decide +kernel), List.mem_of_getElem? (i := 684) (by decide +kernel)⟩
theorem lw_p20 : lw_okq (⟨"KeptItemsModel", "findTokens", "()V"⟩, 43) := ⟨⟨by decide +kernel, by decide +kernel⟩, List.mem_of_getElem? (i := 526) (by decide +kernel), List.mem_of_getElem? (i := 687) (by decide +kernel), List.mem_of_getElem? (i := 688) (by decide +kernel)⟩
theorem lw_p21 : lw_okq (⟨"KeptItemsModel", "skip", "(I)I"⟩, 43) := ⟨⟨by decide +kernel, by decide +kernel⟩, List.mem_of_getElem? (i := 526) (by decide +kernel), List.mem_of_getElem? (i := 691) (by decide +kernel), List.mem_of_getElem? (i := 692) (by decide +kernel)⟩
theorem lw_p22 : lw_okq (⟨"KeptItemsModel", "addToken", "(III)V"⟩, 43) := ⟨⟨by decide +kernel, by decide +kernel⟩, List.mem_of_getElem? (i := 526) (by decide +kernel), List.mem_of_getElem? (i := 704) (by decide +kernel), List.mem_of_getElem? (i := 705) (by decide +kernel)⟩
theorem lw_p23 : lw_okq (⟨"KeptItemsModel", "read", "()V"⟩, 43) := ⟨⟨by decide +kernel, by decide +kernel⟩, List.mem_of_getElem? (i := 526) (by decide +kernel), List.mem_of_getElem? (i := 708) (by decide +kernel), List.mem_of_getElem? (i := 709) (by decide +kernel)⟩
theorem lw_p24 : lw_okq (⟨"KeptItemsModel", "readToken", "(I)Z"⟩, 43) := ⟨⟨by decide +kernel, by decide +kernel⟩, List.mem_of_getElem? (i := 526) (by decide +kernel), List.mem_of_getElem? (i := 712) (by decide +kernel), List.mem_of_getElem? (i := 713) (by decide +kernel)⟩
theorem lw_p25 : lw_okq (⟨"KeptItemsModel", "is", "(IC)Z"⟩, 43) := ⟨⟨by decide +kernel, by decide +kernel⟩, List.mem_of_getElem? (i := 526) (by decide +kernel), List.mem_of_getElem? (i := 716) (by decide +kernel), List.mem_of_getElem? (i := 717) (by decide +kernel)⟩
theorem lw_p26 : lw_okq (⟨"KeptItemsModel", "push", "(I)Z"⟩, 43) := ⟨⟨by decide +kernel, by decide +kernel⟩, List.mem_of_getElem? (i := 526) (by decide +kernel), List.mem_of_getElem? (i := 720) (by decide +kernel), List.mem_of_getElem? (i := 721) (by decide +kernel)⟩
theorem lw_p27 : lw_okq (⟨"KeptItemsModel", "whole", "()V"⟩, 43) := ⟨⟨by decide +kernel, by decide +kernel⟩, List.mem_of_getElem? (i := 526) (by decide +kernel), List.mem_of_getElem? (i := 724) (by decide +kernel), List.mem_of_getElem? (i := 725) (by decide +kernel)⟩
theorem lw_p28 : lw_okq (⟨"KeptItemsModel", "top", "()I"⟩, 43) := ⟨⟨by decide +kernel, by decide +kernel⟩, List.mem_of_getElem? (i := 526) (by decide +kernel), List.mem_of_getElem? (i := 728) (by decide +kernel), List.mem_of_getElem? (i := 729) (by decide +kernel)⟩
theorem lw_p29 : lw_okq (⟨"KeptItemsModel", "readItem", "(I)Z"⟩, 43) := ⟨⟨by decide +kernel, by decide +kernel⟩, List.mem_of_getElem? (i := 526) (by decide +kernel), List.mem_of_getElem? (i := 732) (by decide +kernel), List.mem_of_getElem? (i := 733) (by decide +kernel)⟩
theorem lw_p30 : lw_okq (⟨"KeptItemsModel", "start", "(IZ)V"⟩, 43) := ⟨⟨by decide +kernel, by decide +kernel⟩, List.mem_of_getElem? (i := 526) (by decide +kernel), List.mem_of_getElem? (i := 736) (by decide +kernel), List.mem_of_getElem? (i := 737) (by decide +kernel)⟩
theorem lw_p31 : lw_okq (⟨"KeptItemsModel", "finish", "(II)V"⟩, 43) := ⟨⟨by decide +kernel, by decide +kernel⟩, List.mem_of_getElem? (i := 526) (by decide +kernel), List.mem_of_getElem? (i := 740) (by decide +kernel), List.mem_of_getElem? (i := 741) (by decide +kernel)⟩
def lw_privs_2 : List (MethodName × Nat) := [(⟨"KeptItems", "numberItems", "()V"⟩, 7), (⟨"KeptItems", "oldItem", "(I)I"⟩, 7), (⟨"KeptItemsModel", "keepOld", "()V"⟩, 43), (⟨"KeptItemsModel", "change", "(II)V"⟩, 43), (⟨"KeptItemsModel", "findTokens", "()V"⟩, 43), (⟨"KeptItemsModel", "skip", "(I)I"⟩, 43), (⟨"KeptItemsModel", "addToken", "(III)V"⟩, 43), (⟨"KeptItemsModel", "read", "()V"⟩, 43), (⟨"KeptItemsModel", "readToken", "(I)Z"⟩, 43), (⟨"KeptItemsModel", "is", "(IC)Z"⟩, 43), (⟨"KeptItemsModel", "push", "(I)Z"⟩, 43), (⟨"KeptItemsModel", "whole", "()V"⟩, 43), (⟨"KeptItemsModel", "top", "()I"⟩, 43), (⟨"KeptItemsModel", "readItem", "(I)Z"⟩, 43), (⟨"KeptItemsModel", "start", "(IZ)V"⟩, 43), (⟨"KeptItemsModel", "finish", "(II)V"⟩, 43)]
theorem lw_r2 : ∀ q ∈ lw_privs_2, lw_okq q := List.forall_mem_cons.mpr ⟨lw_p16, List.forall_mem_cons.mpr ⟨lw_p17, List.forall_mem_cons.mpr ⟨lw_p18, List.forall_mem_cons.mpr ⟨lw_p19, List.forall_mem_cons.mpr ⟨lw_p20, List.forall_mem_cons.mpr ⟨lw_p21, List.forall_mem_cons.mpr ⟨lw_p22, List.forall_mem_cons.mpr ⟨lw_p23, List.forall_mem_cons.mpr ⟨lw_p24, List.forall_mem_cons.mpr ⟨lw_p25, List.forall_mem_cons.mpr ⟨lw_p26, List.forall_mem_cons.mpr ⟨lw_p27, List.forall_mem_cons.mpr ⟨lw_p28, List.forall_mem_cons.mpr ⟨lw_p29, List.forall_mem_cons.mpr ⟨lw_p30, List.forall_mem_cons.mpr ⟨lw_p31, fun _ h => absurd h List.not_mem_nil⟩⟩⟩⟩⟩⟩⟩⟩⟩⟩⟩⟩⟩⟩⟩⟩
theorem lw_p32 : lw_okq (⟨"KeptItemsModel", "readNamed", "(I)Z"⟩, 43) := ⟨⟨by decide +kernel, by decide +kernel⟩, List.mem_of_getElem? (i := 526) (by decide +kernel), List.mem_of_getElem? (i := 744) (by decide +kernel), List.mem_of_getElem? (i := 745) (by decide +kernel)⟩
theorem lw_p33 : lw_okq (⟨"KeptItemsModel", "readFactor", "(I)Z"⟩, 43) := ⟨⟨by decide +kernel, by decide +kernel⟩, List.mem_of_getElem? (i := 526) (by decide +kernel), List.mem_of_getElem? (i := 748) (by decide +kernel), List.mem_of_getElem? (i := 749) (by decide +kernel)⟩
theorem lw_p34 : lw_okq (⟨"KeptItemsModel", "close", "()Z"⟩, 43) := ⟨⟨by decide +kernel, by decide +kernel⟩, List.mem_of_getElem? (i := 526) (by decide +kernel), List.mem_of_getElem? (i := 752) (by decide +kernel), List.mem_of_getElem? (i := 753) (by decide +kernel)⟩
theorem lw_p35 : lw_okq (⟨"KeptItemsModel", "readBehind", "(I)Z"⟩, 43) := ⟨⟨by decide +kernel, by decide +kernel⟩, List.mem_of_getElem? (i := 526) (by decide +kernel), List.mem_of_getElem? (i := 756) (by decide +kernel), List.mem_of_getElem? (i := 757) (by decide +kernel)⟩
theorem lw_p36 : lw_okq (⟨"KeptItemsModel", "compareTokens", "(III)I"⟩, 43) := ⟨⟨by decide +kernel, by decide +kernel⟩, List.mem_of_getElem? (i := 526) (by decide +kernel), List.mem_of_getElem? (i := 760) (by decide +kernel), List.mem_of_getElem? (i := 761) (by decide +kernel)⟩
theorem lw_p37 : lw_okq (⟨"KeptItemsModel", "tokenAt", "(III)I"⟩, 43) := ⟨⟨by decide +kernel, by decide +kernel⟩, List.mem_of_getElem? (i := 526) (by decide +kernel), List.mem_of_getElem? (i := 764) (by decide +kernel), List.mem_of_getElem? (i := 765) (by decide +kernel)⟩
theorem lw_p38 : lw_okq (⟨"KeptItemsModel", "giveNumbers", "()V"⟩, 43) := ⟨⟨by decide +kernel, by decide +kernel⟩, List.mem_of_getElem? (i := 526) (by decide +kernel), List.mem_of_getElem? (i := 768) (by decide +kernel), List.mem_of_getElem? (i := 769) (by decide +kernel)⟩
theorem lw_p39 : lw_okq (⟨"KeptItemsModel", "oldOf", "(I)I"⟩, 43) := ⟨⟨by decide +kernel, by decide +kernel⟩, List.mem_of_getElem? (i := 526) (by decide +kernel), List.mem_of_getElem? (i := 772) (by decide +kernel), List.mem_of_getElem? (i := 773) (by decide +kernel)⟩
theorem lw_p40 : lw_okq (⟨"KeptItemsModel", "findValues", "()V"⟩, 43) := ⟨⟨by decide +kernel, by decide +kernel⟩, List.mem_of_getElem? (i := 526) (by decide +kernel), List.mem_of_getElem? (i := 776) (by decide +kernel), List.mem_of_getElem? (i := 777) (by decide +kernel)⟩
theorem lw_p41 : lw_okq (⟨"KeptItemsModel", "countInside", "(I)I"⟩, 43) := ⟨⟨by decide +kernel, by decide +kernel⟩, List.mem_of_getElem? (i := 526) (by decide +kernel), List.mem_of_getElem? (i := 780) (by decide +kernel), List.mem_of_getElem? (i := 781) (by decide +kernel)⟩
theorem lw_p42 : lw_okq (⟨"KeptItemsModel", "valueOf", "(III)I"⟩, 43) := ⟨⟨by decide +kernel, by decide +kernel⟩, List.mem_of_getElem? (i := 526) (by decide +kernel), List.mem_of_getElem? (i := 784) (by decide +kernel), List.mem_of_getElem? (i := 785) (by decide +kernel)⟩
theorem lw_p43 : lw_okq (⟨"KeptItemsModel", "enter", "(ZI)V"⟩, 43) := ⟨⟨by decide +kernel, by decide +kernel⟩, List.mem_of_getElem? (i := 526) (by decide +kernel), List.mem_of_getElem? (i := 788) (by decide +kernel), List.mem_of_getElem? (i := 789) (by decide +kernel)⟩
theorem lw_p44 : lw_okq (⟨"KeptItemsModel", "leave", "(Z)I"⟩, 43) := ⟨⟨by decide +kernel, by decide +kernel⟩, List.mem_of_getElem? (i := 526) (by decide +kernel), List.mem_of_getElem? (i := 792) (by decide +kernel), List.mem_of_getElem? (i := 793) (by decide +kernel)⟩
theorem lw_p45 : lw_okq (⟨"KeptItemsModel", "total", "()I"⟩, 43) := ⟨⟨by decide +kernel, by decide +kernel⟩, List.mem_of_getElem? (i := 526) (by decide +kernel), List.mem_of_getElem? (i := 796) (by decide +kernel), List.mem_of_getElem? (i := 797) (by decide +kernel)⟩
theorem lw_p46 : lw_okq (⟨"KeptItemsModel", "take", "(I)V"⟩, 43) := ⟨⟨by decide +kernel, by decide +kernel⟩, List.mem_of_getElem? (i := 526) (by decide +kernel), List.mem_of_getElem? (i := 800) (by decide +kernel), List.mem_of_getElem? (i := 801) (by decide +kernel)⟩
theorem lw_p47 : lw_okq (⟨"KeptItemsModel", "operate", "(I)V"⟩, 43) := ⟨⟨by decide +kernel, by decide +kernel⟩, List.mem_of_getElem? (i := 526) (by decide +kernel), List.mem_of_getElem? (i := 804) (by decide +kernel), List.mem_of_getElem? (i := 805) (by decide +kernel)⟩
def lw_privs_3 : List (MethodName × Nat) := [(⟨"KeptItemsModel", "readNamed", "(I)Z"⟩, 43), (⟨"KeptItemsModel", "readFactor", "(I)Z"⟩, 43), (⟨"KeptItemsModel", "close", "()Z"⟩, 43), (⟨"KeptItemsModel", "readBehind", "(I)Z"⟩, 43), (⟨"KeptItemsModel", "compareTokens", "(III)I"⟩, 43), (⟨"KeptItemsModel", "tokenAt", "(III)I"⟩, 43), (⟨"KeptItemsModel", "giveNumbers", "()V"⟩, 43), (⟨"KeptItemsModel", "oldOf", "(I)I"⟩, 43), (⟨"KeptItemsModel", "findValues", "()V"⟩, 43), (⟨"KeptItemsModel", "countInside", "(I)I"⟩, 43), (⟨"KeptItemsModel", "valueOf", "(III)I"⟩, 43), (⟨"KeptItemsModel", "enter", "(ZI)V"⟩, 43), (⟨"KeptItemsModel", "leave", "(Z)I"⟩, 43), (⟨"KeptItemsModel", "total", "()I"⟩, 43), (⟨"KeptItemsModel", "take", "(I)V"⟩, 43), (⟨"KeptItemsModel", "operate", "(I)V"⟩, 43)]
theorem lw_r3 : ∀ q ∈ lw_privs_3, lw_okq q := List.forall_mem_cons.mpr ⟨lw_p32, List.forall_mem_cons.mpr ⟨lw_p33, List.forall_mem_cons.mpr ⟨lw_p34, List.forall_mem_cons.mpr ⟨lw_p35, List.forall_mem_cons.mpr ⟨lw_p36, List.forall_mem_cons.mpr ⟨lw_p37, List.forall_mem_cons.mpr ⟨lw_p38, List.forall_mem_cons.mpr ⟨lw_p39, List.forall_mem_cons.mpr ⟨lw_p40, List.forall_mem_cons.mpr ⟨lw_p41, List.forall_mem_cons.mpr ⟨lw_p42, List.forall_mem_cons.mpr ⟨lw_p43, List.forall_mem_cons.mpr ⟨lw_p44, List.forall_mem_cons.mpr ⟨lw_p45, List.forall_mem_cons.mpr ⟨lw_p46, List.forall_mem_cons.mpr ⟨lw_p47, fun _ h => absurd h List.not_mem_nil⟩⟩⟩⟩⟩⟩⟩⟩⟩⟩⟩⟩⟩⟩⟩⟩
theorem lw_p48 : lw_okq (⟨"KeptItemsModel", "restart", "(II)V"⟩, 43) := ⟨⟨by decide +kernel, by decide +kernel⟩, List.mem_of_getElem? (i := 526) (by decide +kernel), List.mem_of_getElem? (i := 808) (by decide +kernel), List.mem_of_getElem? (i := 809) (by decide +kernel)⟩
theorem lw_p49 : lw_okq (⟨"KeptItemsModel", "numberValue", "(I)I"⟩, 43) := ⟨⟨by decide +kernel, by decide +kernel⟩, List.mem_of_getElem? (i := 526) (by decide +kernel), List.mem_of_getElem? (i := 812) (by decide +kernel), List.mem_of_getElem? (i := 813) (by decide +kernel)⟩
theorem lw_p50 : lw_okq (⟨"KeptItemsModel", "named", "(II)I"⟩, 43) := ⟨⟨by decide +kernel, by decide +kernel⟩, List.mem_of_getElem? (i := 526) (by decide +kernel), List.mem_of_getElem? (i := 816) (by decide +kernel), List.mem_of_getElem? (i := 817) (by decide +kernel)⟩
theorem lw_p51 : lw_okq (⟨"KeptItemsModel", "sameLetters", "(II)Z"⟩, 43) := ⟨⟨by decide +kernel, by decide +kernel⟩, List.mem_of_getElem? (i := 526) (by decide +kernel), List.mem_of_getElem? (i := 820) (by decide +kernel), List.mem_of_getElem? (i := 821) (by decide +kernel)⟩
theorem lw_p52 : lw_okq (⟨"KeptItemsModel", "isItem", "(I)Z"⟩, 43) := ⟨⟨by decide +kernel, by decide +kernel⟩, List.mem_of_getElem? (i := 526) (by decide +kernel), List.mem_of_getElem? (i := 856) (by decide +kernel), List.mem_of_getElem? (i := 857) (by decide +kernel)⟩
def lw_privs_4 : List (MethodName × Nat) := [(⟨"KeptItemsModel", "restart", "(II)V"⟩, 43), (⟨"KeptItemsModel", "numberValue", "(I)I"⟩, 43), (⟨"KeptItemsModel", "named", "(II)I"⟩, 43), (⟨"KeptItemsModel", "sameLetters", "(II)Z"⟩, 43), (⟨"KeptItemsModel", "isItem", "(I)Z"⟩, 43)]
theorem lw_r4 : ∀ q ∈ lw_privs_4, lw_okq q := List.forall_mem_cons.mpr ⟨lw_p48, List.forall_mem_cons.mpr ⟨lw_p49, List.forall_mem_cons.mpr ⟨lw_p50, List.forall_mem_cons.mpr ⟨lw_p51, List.forall_mem_cons.mpr ⟨lw_p52, fun _ h => absurd h List.not_mem_nil⟩⟩⟩⟩⟩
def lw_privs : List (MethodName × Nat) := lw_privs_1 ++ (lw_privs_2 ++ (lw_privs_3 ++ (lw_privs_4)))
def lw_tbl : List Cond := k2_sels lw_privs ++ tables_1
theorem lw_privs_ok : ∀ q ∈ lw_privs, lw_okq q := by
  show ∀ q ∈ lw_privs_1 ++ (lw_privs_2 ++ (lw_privs_3 ++ (lw_privs_4))), lw_okq q
  exact List.forall_mem_append.mpr ⟨lw_r1, List.forall_mem_append.mpr ⟨lw_r2, List.forall_mem_append.mpr ⟨lw_r3, lw_r4⟩⟩⟩
-- ===== end of PART A; then your names; then what follows =====
end
section
/- names: methods, classes, the world's shape, words (printed by program) -/
abbrev zY : Type := MethodName × ByteArray × Nat × Option FieldType
def mK_init : zY := (⟨"KeptItems", "<init>", "()V"⟩, prog_1_method_1_code, 1, (Option.none : Option Jvm.ClassFile.FieldType))
def mK_type : zY := (⟨"KeptItems", "type", "(C)Z"⟩, prog_1_method_2_code, 3, (Option.some Jvm.ClassFile.FieldType.boolean))
def mK_wipe : zY := (⟨"KeptItems", "wipe", "()I"⟩, prog_1_method_3_code, 2, (Option.some Jvm.ClassFile.FieldType.int))
def mK_edit : zY := (⟨"KeptItems", "edit", "(II)I"⟩, prog_1_method_4_code, 6, (Option.some Jvm.ClassFile.FieldType.int))
def mK_length : zY := (⟨"KeptItems", "length", "()I"⟩, prog_1_method_5_code, 1, (Option.some Jvm.ClassFile.FieldType.int))
def mK_at : zY := (⟨"KeptItems", "at", "(I)C"⟩, prog_1_method_6_code, 2, (Option.some Jvm.ClassFile.FieldType.char))
def mK_tokens : zY := (⟨"KeptItems", "tokens", "()I"⟩, prog_1_method_7_code, 1, (Option.some Jvm.ClassFile.FieldType.int))
def mK_token : zY := (⟨"KeptItems", "token", "(I)I"⟩, prog_1_method_8_code, 2, (Option.some Jvm.ClassFile.FieldType.int))
def mK_fault : zY := (⟨"KeptItems", "fault", "()I"⟩, prog_1_method_9_code, 1, (Option.some Jvm.ClassFile.FieldType.int))
def mK_items : zY := (⟨"KeptItems", "items", "()I"⟩, prog_1_method_10_code, 1, (Option.some Jvm.ClassFile.FieldType.int))
def mK_kept : zY := (⟨"KeptItems", "kept", "()I"⟩, prog_1_method_11_code, 1, (Option.some Jvm.ClassFile.FieldType.int))
def mK_number : zY := (⟨"KeptItems", "number", "(I)I"⟩, prog_1_method_12_code, 2, (Option.some Jvm.ClassFile.FieldType.int))
def mK_which : zY := (⟨"KeptItems", "which", "(I)I"⟩, prog_1_method_13_code, 2, (Option.some Jvm.ClassFile.FieldType.int))
def mK_begin : zY := (⟨"KeptItems", "begin", "(I)I"⟩, prog_1_method_14_code, 2, (Option.some Jvm.ClassFile.FieldType.int))
def mK_end : zY := (⟨"KeptItems", "end", "(I)I"⟩, prog_1_method_15_code, 2, (Option.some Jvm.ClassFile.FieldType.int))
def mK_level : zY := (⟨"KeptItems", "level", "(I)I"⟩, prog_1_method_16_code, 2, (Option.some Jvm.ClassFile.FieldType.int))
def mK_value : zY := (⟨"KeptItems", "value", "(I)I"⟩, prog_1_method_17_code, 2, (Option.some Jvm.ClassFile.FieldType.int))
def mK_traceTokens : zY := (⟨"KeptItems", "traceTokens", "(II)I"⟩, prog_1_method_18_code, 8, (Option.some Jvm.ClassFile.FieldType.int))
def mK_numberItems : zY := (⟨"KeptItems", "numberItems", "()V"⟩, prog_1_method_19_code, 3, (Option.none : Option Jvm.ClassFile.FieldType))
def mK_oldItem : zY := (⟨"KeptItems", "oldItem", "(I)I"⟩, prog_1_method_20_code, 6, (Option.some Jvm.ClassFile.FieldType.int))
def mM_init : zY := (⟨"KeptItemsModel", "<init>", "()V"⟩, prog_6_method_1_code, 1, (Option.none : Option Jvm.ClassFile.FieldType))
def mM_thrown : zY := (⟨"KeptItemsModel", "thrown", "()I"⟩, prog_6_method_2_code, 1, (Option.some Jvm.ClassFile.FieldType.int))
def mM_type : zY := (⟨"KeptItemsModel", "type", "(C)Z"⟩, prog_6_method_3_code, 2, (Option.some Jvm.ClassFile.FieldType.boolean))
def mM_wipe : zY := (⟨"KeptItemsModel", "wipe", "()I"⟩, prog_6_method_4_code, 2, (Option.some Jvm.ClassFile.FieldType.int))
def mM_change : zY := (⟨"KeptItemsModel", "change", "(II)V"⟩, prog_6_method_5_code, 5, (Option.none : Option Jvm.ClassFile.FieldType))
def mM_isLetter : zY := (⟨"KeptItemsModel", "isLetter", "(C)Z"⟩, prog_6_method_6_code, 1, (Option.some Jvm.ClassFile.FieldType.boolean))
def mM_isDigit : zY := (⟨"KeptItemsModel", "isDigit", "(C)Z"⟩, prog_6_method_7_code, 1, (Option.some Jvm.ClassFile.FieldType.boolean))
def mM_isSign : zY := (⟨"KeptItemsModel", "isSign", "(C)Z"⟩, prog_6_method_8_code, 1, (Option.some Jvm.ClassFile.FieldType.boolean))
def mM_skip : zY := (⟨"KeptItemsModel", "skip", "(I)I"⟩, prog_6_method_9_code, 4, (Option.some Jvm.ClassFile.FieldType.int))
def mM_addToken : zY := (⟨"KeptItemsModel", "addToken", "(III)V"⟩, prog_6_method_10_code, 4, (Option.none : Option Jvm.ClassFile.FieldType))
def mM_findTokens : zY := (⟨"KeptItemsModel", "findTokens", "()V"⟩, prog_6_method_11_code, 5, (Option.none : Option Jvm.ClassFile.FieldType))
def mM_is : zY := (⟨"KeptItemsModel", "is", "(IC)Z"⟩, prog_6_method_12_code, 3, (Option.some Jvm.ClassFile.FieldType.boolean))
def mM_top : zY := (⟨"KeptItemsModel", "top", "()I"⟩, prog_6_method_13_code, 1, (Option.some Jvm.ClassFile.FieldType.int))
def mM_push : zY := (⟨"KeptItemsModel", "push", "(I)Z"⟩, prog_6_method_14_code, 2, (Option.some Jvm.ClassFile.FieldType.boolean))
def mM_whole : zY := (⟨"KeptItemsModel", "whole", "()V"⟩, prog_6_method_15_code, 1, (Option.none : Option Jvm.ClassFile.FieldType))
def mM_start : zY := (⟨"KeptItemsModel", "start", "(IZ)V"⟩, prog_6_method_16_code, 3, (Option.none : Option Jvm.ClassFile.FieldType))
def mM_finish : zY := (⟨"KeptItemsModel", "finish", "(II)V"⟩, prog_6_method_17_code, 3, (Option.none : Option Jvm.ClassFile.FieldType))
def mM_readItem : zY := (⟨"KeptItemsModel", "readItem", "(I)Z"⟩, prog_6_method_18_code, 2, (Option.some Jvm.ClassFile.FieldType.boolean))
def mM_readNamed : zY := (⟨"KeptItemsModel", "readNamed", "(I)Z"⟩, prog_6_method_19_code, 2, (Option.some Jvm.ClassFile.FieldType.boolean))
def mM_readFactor : zY := (⟨"KeptItemsModel", "readFactor", "(I)Z"⟩, prog_6_method_20_code, 2, (Option.some Jvm.ClassFile.FieldType.boolean))
def mM_close : zY := (⟨"KeptItemsModel", "close", "()Z"⟩, prog_6_method_21_code, 2, (Option.some Jvm.ClassFile.FieldType.boolean))
def mM_readBehind : zY := (⟨"KeptItemsModel", "readBehind", "(I)Z"⟩, prog_6_method_22_code, 4, (Option.some Jvm.ClassFile.FieldType.boolean))
def mM_readToken : zY := (⟨"KeptItemsModel", "readToken", "(I)Z"⟩, prog_6_method_23_code, 2, (Option.some Jvm.ClassFile.FieldType.boolean))
def mM_read : zY := (⟨"KeptItemsModel", "read", "()V"⟩, prog_6_method_24_code, 3, (Option.none : Option Jvm.ClassFile.FieldType))
def mM_numberValue : zY := (⟨"KeptItemsModel", "numberValue", "(I)I"⟩, prog_6_method_25_code, 4, (Option.some Jvm.ClassFile.FieldType.int))
def mM_sameLetters : zY := (⟨"KeptItemsModel", "sameLetters", "(II)Z"⟩, prog_6_method_26_code, 5, (Option.some Jvm.ClassFile.FieldType.boolean))
def mM_named : zY := (⟨"KeptItemsModel", "named", "(II)I"⟩, prog_6_method_27_code, 5, (Option.some Jvm.ClassFile.FieldType.int))
def mM_enter : zY := (⟨"KeptItemsModel", "enter", "(ZI)V"⟩, prog_6_method_28_code, 3, (Option.none : Option Jvm.ClassFile.FieldType))
def mM_take : zY := (⟨"KeptItemsModel", "take", "(I)V"⟩, prog_6_method_29_code, 2, (Option.none : Option Jvm.ClassFile.FieldType))
def mM_total : zY := (⟨"KeptItemsModel", "total", "()I"⟩, prog_6_method_30_code, 1, (Option.some Jvm.ClassFile.FieldType.int))
def mM_restart : zY := (⟨"KeptItemsModel", "restart", "(II)V"⟩, prog_6_method_31_code, 3, (Option.none : Option Jvm.ClassFile.FieldType))
def mM_leave : zY := (⟨"KeptItemsModel", "leave", "(Z)I"⟩, prog_6_method_32_code, 3, (Option.some Jvm.ClassFile.FieldType.int))
def mM_operate : zY := (⟨"KeptItemsModel", "operate", "(I)V"⟩, prog_6_method_33_code, 2, (Option.none : Option Jvm.ClassFile.FieldType))
def mM_valueOf : zY := (⟨"KeptItemsModel", "valueOf", "(III)I"⟩, prog_6_method_34_code, 7, (Option.some Jvm.ClassFile.FieldType.int))
def mM_countInside : zY := (⟨"KeptItemsModel", "countInside", "(I)I"⟩, prog_6_method_35_code, 4, (Option.some Jvm.ClassFile.FieldType.int))
def mM_findValues : zY := (⟨"KeptItemsModel", "findValues", "()V"⟩, prog_6_method_36_code, 2, (Option.none : Option Jvm.ClassFile.FieldType))
def mM_keepOld : zY := (⟨"KeptItemsModel", "keepOld", "()V"⟩, prog_6_method_37_code, 2, (Option.none : Option Jvm.ClassFile.FieldType))
def mM_tokenAt : zY := (⟨"KeptItemsModel", "tokenAt", "(III)I"⟩, prog_6_method_38_code, 5, (Option.some Jvm.ClassFile.FieldType.int))
def mM_compareTokens : zY := (⟨"KeptItemsModel", "compareTokens", "(III)I"⟩, prog_6_method_39_code, 9, (Option.some Jvm.ClassFile.FieldType.int))
def mM_oldOf : zY := (⟨"KeptItemsModel", "oldOf", "(I)I"⟩, prog_6_method_40_code, 5, (Option.some Jvm.ClassFile.FieldType.int))
def mM_giveNumbers : zY := (⟨"KeptItemsModel", "giveNumbers", "()V"⟩, prog_6_method_41_code, 3, (Option.none : Option Jvm.ClassFile.FieldType))
def mM_edit : zY := (⟨"KeptItemsModel", "edit", "(II)I"⟩, prog_6_method_42_code, 5, (Option.some Jvm.ClassFile.FieldType.int))
def mM_length : zY := (⟨"KeptItemsModel", "length", "()I"⟩, prog_6_method_43_code, 1, (Option.some Jvm.ClassFile.FieldType.int))
def mM_at : zY := (⟨"KeptItemsModel", "at", "(I)C"⟩, prog_6_method_44_code, 2, (Option.some Jvm.ClassFile.FieldType.char))
def mM_tokens : zY := (⟨"KeptItemsModel", "tokens", "()I"⟩, prog_6_method_45_code, 1, (Option.some Jvm.ClassFile.FieldType.int))
def mM_token : zY := (⟨"KeptItemsModel", "token", "(I)I"⟩, prog_6_method_46_code, 2, (Option.some Jvm.ClassFile.FieldType.int))
def mM_fault : zY := (⟨"KeptItemsModel", "fault", "()I"⟩, prog_6_method_47_code, 1, (Option.some Jvm.ClassFile.FieldType.int))
def mM_items : zY := (⟨"KeptItemsModel", "items", "()I"⟩, prog_6_method_48_code, 1, (Option.some Jvm.ClassFile.FieldType.int))
def mM_kept : zY := (⟨"KeptItemsModel", "kept", "()I"⟩, prog_6_method_49_code, 1, (Option.some Jvm.ClassFile.FieldType.int))
def mM_isItem : zY := (⟨"KeptItemsModel", "isItem", "(I)Z"⟩, prog_6_method_50_code, 2, (Option.some Jvm.ClassFile.FieldType.boolean))
def mM_number : zY := (⟨"KeptItemsModel", "number", "(I)I"⟩, prog_6_method_51_code, 2, (Option.some Jvm.ClassFile.FieldType.int))
def mM_which : zY := (⟨"KeptItemsModel", "which", "(I)I"⟩, prog_6_method_52_code, 4, (Option.some Jvm.ClassFile.FieldType.int))
def mM_begin : zY := (⟨"KeptItemsModel", "begin", "(I)I"⟩, prog_6_method_53_code, 2, (Option.some Jvm.ClassFile.FieldType.int))
def mM_end : zY := (⟨"KeptItemsModel", "end", "(I)I"⟩, prog_6_method_54_code, 2, (Option.some Jvm.ClassFile.FieldType.int))
def mM_level : zY := (⟨"KeptItemsModel", "level", "(I)I"⟩, prog_6_method_55_code, 2, (Option.some Jvm.ClassFile.FieldType.int))
def mM_value : zY := (⟨"KeptItemsModel", "value", "(I)I"⟩, prog_6_method_56_code, 2, (Option.some Jvm.ClassFile.FieldType.int))
def mR_init : zY := (⟨"KeptItems$Reading", "<init>", "()V"⟩, prog_2_method_1_code, 1, (Option.none : Option Jvm.ClassFile.FieldType))
def mR_readTokens : zY := (⟨"KeptItems$Reading", "readTokens", "()V"⟩, prog_2_method_2_code, 3, (Option.none : Option Jvm.ClassFile.FieldType))
def mR_faultPlace : zY := (⟨"KeptItems$Reading", "faultPlace", "()I"⟩, prog_2_method_3_code, 1, (Option.some Jvm.ClassFile.FieldType.int))
def mR_sees : zY := (⟨"KeptItems$Reading", "sees", "(C)Z"⟩, prog_2_method_4_code, 2, (Option.some Jvm.ClassFile.FieldType.boolean))
def mR_takes : zY := (⟨"KeptItems$Reading", "takes", "(C)Z"⟩, prog_2_method_5_code, 3, (Option.some Jvm.ClassFile.FieldType.boolean))
def mR_needs : zY := (⟨"KeptItems$Reading", "needs", "(C)V"⟩, prog_2_method_6_code, 2, (Option.none : Option Jvm.ClassFile.FieldType))
def mR_opens : zY := (⟨"KeptItems$Reading", "opens", "(CI)Z"⟩, prog_2_method_7_code, 4, (Option.some Jvm.ClassFile.FieldType.boolean))
def mR_readItem : zY := (⟨"KeptItems$Reading", "readItem", "(I)V"⟩, prog_2_method_8_code, 4, (Option.none : Option Jvm.ClassFile.FieldType))
def mR_readBlock : zY := (⟨"KeptItems$Reading", "readBlock", "(I)I"⟩, prog_2_method_9_code, 3, (Option.some Jvm.ClassFile.FieldType.int))
def mR_readSum : zY := (⟨"KeptItems$Reading", "readSum", "(I)I"⟩, prog_2_method_10_code, 5, (Option.some Jvm.ClassFile.FieldType.int))
def mR_readFactor : zY := (⟨"KeptItems$Reading", "readFactor", "(I)I"⟩, prog_2_method_11_code, 4, (Option.some Jvm.ClassFile.FieldType.int))
def mR_readCall : zY := (⟨"KeptItems$Reading", "readCall", "(II)I"⟩, prog_2_method_12_code, 5, (Option.some Jvm.ClassFile.FieldType.int))
def mR_namedValue : zY := (⟨"KeptItems$Reading", "namedValue", "(I)I"⟩, prog_2_method_13_code, 5, (Option.some Jvm.ClassFile.FieldType.int))
def mS_init : zY := (⟨"KeptItems$Source", "<init>", "()V"⟩, prog_3_method_1_code, 1, (Option.none : Option Jvm.ClassFile.FieldType))
def mS_fill : zY := (⟨"KeptItems$Source", "fill", "(LKeptItems$Source;II[CI)V"⟩, prog_3_method_2_code, 7, (Option.none : Option Jvm.ClassFile.FieldType))
def mS_findTokens : zY := (⟨"KeptItems$Source", "findTokens", "()V"⟩, prog_3_method_3_code, 2, (Option.none : Option Jvm.ClassFile.FieldType))
def mS_passBlanks : zY := (⟨"KeptItems$Source", "passBlanks", "(I)I"⟩, prog_3_method_4_code, 5, (Option.some Jvm.ClassFile.FieldType.int))
def mS_tokenFrom : zY := (⟨"KeptItems$Source", "tokenFrom", "(I)I"⟩, prog_3_method_5_code, 3, (Option.some Jvm.ClassFile.FieldType.int))
def mS_markOf : zY := (⟨"KeptItems$Source", "markOf", "(IC)C"⟩, prog_3_method_6_code, 2, (Option.some Jvm.ClassFile.FieldType.char))
def mS_quotedFrom : zY := (⟨"KeptItems$Source", "quotedFrom", "(I)I"⟩, prog_3_method_7_code, 3, (Option.some Jvm.ClassFile.FieldType.int))
def mS_behindRun : zY := (⟨"KeptItems$Source", "behindRun", "(IZ)I"⟩, prog_3_method_8_code, 4, (Option.some Jvm.ClassFile.FieldType.int))
def mS_isLetter : zY := (⟨"KeptItems$Source", "isLetter", "(C)Z"⟩, prog_3_method_9_code, 1, (Option.some Jvm.ClassFile.FieldType.boolean))
def mS_isDigit : zY := (⟨"KeptItems$Source", "isDigit", "(C)Z"⟩, prog_3_method_10_code, 1, (Option.some Jvm.ClassFile.FieldType.boolean))
def mS_packed : zY := (⟨"KeptItems$Source", "packed", "(III)I"⟩, prog_3_method_11_code, 3, (Option.some Jvm.ClassFile.FieldType.int))
def mS_placeOf : zY := (⟨"KeptItems$Source", "placeOf", "(I)I"⟩, prog_3_method_12_code, 2, (Option.some Jvm.ClassFile.FieldType.int))
def mS_lengthOf : zY := (⟨"KeptItems$Source", "lengthOf", "(I)I"⟩, prog_3_method_13_code, 2, (Option.some Jvm.ClassFile.FieldType.int))
def mS_placeBehind : zY := (⟨"KeptItems$Source", "placeBehind", "(I)I"⟩, prog_3_method_14_code, 2, (Option.some Jvm.ClassFile.FieldType.int))
def mS_movedToken : zY := (⟨"KeptItems$Source", "movedToken", "(IIII)I"⟩, prog_3_method_15_code, 5, (Option.some Jvm.ClassFile.FieldType.int))
def mS_areSame : zY := (⟨"KeptItems$Source", "areSame", "(II)Z"⟩, prog_3_method_16_code, 7, (Option.some Jvm.ClassFile.FieldType.boolean))
def mS_digitsValue : zY := (⟨"KeptItems$Source", "digitsValue", "(I)I"⟩, prog_3_method_17_code, 6, (Option.some Jvm.ClassFile.FieldType.int))
def mT_init : zY := (⟨"KeptItems$Tree", "<init>", "()V"⟩, prog_4_method_1_code, 1, (Option.none : Option Jvm.ClassFile.FieldType))
def mT_has : zY := (⟨"KeptItems$Tree", "has", "(I)Z"⟩, prog_4_method_2_code, 2, (Option.some Jvm.ClassFile.FieldType.boolean))
def mT_itemOfTokens : zY := (⟨"KeptItems$Tree", "itemOfTokens", "(II)I"⟩, prog_4_method_3_code, 4, (Option.some Jvm.ClassFile.FieldType.int))
def mT_itemNumbered : zY := (⟨"KeptItems$Tree", "itemNumbered", "(I)I"⟩, prog_4_method_4_code, 3, (Option.some Jvm.ClassFile.FieldType.int))
def mJ_indexOf1 : zY := (⟨"java/lang/String", "indexOf", "(I)I"⟩, prog_13_method_79_code, 2, (Option.some Jvm.ClassFile.FieldType.int))
def mJ_indexOf2 : zY := (⟨"java/lang/String", "indexOf", "(II)I"⟩, prog_13_method_80_code, 3, (Option.some Jvm.ClassFile.FieldType.int))
def mJ_isLatin1 : zY := (⟨"java/lang/String", "isLatin1", "()Z"⟩, prog_13_method_154_code, 1, (Option.some Jvm.ClassFile.FieldType.boolean))
def mJ_length : zY := (⟨"java/lang/String", "length", "()I"⟩, prog_13_method_54_code, 1, (Option.some Jvm.ClassFile.FieldType.int))
def mJ_coder : zY := (⟨"java/lang/String", "coder", "()B"⟩, prog_13_method_152_code, 1, (Option.some Jvm.ClassFile.FieldType.byte))
def mJ_lindexOf : zY := (⟨"java/lang/StringLatin1", "indexOf", "([BIII)I"⟩, prog_14_method_22_code, 4, (Option.some Jvm.ClassFile.FieldType.int))
def mJ_canEncode : zY := (⟨"java/lang/StringLatin1", "canEncode", "(I)Z"⟩, prog_14_method_4_code, 1, (Option.some Jvm.ClassFile.FieldType.boolean))
def mJ_indexOfChar : zY := (⟨"java/lang/StringLatin1", "indexOfChar", "([BIII)I"⟩, prog_14_method_23_code, 6, (Option.some Jvm.ClassFile.FieldType.int))
def mJ_fill : zY := (⟨"java/util/Arrays", "fill", "([II)V"⟩, prog_18_method_103_code, 4, (Option.none : Option Jvm.ClassFile.FieldType))
def mW_law : zY := (⟨"KeptItemsLaw", "law", "([I)Z"⟩, code, 7, some .boolean)
def mW_edit : zY := (⟨"KeptItemsLaw", "edit", "(LKeptItems;II[J)I"⟩, method_3_code, 5, some .int)
def mW_token : zY := (⟨"KeptItemsLaw", "token", "(LKeptItems;I[J)I"⟩, method_4_code, 4, some .int)
def mW_begin : zY := (⟨"KeptItemsLaw", "begin", "(LKeptItems;I[J)I"⟩, method_5_code, 4, some .int)
def mW_end : zY := (⟨"KeptItemsLaw", "end", "(LKeptItems;I[J)I"⟩, method_6_code, 4, some .int)
def mW_value : zY := (⟨"KeptItemsLaw", "value", "(LKeptItems;I[J)I"⟩, method_7_code, 4, some .int)
def zF_K : u_T := fun k => match k with
  | 0 => ("KeptItems", "row", "[C", true)
  | 1 => ("KeptItems", "rowSize", "I", false)
  | 2 => ("KeptItems", "now", "LKeptItems$Reading;", false)
  | 3 => ("KeptItems", "before", "LKeptItems$Reading;", false)
  | 4 => ("KeptItems", "origins", "[I", true)
  | 5 => ("KeptItems", "keptItems", "I", false)
  | _ => ("KeptItems", "numbersGiven", "I", false)
def zt_K : Nat → FieldType := fun k => match k with
  | 0 => .array .char
  | 1 => .int
  | 2 => .object "KeptItems$Reading"
  | 3 => .object "KeptItems$Reading"
  | 4 => .array .int
  | 5 => .int
  | _ => .int
theorem zt_K_ok : ∀ k, k < 7 → parseFieldDescriptor (zF_K k).2.2.1 = some (zt_K k) := by decide +kernel
theorem zn_K_ok : ∀ a, a < 7 → ∀ b, b < 7 → a ≠ b → (zF_K a).2.1 ≠ (zF_K b).2.1 := by decide +kernel
def zF_R : u_T := fun k => match k with
  | 0 => ("KeptItems$Reading", "source", "LKeptItems$Source;", true)
  | 1 => ("KeptItems$Reading", "tree", "LKeptItems$Tree;", true)
  | 2 => ("KeptItems$Reading", "next", "I", false)
  | _ => ("KeptItems$Reading", "stopped", "Z", false)
def zt_R : Nat → FieldType := fun k => match k with
  | 0 => .object "KeptItems$Source"
  | 1 => .object "KeptItems$Tree"
  | 2 => .int
  | _ => .boolean
theorem zt_R_ok : ∀ k, k < 4 → parseFieldDescriptor (zF_R k).2.2.1 = some (zt_R k) := by decide +kernel
theorem zn_R_ok : ∀ a, a < 4 → ∀ b, b < 4 → a ≠ b → (zF_R a).2.1 ≠ (zF_R b).2.1 := by decide +kernel
def zF_S : u_T := fun k => match k with
  | 0 => ("KeptItems$Source", "chars", "[C", true)
  | 1 => ("KeptItems$Source", "size", "I", false)
  | 2 => ("KeptItems$Source", "found", "[I", true)
  | 3 => ("KeptItems$Source", "marks", "[C", true)
  | _ => ("KeptItems$Source", "count", "I", false)
def zt_S : Nat → FieldType := fun k => match k with
  | 0 => .array .char
  | 1 => .int
  | 2 => .array .int
  | 3 => .array .char
  | _ => .int
theorem zt_S_ok : ∀ k, k < 5 → parseFieldDescriptor (zF_S k).2.2.1 = some (zt_S k) := by decide +kernel
theorem zn_S_ok : ∀ a, a < 5 → ∀ b, b < 5 → a ≠ b → (zF_S a).2.1 ≠ (zF_S b).2.1 := by decide +kernel
def zF_T : u_T := fun k => match k with
  | 0 => ("KeptItems$Tree", "firsts", "[I", true)
  | 1 => ("KeptItems$Tree", "lasts", "[I", true)
  | 2 => ("KeptItems$Tree", "levels", "[I", true)
  | 3 => ("KeptItems$Tree", "values", "[I", true)
  | 4 => ("KeptItems$Tree", "numbers", "[I", true)
  | _ => ("KeptItems$Tree", "count", "I", false)
def zt_T : Nat → FieldType := fun k => match k with
  | 0 => .array .int
  | 1 => .array .int
  | 2 => .array .int
  | 3 => .array .int
  | 4 => .array .int
  | _ => .int
theorem zt_T_ok : ∀ k, k < 6 → parseFieldDescriptor (zF_T k).2.2.1 = some (zt_T k) := by decide +kernel
theorem zn_T_ok : ∀ a, a < 6 → ∀ b, b < 6 → a ≠ b → (zF_T a).2.1 ≠ (zF_T b).2.1 := by decide +kernel
def zF_M : u_T := fun k => match k with
  | 0 => ("KeptItemsModel", "thrown", "I", false)
  | 1 => ("KeptItemsModel", "size", "I", false)
  | 2 => ("KeptItemsModel", "text", "[C", false)
  | 3 => ("KeptItemsModel", "typed", "I", false)
  | 4 => ("KeptItemsModel", "row", "[C", false)
  | 5 => ("KeptItemsModel", "tokens", "I", false)
  | 6 => ("KeptItemsModel", "place", "[I", false)
  | 7 => ("KeptItemsModel", "many", "[I", false)
  | 8 => ("KeptItemsModel", "kind", "[I", false)
  | 9 => ("KeptItemsModel", "oldTokens", "I", false)
  | 10 => ("KeptItemsModel", "oldPlace", "[I", false)
  | 11 => ("KeptItemsModel", "oldMany", "[I", false)
  | 12 => ("KeptItemsModel", "oldKind", "[I", false)
  | 13 => ("KeptItemsModel", "image", "[I", false)
  | 14 => ("KeptItemsModel", "items", "I", false)
  | 15 => ("KeptItemsModel", "begun", "I", false)
  | 16 => ("KeptItemsModel", "first", "[I", false)
  | 17 => ("KeptItemsModel", "last", "[I", false)
  | 18 => ("KeptItemsModel", "levels", "[I", false)
  | 19 => ("KeptItemsModel", "braced", "[Z", false)
  | 20 => ("KeptItemsModel", "defines", "[Z", false)
  | 21 => ("KeptItemsModel", "numbers", "[I", false)
  | 22 => ("KeptItemsModel", "values", "[I", false)
  | 23 => ("KeptItemsModel", "oldItems", "I", false)
  | 24 => ("KeptItemsModel", "oldFirst", "[I", false)
  | 25 => ("KeptItemsModel", "oldLast", "[I", false)
  | 26 => ("KeptItemsModel", "oldNumbers", "[I", false)
  | 27 => ("KeptItemsModel", "fresh", "I", false)
  | 28 => ("KeptItemsModel", "stayed", "I", false)
  | 29 => ("KeptItemsModel", "fault", "I", false)
  | 30 => ("KeptItemsModel", "open", "I", false)
  | 31 => ("KeptItemsModel", "opened", "[I", false)
  | 32 => ("KeptItemsModel", "state", "I", false)
  | 33 => ("KeptItemsModel", "blocks", "I", false)
  | 34 => ("KeptItemsModel", "block", "[I", false)
  | 35 => ("KeptItemsModel", "item", "I", false)
  | 36 => ("KeptItemsModel", "deep", "I", false)
  | 37 => ("KeptItemsModel", "sum", "[I", false)
  | 38 => ("KeptItemsModel", "sign", "[I", false)
  | 39 => ("KeptItemsModel", "term", "[I", false)
  | 40 => ("KeptItemsModel", "minus", "[I", false)
  | 41 => ("KeptItemsModel", "list", "[I", false)
  | _ => ("KeptItemsModel", "isList", "[Z", false)
def zt_M : Nat → FieldType := fun k => match k with
  | 0 => .int
  | 1 => .int
  | 2 => .array .char
  | 3 => .int
  | 4 => .array .char
  | 5 => .int
  | 6 => .array .int
  | 7 => .array .int
  | 8 => .array .int
  | 9 => .int
  | 10 => .array .int
  | 11 => .array .int
  | 12 => .array .int
  | 13 => .array .int
  | 14 => .int
  | 15 => .int
  | 16 => .array .int
  | 17 => .array .int
  | 18 => .array .int
  | 19 => .array .boolean
  | 20 => .array .boolean
  | 21 => .array .int
  | 22 => .array .int
  | 23 => .int
  | 24 => .array .int
  | 25 => .array .int
  | 26 => .array .int
  | 27 => .int
  | 28 => .int
  | 29 => .int
  | 30 => .int
  | 31 => .array .int
  | 32 => .int
  | 33 => .int
  | 34 => .array .int
  | 35 => .int
  | 36 => .int
  | 37 => .array .int
  | 38 => .array .int
  | 39 => .array .int
  | 40 => .array .int
  | 41 => .array .int
  | _ => .array .boolean
theorem zt_M_ok : ∀ k, k < 43 → parseFieldDescriptor (zF_M k).2.2.1 = some (zt_M k) := by decide +kernel
theorem zn_M_ok : ∀ a, a < 43 → ∀ b, b < 43 → a ≠ b → (zF_M a).2.1 ≠ (zF_M b).2.1 := by decide +kernel
def zcl : List vw_C := [("KeptItems", zF_K, 7), ("KeptItems$Reading", zF_R, 4), ("KeptItems$Source", zF_S, 5), ("KeptItems$Tree", zF_T, 6), ("KeptItemsModel", zF_M, 43)]
def zrf : Nat → List Bool := fun ci => match ci with
  | 0 => [true, false, true, true, true, false, false]
  | 1 => [true, true, false, false]
  | 2 => [true, false, true, true, false]
  | 3 => [true, true, true, true, true, false]
  | 4 => [false, false, true, false, true, false, true, true, true, false, true, true, true, true, false, false, true, true, true, true, true, true, true, false, true, true, true, false, false, false, false, true, false, false, true, false, false, true, true, true, true, true, true]
  | _ => []
def zsh : List ((Nat × Nat) ⊕ Nat) := [.inr 0, .inl (1, 40), .inr 1, .inr 2, .inr 3, .inl (1, 160), .inl (0, 160), .inl (1, 160), .inl (0, 160), .inl (0, 160), .inl (0, 160), .inl (0, 160), .inl (0, 160), .inr 1, .inr 2, .inr 3, .inl (1, 160), .inl (0, 160), .inl (1, 160), .inl (0, 160), .inl (0, 160), .inl (0, 160), .inl (0, 160), .inl (0, 160), .inl (0, 160), .inr 4, .inl (1, 160), .inl (1, 40), .inl (0, 160), .inl (0, 160), .inl (0, 160), .inl (0, 160), .inl (0, 160), .inl (0, 160), .inl (0, 160), .inl (0, 160), .inl (0, 160), .inl (0, 160), .inl (2, 160), .inl (2, 160), .inl (0, 160), .inl (0, 160), .inl (0, 160), .inl (0, 160), .inl (0, 160), .inl (0, 13), .inl (0, 13), .inl (0, 16), .inl (0, 16), .inl (0, 16), .inl (0, 16), .inl (0, 16), .inl (2, 16), .inl (3, 1)]
/-- where the references point; n the reading now, b the one before -/
def zP0 (n b : Nat) : Nat → Nat → Nat := fun o k => match o, k with
  | 0, 0 => 1
  | 0, 2 => n
  | 0, 3 => b
  | 0, 4 => 24
  | 2, 0 => 3
  | 2, 1 => 4
  | 3, 0 => 5
  | 3, 2 => 6
  | 3, 3 => 7
  | 4, 0 => 8
  | 4, 1 => 9
  | 4, 2 => 10
  | 4, 3 => 11
  | 4, 4 => 12
  | 13, 0 => 14
  | 13, 1 => 15
  | 14, 0 => 16
  | 14, 2 => 17
  | 14, 3 => 18
  | 15, 0 => 19
  | 15, 1 => 20
  | 15, 2 => 21
  | 15, 3 => 22
  | 15, 4 => 23
  | 25, 2 => 26
  | 25, 4 => 27
  | 25, 6 => 28
  | 25, 7 => 29
  | 25, 8 => 30
  | 25, 10 => 31
  | 25, 11 => 32
  | 25, 12 => 33
  | 25, 13 => 34
  | 25, 16 => 35
  | 25, 17 => 36
  | 25, 18 => 37
  | 25, 19 => 38
  | 25, 20 => 39
  | 25, 21 => 40
  | 25, 22 => 41
  | 25, 24 => 42
  | 25, 25 => 43
  | 25, 26 => 44
  | 25, 31 => 45
  | 25, 34 => 46
  | 25, 37 => 47
  | 25, 38 => 48
  | 25, 39 => 49
  | 25, 40 => 50
  | 25, 41 => 51
  | 25, 42 => 52
  | _, _ => 0
def zT : List Jvm.Cond := lw_tbl.filter goodWord
theorem zT_good (w : Jvm.Cond) (h : w ∈ zT) : (w.onTables && w.keeps) = true ∨ ∃ ty, w = .arrayClass ty := good_of_word (List.mem_filter.mp h).2
theorem zin {w : Jvm.Cond} (i : Nat) (h : tables_1[i]? = some w) (g : goodWord w = true) : w ∈ zT := List.mem_filter.mpr ⟨List.mem_append_right _ (List.mem_of_getElem? h), g⟩
theorem zinS {q : MethodName × Nat} (i : Nat) (h : lw_privs[i]? = some q) : Jvm.Cond.selects q.1.cls q.1 q.1 ∈ zT := List.mem_filter.mpr ⟨List.mem_append_left _ (List.mem_map.mpr ⟨q, List.mem_of_getElem? h, rfl⟩), rfl⟩
theorem zy_K_0 : u_lay "KeptItems" zF_K 0 ∈ zT := zin 122 (by decide +kernel) (by decide +kernel)
theorem zy_K_1 : u_lay "KeptItems" zF_K 1 ∈ zT := zin 124 (by decide +kernel) (by decide +kernel)
theorem zy_K_2 : u_lay "KeptItems" zF_K 2 ∈ zT := zin 126 (by decide +kernel) (by decide +kernel)
theorem zy_K_3 : u_lay "KeptItems" zF_K 3 ∈ zT := zin 128 (by decide +kernel) (by decide +kernel)
theorem zy_K_4 : u_lay "KeptItems" zF_K 4 ∈ zT := zin 130 (by decide +kernel) (by decide +kernel)
theorem zy_K_5 : u_lay "KeptItems" zF_K 5 ∈ zT := zin 132 (by decide +kernel) (by decide +kernel)
theorem zy_K_6 : u_lay "KeptItems" zF_K 6 ∈ zT := zin 134 (by decide +kernel) (by decide +kernel)
theorem zy_K : ∀ w ∈ u_ws "KeptItems" zF_K 7, w ∈ zT := by
  intro w hw
  obtain ⟨k, hk, rfl⟩ := List.mem_map.mp hw
  have hk := List.mem_range.mp hk
  match k, hk with
  | 0, _ => exact zy_K_0
  | 1, _ => exact zy_K_1
  | 2, _ => exact zy_K_2
  | 3, _ => exact zy_K_3
  | 4, _ => exact zy_K_4
  | 5, _ => exact zy_K_5
  | 6, _ => exact zy_K_6
  | k + 7, hk => exact absurd hk (by omega)
theorem zy_R_0 : u_lay "KeptItems$Reading" zF_R 0 ∈ zT := zin 106 (by decide +kernel) (by decide +kernel)
theorem zy_R_1 : u_lay "KeptItems$Reading" zF_R 1 ∈ zT := zin 108 (by decide +kernel) (by decide +kernel)
theorem zy_R_2 : u_lay "KeptItems$Reading" zF_R 2 ∈ zT := zin 110 (by decide +kernel) (by decide +kernel)
theorem zy_R_3 : u_lay "KeptItems$Reading" zF_R 3 ∈ zT := zin 112 (by decide +kernel) (by decide +kernel)
theorem zy_R : ∀ w ∈ u_ws "KeptItems$Reading" zF_R 4, w ∈ zT := by
  intro w hw
  obtain ⟨k, hk, rfl⟩ := List.mem_map.mp hw
  have hk := List.mem_range.mp hk
  match k, hk with
  | 0, _ => exact zy_R_0
  | 1, _ => exact zy_R_1
  | 2, _ => exact zy_R_2
  | 3, _ => exact zy_R_3
  | k + 4, hk => exact absurd hk (by omega)
theorem zy_S_0 : u_lay "KeptItems$Source" zF_S 0 ∈ zT := zin 51 (by decide +kernel) (by decide +kernel)
theorem zy_S_1 : u_lay "KeptItems$Source" zF_S 1 ∈ zT := zin 53 (by decide +kernel) (by decide +kernel)
theorem zy_S_2 : u_lay "KeptItems$Source" zF_S 2 ∈ zT := zin 55 (by decide +kernel) (by decide +kernel)
theorem zy_S_3 : u_lay "KeptItems$Source" zF_S 3 ∈ zT := zin 57 (by decide +kernel) (by decide +kernel)
theorem zy_S_4 : u_lay "KeptItems$Source" zF_S 4 ∈ zT := zin 59 (by decide +kernel) (by decide +kernel)
theorem zy_S : ∀ w ∈ u_ws "KeptItems$Source" zF_S 5, w ∈ zT := by
  intro w hw
  obtain ⟨k, hk, rfl⟩ := List.mem_map.mp hw
  have hk := List.mem_range.mp hk
  match k, hk with
  | 0, _ => exact zy_S_0
  | 1, _ => exact zy_S_1
  | 2, _ => exact zy_S_2
  | 3, _ => exact zy_S_3
  | 4, _ => exact zy_S_4
  | k + 5, hk => exact absurd hk (by omega)
theorem zy_T_0 : u_lay "KeptItems$Tree" zF_T 0 ∈ zT := zin 87 (by decide +kernel) (by decide +kernel)
theorem zy_T_1 : u_lay "KeptItems$Tree" zF_T 1 ∈ zT := zin 89 (by decide +kernel) (by decide +kernel)
theorem zy_T_2 : u_lay "KeptItems$Tree" zF_T 2 ∈ zT := zin 91 (by decide +kernel) (by decide +kernel)
theorem zy_T_3 : u_lay "KeptItems$Tree" zF_T 3 ∈ zT := zin 93 (by decide +kernel) (by decide +kernel)
theorem zy_T_4 : u_lay "KeptItems$Tree" zF_T 4 ∈ zT := zin 95 (by decide +kernel) (by decide +kernel)
theorem zy_T_5 : u_lay "KeptItems$Tree" zF_T 5 ∈ zT := zin 97 (by decide +kernel) (by decide +kernel)
theorem zy_T : ∀ w ∈ u_ws "KeptItems$Tree" zF_T 6, w ∈ zT := by
  intro w hw
  obtain ⟨k, hk, rfl⟩ := List.mem_map.mp hw
  have hk := List.mem_range.mp hk
  match k, hk with
  | 0, _ => exact zy_T_0
  | 1, _ => exact zy_T_1
  | 2, _ => exact zy_T_2
  | 3, _ => exact zy_T_3
  | 4, _ => exact zy_T_4
  | 5, _ => exact zy_T_5
  | k + 6, hk => exact absurd hk (by omega)
theorem zy_M_0 : u_lay "KeptItemsModel" zF_M 0 ∈ zT := zin 574 (by decide +kernel) (by decide +kernel)
theorem zy_M_1 : u_lay "KeptItemsModel" zF_M 1 ∈ zT := zin 576 (by decide +kernel) (by decide +kernel)
theorem zy_M_2 : u_lay "KeptItemsModel" zF_M 2 ∈ zT := zin 578 (by decide +kernel) (by decide +kernel)
theorem zy_M_3 : u_lay "KeptItemsModel" zF_M 3 ∈ zT := zin 580 (by decide +kernel) (by decide +kernel)
theorem zy_M_4 : u_lay "KeptItemsModel" zF_M 4 ∈ zT := zin 582 (by decide +kernel) (by decide +kernel)
theorem zy_M_5 : u_lay "KeptItemsModel" zF_M 5 ∈ zT := zin 584 (by decide +kernel) (by decide +kernel)
theorem zy_M_6 : u_lay "KeptItemsModel" zF_M 6 ∈ zT := zin 586 (by decide +kernel) (by decide +kernel)
theorem zy_M_7 : u_lay "KeptItemsModel" zF_M 7 ∈ zT := zin 588 (by decide +kernel) (by decide +kernel)
theorem zy_M_8 : u_lay "KeptItemsModel" zF_M 8 ∈ zT := zin 590 (by decide +kernel) (by decide +kernel)
theorem zy_M_9 : u_lay "KeptItemsModel" zF_M 9 ∈ zT := zin 592 (by decide +kernel) (by decide +kernel)
theorem zy_M_10 : u_lay "KeptItemsModel" zF_M 10 ∈ zT := zin 594 (by decide +kernel) (by decide +kernel)
theorem zy_M_11 : u_lay "KeptItemsModel" zF_M 11 ∈ zT := zin 596 (by decide +kernel) (by decide +kernel)
theorem zy_M_12 : u_lay "KeptItemsModel" zF_M 12 ∈ zT := zin 598 (by decide +kernel) (by decide +kernel)
theorem zy_M_13 : u_lay "KeptItemsModel" zF_M 13 ∈ zT := zin 600 (by decide +kernel) (by decide +kernel)
theorem zy_M_14 : u_lay "KeptItemsModel" zF_M 14 ∈ zT := zin 602 (by decide +kernel) (by decide +kernel)
theorem zy_M_15 : u_lay "KeptItemsModel" zF_M 15 ∈ zT := zin 604 (by decide +kernel) (by decide +kernel)
theorem zy_M_16 : u_lay "KeptItemsModel" zF_M 16 ∈ zT := zin 606 (by decide +kernel) (by decide +kernel)
theorem zy_M_17 : u_lay "KeptItemsModel" zF_M 17 ∈ zT := zin 608 (by decide +kernel) (by decide +kernel)
theorem zy_M_18 : u_lay "KeptItemsModel" zF_M 18 ∈ zT := zin 610 (by decide +kernel) (by decide +kernel)
theorem zy_M_19 : u_lay "KeptItemsModel" zF_M 19 ∈ zT := zin 612 (by decide +kernel) (by decide +kernel)
theorem zy_M_20 : u_lay "KeptItemsModel" zF_M 20 ∈ zT := zin 614 (by decide +kernel) (by decide +kernel)
theorem zy_M_21 : u_lay "KeptItemsModel" zF_M 21 ∈ zT := zin 616 (by decide +kernel) (by decide +kernel)
theorem zy_M_22 : u_lay "KeptItemsModel" zF_M 22 ∈ zT := zin 618 (by decide +kernel) (by decide +kernel)
theorem zy_M_23 : u_lay "KeptItemsModel" zF_M 23 ∈ zT := zin 620 (by decide +kernel) (by decide +kernel)
theorem zy_M_24 : u_lay "KeptItemsModel" zF_M 24 ∈ zT := zin 622 (by decide +kernel) (by decide +kernel)
theorem zy_M_25 : u_lay "KeptItemsModel" zF_M 25 ∈ zT := zin 624 (by decide +kernel) (by decide +kernel)
theorem zy_M_26 : u_lay "KeptItemsModel" zF_M 26 ∈ zT := zin 626 (by decide +kernel) (by decide +kernel)
theorem zy_M_27 : u_lay "KeptItemsModel" zF_M 27 ∈ zT := zin 628 (by decide +kernel) (by decide +kernel)
theorem zy_M_28 : u_lay "KeptItemsModel" zF_M 28 ∈ zT := zin 630 (by decide +kernel) (by decide +kernel)
theorem zy_M_29 : u_lay "KeptItemsModel" zF_M 29 ∈ zT := zin 632 (by decide +kernel) (by decide +kernel)
theorem zy_M_30 : u_lay "KeptItemsModel" zF_M 30 ∈ zT := zin 634 (by decide +kernel) (by decide +kernel)
theorem zy_M_31 : u_lay "KeptItemsModel" zF_M 31 ∈ zT := zin 636 (by decide +kernel) (by decide +kernel)
theorem zy_M_32 : u_lay "KeptItemsModel" zF_M 32 ∈ zT := zin 638 (by decide +kernel) (by decide +kernel)
theorem zy_M_33 : u_lay "KeptItemsModel" zF_M 33 ∈ zT := zin 640 (by decide +kernel) (by decide +kernel)
theorem zy_M_34 : u_lay "KeptItemsModel" zF_M 34 ∈ zT := zin 642 (by decide +kernel) (by decide +kernel)
theorem zy_M_35 : u_lay "KeptItemsModel" zF_M 35 ∈ zT := zin 644 (by decide +kernel) (by decide +kernel)
theorem zy_M_36 : u_lay "KeptItemsModel" zF_M 36 ∈ zT := zin 646 (by decide +kernel) (by decide +kernel)
theorem zy_M_37 : u_lay "KeptItemsModel" zF_M 37 ∈ zT := zin 648 (by decide +kernel) (by decide +kernel)
theorem zy_M_38 : u_lay "KeptItemsModel" zF_M 38 ∈ zT := zin 650 (by decide +kernel) (by decide +kernel)
theorem zy_M_39 : u_lay "KeptItemsModel" zF_M 39 ∈ zT := zin 652 (by decide +kernel) (by decide +kernel)
theorem zy_M_40 : u_lay "KeptItemsModel" zF_M 40 ∈ zT := zin 654 (by decide +kernel) (by decide +kernel)
theorem zy_M_41 : u_lay "KeptItemsModel" zF_M 41 ∈ zT := zin 656 (by decide +kernel) (by decide +kernel)
theorem zy_M_42 : u_lay "KeptItemsModel" zF_M 42 ∈ zT := zin 658 (by decide +kernel) (by decide +kernel)
theorem zy_M : ∀ w ∈ u_ws "KeptItemsModel" zF_M 43, w ∈ zT := by
  intro w hw
  obtain ⟨k, hk, rfl⟩ := List.mem_map.mp hw
  have hk := List.mem_range.mp hk
  match k, hk with
  | 0, _ => exact zy_M_0
  | 1, _ => exact zy_M_1
  | 2, _ => exact zy_M_2
  | 3, _ => exact zy_M_3
  | 4, _ => exact zy_M_4
  | 5, _ => exact zy_M_5
  | 6, _ => exact zy_M_6
  | 7, _ => exact zy_M_7
  | 8, _ => exact zy_M_8
  | 9, _ => exact zy_M_9
  | 10, _ => exact zy_M_10
  | 11, _ => exact zy_M_11
  | 12, _ => exact zy_M_12
  | 13, _ => exact zy_M_13
  | 14, _ => exact zy_M_14
  | 15, _ => exact zy_M_15
  | 16, _ => exact zy_M_16
  | 17, _ => exact zy_M_17
  | 18, _ => exact zy_M_18
  | 19, _ => exact zy_M_19
  | 20, _ => exact zy_M_20
  | 21, _ => exact zy_M_21
  | 22, _ => exact zy_M_22
  | 23, _ => exact zy_M_23
  | 24, _ => exact zy_M_24
  | 25, _ => exact zy_M_25
  | 26, _ => exact zy_M_26
  | 27, _ => exact zy_M_27
  | 28, _ => exact zy_M_28
  | 29, _ => exact zy_M_29
  | 30, _ => exact zy_M_30
  | 31, _ => exact zy_M_31
  | 32, _ => exact zy_M_32
  | 33, _ => exact zy_M_33
  | 34, _ => exact zy_M_34
  | 35, _ => exact zy_M_35
  | 36, _ => exact zy_M_36
  | 37, _ => exact zy_M_37
  | 38, _ => exact zy_M_38
  | 39, _ => exact zy_M_39
  | 40, _ => exact zy_M_40
  | 41, _ => exact zy_M_41
  | 42, _ => exact zy_M_42
  | k + 43, hk => exact absurd hk (by omega)
theorem zcl_in {ci : Nat} {C : String} {T : u_T} {N : Nat} (h : zcl[ci]? = some (C, T, N)) : ∀ w ∈ u_ws C T N, w ∈ zT := by
  match ci, h with
  | 0, h => cases h; exact zy_K
  | 1, h => cases h; exact zy_R
  | 2, h => cases h; exact zy_S
  | 3, h => cases h; exact zy_T
  | 4, h => cases h; exact zy_M
  | k + 5, h => simp [zcl] at h
theorem zcl_ty {ci : Nat} {C : String} {T : u_T} {N : Nat} (h : zcl[ci]? = some (C, T, N)) : ∃ ty0 : Nat → FieldType, (∀ k, k < N → parseFieldDescriptor (T k).2.2.1 = some (ty0 k)) ∧ ∀ a, a < N → ∀ b, b < N → a ≠ b → (T a).2.1 ≠ (T b).2.1 := by
  match ci, h with
  | 0, h => cases h; exact ⟨zt_K, zt_K_ok, zn_K_ok⟩
  | 1, h => cases h; exact ⟨zt_R, zt_R_ok, zn_R_ok⟩
  | 2, h => cases h; exact ⟨zt_S, zt_S_ok, zn_S_ok⟩
  | 3, h => cases h; exact ⟨zt_T, zt_T_ok, zn_T_ok⟩
  | 4, h => cases h; exact ⟨zt_M, zt_M_ok, zn_M_ok⟩
  | k + 5, h => simp [zcl] at h
theorem zsh_all : zsh.all (fun q => match q with | .inl (t, n) => decide (t < 4) && decide (n < 200) | .inr _ => true) = true := by decide
theorem zsh_t {o t n : Nat} (h : zsh[o]? = some (.inl (t, n))) : t < 4 := by
  have := List.all_eq_true.mp zsh_all _ (List.mem_of_getElem? h)
  simp at this; exact this.1
theorem zsh_len {o t n : Nat} (h : zsh[o]? = some (.inl (t, n))) : n < 200 := by
  have := List.all_eq_true.mp zsh_all _ (List.mem_of_getElem? h)
  simp at this; exact this.2
theorem zsh_l3 : (zsh.take 53).all (fun q => match q with | .inl (t, _) => decide (t ≠ 3) | .inr _ => true) = true := by decide
theorem zsh_l3q {q n : Nat} (h : zsh[q]? = some (.inl (3, n))) : q = 53 := by
  have hq := (List.getElem?_eq_some_iff.mp h).1
  have hl : zsh.length = 54 := by decide
  by_cases hlt : q < 53
  · have h2 : (zsh.take 53)[q]? = some (.inl (3, n)) := by rw [List.getElem?_take, if_pos hlt, h]
    have := List.all_eq_true.mp zsh_l3 _ (List.mem_of_getElem? h2)
    simp at this
  · omega
theorem zsh_l {q n o : Nat} (h : zsh[q]? = some (.inl (3, n))) (h2 : zsh[o]? = some (.inl (3, 1))) : q = o := (zsh_l3q h).trans (zsh_l3q h2).symm
theorem zcp_nat : Jvm.Cond.native arraycopyName ∈ zT := zin 289 (by decide +kernel) (by decide +kernel)
theorem zcp_st : Jvm.Cond.static arraycopyName ∈ zT := zin 288 (by decide +kernel) (by decide +kernel)
theorem zcp_ini : Jvm.Cond.initialized "java/lang/System" ∈ zT := zin 11 (by decide +kernel) (by decide +kernel)
theorem zmx_st : Jvm.Cond.static Lib.Math.max.name ∈ zT := zin 349 (by decide +kernel) (by decide +kernel)
theorem zmn_st : Jvm.Cond.static Lib.Math.min.name ∈ zT := zin 352 (by decide +kernel) (by decide +kernel)
theorem zmx_ini : Jvm.Cond.initialized "java/lang/Math" ∈ zT := zin 14 (by decide +kernel) (by decide +kernel)
theorem zmx_co : Jvm.Cond.code Lib.Math.max.name Lib.Math.max.code 2 (some .int) ∈ zT := zin 350 (by decide +kernel) (by decide +kernel)
theorem zmn_co : Jvm.Cond.code Lib.Math.min.name Lib.Math.min.code 2 (some .int) ∈ zT := zin 353 (by decide +kernel) (by decide +kernel)
theorem zcp_words : nativeFrameWords "java/lang/System" "arraycopy" 5 + 11 + 8 ≤ 64 := by decide +kernel
def zso : String := "KeptItems$Source"
def zsi : Nat := 67
def zstx : String := "=;+-*(){},"
def zsn : Nat := 10
def zsb : List Int32 := [61, 59, 43, 45, 42, 40, 41, 123, 125, 44]
end
section
/- A small machine over places: ints in (place, slot), references in (place, slot), one long. -/
abbrev zM : Type := (Nat → Nat → Int32) × (Nat → Nat → Nat) × Int64
abbrev zQ : Type := Nat → (Nat → Value) → List Value → zM → Prop
abbrev zX : Type := Nat → zY → Nat → (Nat → Value) → List Value → zM → zQ → Prop
def zu (L : Nat → Value) (k : Nat) (v : Value) : Nat → Value := fun i => bif Nat.beq i k then v else L i
def zI (M : zM) (o k : Nat) (x : Int32) : zM := (fun a => if a = o then upd (M.1 o) k x else M.1 a, M.2.1, M.2.2)
def zP (M : zM) (o k p : Nat) : zM := (M.1, (fun a i => if a = o ∧ i = k then p else M.2.1 a i), M.2.2)
def zJ (M : zM) (x : Int64) : zM := (M.1, M.2.1, x)
def zCp (M : zM) (o o' sp dp n : Nat) : zM := (fun a => if a = o' then va_cpy (M.1 o) (M.1 o') sp dp n else M.1 a, M.2.1, M.2.2)
def zconst : Instr → Option (Int32 × Nat)
  | .iconst n => some (Int32.ofInt n, 1)
  | .bipush n => some ((Int8.ofInt n).toInt32, 2)
  | .sipush n => some ((Int16.ofInt n).toInt32, 3)
  | _ => none
def zil : Instr → Option (Nat × Nat)
  | .iload_n k => some (k.val, 1)
  | .iload i => some (i, 2)
  | _ => none
def zal : Instr → Option (Nat × Nat)
  | .aload_n k => some (k.val, 1)
  | .aload i => some (i, 2)
  | _ => none
def zis : Instr → Option (Nat × Nat)
  | .istore_n k => some (k.val, 1)
  | .istore i => some (i, 2)
  | _ => none
def zas : Instr → Option (Nat × Nat)
  | .astore_n k => some (k.val, 1)
  | .astore i => some (i, 2)
  | _ => none
def zbin : Instr → Int32 → Int32 → Option Int32
  | .iadd, x, y => some (x + y)
  | .isub, x, y => some (x - y)
  | .imul, x, y => some (x * y)
  | .iand, x, y => some (x &&& y)
  | .ishr, x, y => some (x >>> (y &&& 31))
  | .idiv, x, y => if y = 0 then none else some (x / y)
  | .irem, x, y => if y = 0 then none else some (x - x / y * y)
  | _, _, _ => none
def zun : Instr → Int32 → Option Int32
  | .ineg, x => some (-x)
  | .i2c, x => some (x.toUInt32 % 65536).toInt32
  | .i2b, x => some x.toInt8.toInt32
  | _, _ => none
def zstk : Instr → List Value → Option (List Value)
  | .dup, a :: r => if a.category = 1 then some (a :: a :: r) else none
  | .pop, a :: r => if a.category = 1 then some r else none
  | .dup_x1, a :: b :: r => if a.category = 1 ∧ b.category = 1 then some (a :: b :: a :: r) else none
  | .dup_x2, a :: b :: e :: r => if a.category = 1 ∧ b.category = 1 ∧ e.category = 1 then some (a :: b :: e :: a :: r) else none
  | .dup2, a :: b :: r => if a.category = 1 ∧ b.category = 1 then some (a :: b :: a :: b :: r) else none
  | _, _ => none
def zcond : Jvm.ClassFile.Cond → Int32 → Int32 → Prop
  | .eq, x, y => x = y
  | .ne, x, y => ¬ x = y
  | .lt, x, y => x < y
  | .ge, x, y => y ≤ x
  | .gt, x, y => y < x
  | .le, x, y => x ≤ y
def zld : Instr → Option Nat
  | .iaload => some 0
  | .caload => some 1
  | .baload => some 2
  | _ => none
def zst : Instr → Option Nat
  | .iastore => some 0
  | .castore => some 1
  | .bastore => some 2
  | _ => none
def ztt : Nat → FieldType
  | 0 => .int
  | 1 => .char
  | 2 => .boolean
  | _ => .long
def znr (t : Nat) (x : Int32) : Int32 := if t = 0 then x else vp_nar (ztt t) x
/-- a field's link: class number, slot, is it a reference -/
def zFld (own : String) (idx ci k : Nat) (r : Bool) : Prop := ∃ (C : String) (T : u_T) (N : Nat), zcl[ci]? = some (C, T, N) ∧ k < N ∧ Jvm.Cond.fieldLink own idx (T k).1 (T k).2.1 (T k).2.2.1 ∈ zT ∧ (zrf ci)[k]? = some r
/-- a field that may be written: its type -/
def zFlw (ci k : Nat) (ty : FieldType) : Prop := ∃ (C : String) (T : u_T) (N : Nat), zcl[ci]? = some (C, T, N) ∧ (T k).2.2.2 = false ∧ parseFieldDescriptor (T k).2.2.1 = some ty
/-- a call's link -/
def zLk (own : String) (idx : Nat) (y : zY) (n : Nat) : Prop := (Jvm.Cond.methodLink own idx y.1 ∈ zT ∧ Jvm.Cond.initialized y.1.cls ∈ zT ∧ Jvm.Cond.code y.1 y.2.1 y.2.2.1 y.2.2.2 ∈ zT) ∧ plainName y.1.cls = true ∧ (y.1.cls ≠ "java/lang/invoke/MethodHandle" ∧ y.1.cls ≠ "java/lang/invoke/VarHandle" ∧ (parseMethodDescriptor y.1.desc).map (fun d => d.parameters.length) = some n) ∧ y.2.2.1 ≤ 40
def zLkS (own : String) (idx : Nat) (y : zY) (n : Nat) : Prop := zLk own idx y n ∧ Jvm.Cond.static y.1 ∈ zT
def zLkV (own : String) (idx : Nat) (y : zY) (n : Nat) : Prop := zLk own idx y n ∧ Jvm.Cond.instanceMethod y.1 ∈ zT ∧ Jvm.Cond.selects y.1.cls y.1 y.1 ∈ zT
def zarg (As : List Value) : Nat → Value := fun i => As.getD i .null
def zpush : Option Int32 → List Value → List Value
  | none, r => r
  | some x, r => .int x :: r
/-- the frame of y stands at its return, with this answer -/
def zEnd (y : zY) (pc : Nat) (st : List Value) : Option Int32 → Prop
  | none => decode y.2.1 pc = .ok (.return_, 1) ∧ st = [] ∧ y.2.2.2 = none
  | some x => decode y.2.1 pc = .ok (.ireturn, 1) ∧ st = [.int x] ∧ ∃ ty, y.2.2.2 = some ty ∧ narrow ty (.int x) = .int x
def zcat (st : List Value) : Nat := (st.map fun v => v.category).sum
/-- the receiver: an object of the world, or the string of signs -/
def zrec (o : Nat) (C : String) : Prop := (∃ (ci : Nat) (T : u_T) (N : Nat), zsh[o]? = some (.inr ci) ∧ zcl[ci]? = some (C, T, N)) ∨ (o = 1001 ∧ C = "java/lang/String")
section
variable (X : zX) (Lx : Nat) (xs : Nat → Int32)
def zr_done : Prop := ∀ d y pc L st M (Q : zQ), Q pc L st M → X d y pc L st M Q
def zr_const : Prop := ∀ d y pc L st M Q ins len v, decode y.2.1 pc = .ok (ins, len) → zconst ins = some (v, len) → X d y (pc + len) L (.int v :: st) M Q → X d y pc L st M Q
def zr_il : Prop := ∀ d y pc L st M Q ins len i x, decode y.2.1 pc = .ok (ins, len) → zil ins = some (i, len) → L i = .int x → X d y (pc + len) L (.int x :: st) M Q → X d y pc L st M Q
def zr_al : Prop := ∀ d y pc L st M Q ins len i x, decode y.2.1 pc = .ok (ins, len) → zal ins = some (i, len) → L i = .ref x → X d y (pc + len) L (.ref x :: st) M Q → X d y pc L st M Q
def zr_is : Prop := ∀ d y pc L st M Q ins len i x, decode y.2.1 pc = .ok (ins, len) → zis ins = some (i, len) → i < y.2.2.1 → X d y (pc + len) (zu L i (.int x)) st M Q → X d y pc L (.int x :: st) M Q
def zr_as : Prop := ∀ d y pc L st M Q ins len i x, decode y.2.1 pc = .ok (ins, len) → zas ins = some (i, len) → i < y.2.2.1 → X d y (pc + len) (zu L i (.ref x)) st M Q → X d y pc L (.ref x :: st) M Q
def zr_inc : Prop := ∀ d y pc L st M Q i n x, decode y.2.1 pc = .ok (.iinc i n, 3) → L i = .int x → X d y (pc + 3) (zu L i (.int (x + Int32.ofInt n))) st M Q → X d y pc L st M Q
def zr_bin : Prop := ∀ d y pc L st M Q ins a b v, decode y.2.1 pc = .ok (ins, 1) → zbin ins a b = some v → X d y (pc + 1) L (.int v :: st) M Q → X d y pc L (.int b :: .int a :: st) M Q
def zr_un : Prop := ∀ d y pc L st M Q ins a v, decode y.2.1 pc = .ok (ins, 1) → zun ins a = some v → X d y (pc + 1) L (.int v :: st) M Q → X d y pc L (.int a :: st) M Q
def zr_stk : Prop := ∀ d y pc L st st' M Q ins, decode y.2.1 pc = .ok (ins, 1) → zstk ins st = some st' → X d y (pc + 1) L st' M Q → X d y pc L st M Q
def zr_icmp : Prop := ∀ d y pc L st M Q op off (tgt : Nat) a b, decode y.2.1 pc = .ok (.if_icmp op off, 3) → (pc : Int) + off = (tgt : Int) → (zcond op a b → X d y tgt L st M Q) → (¬ zcond op a b → X d y (pc + 3) L st M Q) → X d y pc L (.int b :: .int a :: st) M Q
def zr_if : Prop := ∀ d y pc L st M Q op off (tgt : Nat) a, decode y.2.1 pc = .ok (.ifCond op off, 3) → (pc : Int) + off = (tgt : Int) → (zcond op a 0 → X d y tgt L st M Q) → (¬ zcond op a 0 → X d y (pc + 3) L st M Q) → X d y pc L (.int a :: st) M Q
def zr_goto : Prop := ∀ d y pc L st M Q off (tgt : Nat), decode y.2.1 pc = .ok (.goto off, 3) → (pc : Int) + off = (tgt : Int) → X d y tgt L st M Q → X d y pc L st M Q
def zr_tin : Prop := ∀ d y pc L st M Q dflt lo hi offs len off (tgt : Nat) (a : Int32), decode y.2.1 pc = .ok (.tableswitch dflt lo hi offs, len) → ¬ a.toInt < lo → ¬ hi < a.toInt → offs[(a.toInt - lo).toNat]? = some off → (pc : Int) + off = (tgt : Int) → X d y tgt L st M Q → X d y pc L (.int a :: st) M Q
def zr_tout : Prop := ∀ d y pc L st M Q dflt lo hi offs len (tgt : Nat) (a : Int32), decode y.2.1 pc = .ok (.tableswitch dflt lo hi offs, len) → (a.toInt < lo ∨ hi < a.toInt) → (pc : Int) + dflt = (tgt : Int) → X d y tgt L st M Q → X d y pc L (.int a :: st) M Q
def zr_geti : Prop := ∀ d y pc L st M Q idx o ci k, decode y.2.1 pc = .ok (.getfield idx, 3) → zFld y.1.cls idx ci k false → zsh[o]? = some (.inr ci) → X d y (pc + 3) L (.int (M.1 o k) :: st) M Q → X d y pc L (.ref o :: st) M Q
def zr_getr : Prop := ∀ d y pc L st M Q idx o ci k, decode y.2.1 pc = .ok (.getfield idx, 3) → zFld y.1.cls idx ci k true → zsh[o]? = some (.inr ci) → X d y (pc + 3) L (.ref (M.2.1 o k) :: st) M Q → X d y pc L (.ref o :: st) M Q
def zr_puti : Prop := ∀ d y pc L st M Q idx o ci k x ty, decode y.2.1 pc = .ok (.putfield idx, 3) → zFld y.1.cls idx ci k false → zFlw ci k ty → zsh[o]? = some (.inr ci) → narrow ty (.int x) = .int x → fits ty (.int x) = true → X d y (pc + 3) L st (zI M o k x) Q → X d y pc L (.int x :: .ref o :: st) M Q
def zr_putr : Prop := ∀ d y pc L st M Q idx o ci k x C, decode y.2.1 pc = .ok (.putfield idx, 3) → zFld y.1.cls idx ci k true → zFlw ci k (.object C) → zsh[o]? = some (.inr ci) → X d y (pc + 3) L st (zP M o k x) Q → X d y pc L (.ref x :: .ref o :: st) M Q
def zr_ald : Prop := ∀ d y pc L st M Q ins t o n i, decode y.2.1 pc = .ok (ins, 1) → zld ins = some t → zsh[o]? = some (.inl (t, n)) → vp_in i n → X d y (pc + 1) L (.int (M.1 o i.toNatClampNeg) :: st) M Q → X d y pc L (.int i :: .ref o :: st) M Q
def zr_ast : Prop := ∀ d y pc L st M Q ins t o n i x, decode y.2.1 pc = .ok (ins, 1) → zst ins = some t → zsh[o]? = some (.inl (t, n)) → vp_in i n → X d y (pc + 1) L st (zI M o i.toNatClampNeg (znr t x)) Q → X d y pc L (.int x :: .int i :: .ref o :: st) M Q
def zr_alen : Prop := ∀ d y pc L st M Q t o n, decode y.2.1 pc = .ok (.arraylength, 1) → zsh[o]? = some (.inl (t, n)) → X d y (pc + 1) L (.int (nI n) :: st) M Q → X d y pc L (.ref o :: st) M Q
def zr_lald : Prop := ∀ d y pc L st M Q o i, decode y.2.1 pc = .ok (.laload, 1) → zsh[o]? = some (.inl (3, 1)) → vp_in i 1 → X d y (pc + 1) L (.long M.2.2 :: st) M Q → X d y pc L (.int i :: .ref o :: st) M Q
def zr_last : Prop := ∀ d y pc L st M Q o i x, decode y.2.1 pc = .ok (.lastore, 1) → zsh[o]? = some (.inl (3, 1)) → vp_in i 1 → X d y (pc + 1) L st (zJ M x) Q → X d y pc L (.long x :: .int i :: .ref o :: st) M Q
def zr_i2l : Prop := ∀ d y pc L st M Q (x : Int32), decode y.2.1 pc = .ok (.i2l, 1) → X d y (pc + 1) L (.long x.toInt64 :: st) M Q → X d y pc L (.int x :: st) M Q
def zr_lcmp : Prop := ∀ d y pc L st M Q (a b : Int64), decode y.2.1 pc = .ok (.lcmp, 1) → X d y (pc + 1) L (.int (lg_cmp a b) :: st) M Q → X d y pc L (.long b :: .long a :: st) M Q
def zr_sld : Prop := ∀ d y pc L st M Q i, decode y.2.1 pc = .ok (.iaload, 1) → vp_in i Lx → X d y (pc + 1) L (.int (xs i.toNatClampNeg) :: st) M Q → X d y pc L (.int i :: .ref 1000 :: st) M Q
def zr_slen : Prop := ∀ d y pc L st M Q, decode y.2.1 pc = .ok (.arraylength, 1) → X d y (pc + 1) L (.int (nI Lx) :: st) M Q → X d y pc L (.ref 1000 :: st) M Q
def zr_copy : Prop := ∀ d y pc L st M Q idx t o n o' n' sp dp k, decode y.2.1 pc = .ok (.invokestatic idx, 3) → Jvm.Cond.methodLink y.1.cls idx arraycopyName ∈ zT → zsh[o]? = some (.inl (t, n)) → zsh[o']? = some (.inl (t, n')) → (t = 0 ∨ t = 1) → sp + k ≤ n → dp + k ≤ n' → (∀ i, i < k → fits (ztt t) (.int (M.1 o (sp + i))) = true) → zcat st ≤ 8 → X (d + 1) y (pc + 3) L st (zCp M o o' sp dp k) Q → X (d + 1) y pc L (.int (nI k) :: .int (nI dp) :: .ref o' :: .int (nI sp) :: .ref o :: st) M Q
def zr_max : Prop := ∀ d y pc L st M Q idx a b, decode y.2.1 pc = .ok (.invokestatic idx, 3) → Jvm.Cond.methodLink y.1.cls idx Lib.Math.max.name ∈ zT → zcat st ≤ 8 → X (d + 1) y (pc + 3) L (.int (if a < b then b else a) :: st) M Q → X (d + 1) y pc L (.int b :: .int a :: st) M Q
def zr_min : Prop := ∀ d y pc L st M Q idx a b, decode y.2.1 pc = .ok (.invokestatic idx, 3) → Jvm.Cond.methodLink y.1.cls idx Lib.Math.min.name ∈ zT → zcat st ≤ 8 → X (d + 1) y (pc + 3) L (.int (if b < a then b else a) :: st) M Q → X (d + 1) y pc L (.int b :: .int a :: st) M Q
def zr_ldcS : Prop := ∀ d y pc L st M Q, decode y.2.1 pc = .ok (.ldc zsi, 2) → y.1.cls = zso → X d y (pc + 2) L (.ref 1001 :: st) M Q → X d y pc L st M Q
def zr_sval : Prop := ∀ d y pc L st M Q idx, decode y.2.1 pc = .ok (.getfield idx, 3) → Jvm.Cond.fieldLink y.1.cls idx "java/lang/String" "value" "[B" ∈ zT → X d y (pc + 3) L (.ref 1002 :: st) M Q → X d y pc L (.ref 1001 :: st) M Q
def zr_scod : Prop := ∀ d y pc L st M Q idx, decode y.2.1 pc = .ok (.getfield idx, 3) → Jvm.Cond.fieldLink y.1.cls idx "java/lang/String" "coder" "B" ∈ zT → X d y (pc + 3) L (.int 0 :: st) M Q → X d y pc L (.ref 1001 :: st) M Q
def zr_scmp : Prop := ∀ d y pc L st M Q idx, decode y.2.1 pc = .ok (.getstatic idx, 3) → Jvm.Cond.fieldLink y.1.cls idx "java/lang/String" "COMPACT_STRINGS" "Z" ∈ zT → X d y (pc + 3) L (.int 1 :: st) M Q → X d y pc L st M Q
def zr_sbld : Prop := ∀ d y pc L st M Q i, decode y.2.1 pc = .ok (.baload, 1) → vp_in i zsn → X d y (pc + 1) L (.int (zsb.getD i.toNatClampNeg 0) :: st) M Q → X d y pc L (.int i :: .ref 1002 :: st) M Q
def zr_sblen : Prop := ∀ d y pc L st M Q, decode y.2.1 pc = .ok (.arraylength, 1) → X d y (pc + 1) L (.int (nI zsn) :: st) M Q → X d y pc L (.ref 1002 :: st) M Q
def zr_callS : Prop := ∀ d y pc L st M Q idx (k : zY) (As : List Value) (R : Option Int32 → zM → Prop), decode y.2.1 pc = .ok (.invokestatic idx, 3) → zLkS y.1.cls idx k As.length → (∀ v ∈ As, v.category = 1) → As.length ≤ k.2.2.1 → zcat st ≤ 8 → X d k 0 (zarg As) [] M (fun pc' _ st' M' => ∃ o, zEnd k pc' st' o ∧ R o M') → (∀ o M', R o M' → X (d + 1) y (pc + 3) L (zpush o st) M' Q) → X (d + 1) y pc L (As.reverse ++ st) M Q
def zr_callV : Prop := ∀ d y pc L st M Q idx (k : zY) (b : Nat) (As : List Value) (R : Option Int32 → zM → Prop), decode y.2.1 pc = .ok (.invokevirtual idx, 3) → zLkV y.1.cls idx k As.length → zrec b k.1.cls → (∀ v ∈ As, v.category = 1) → As.length + 1 ≤ k.2.2.1 → zcat st ≤ 8 → X d k 0 (zarg (.ref b :: As)) [] M (fun pc' _ st' M' => ∃ o, zEnd k pc' st' o ∧ R o M') → (∀ o M', R o M' → X (d + 1) y (pc + 3) L (zpush o st) M' Q) → X (d + 1) y pc L (As.reverse ++ .ref b :: st) M Q
end
def zRules (Lx : Nat) (xs : Nat → Int32) (X : zX) : Prop := zr_done X ∧ zr_const X ∧ zr_il X ∧ zr_al X ∧ zr_is X ∧ zr_as X ∧ zr_inc X ∧ zr_bin X ∧ zr_un X ∧ zr_stk X ∧ zr_icmp X ∧ zr_if X ∧ zr_goto X ∧ zr_tin X ∧ zr_tout X ∧ zr_geti X ∧ zr_getr X ∧ zr_puti X ∧ zr_putr X ∧ zr_ald X ∧ zr_ast X ∧ zr_alen X ∧ zr_lald X ∧ zr_last X ∧ zr_i2l X ∧ zr_lcmp X ∧ zr_sld X Lx xs ∧ zr_slen X Lx ∧ zr_copy X ∧ zr_max X ∧ zr_min X ∧ zr_ldcS X ∧ zr_sval X ∧ zr_scod X ∧ zr_scmp X ∧ zr_sbld X ∧ zr_sblen X ∧ zr_callS X ∧ zr_callV X
def Ev (Lx : Nat) (xs : Nat → Int32) : zX := fun d y pc L st M Q => ∀ X : zX, zRules Lx xs X → X d y pc L st M Q
section
variable {Lx : Nat} {xs : Nat → Int32}
theorem ev_done {d : Nat} {y : zY} {pc : Nat} {L : Nat → Value} {st : List Value} {M : zM} {Q : zQ} (h0 : Q pc L st M) : Ev Lx xs d y pc L st M Q := fun X h => h.1 _ _ _ _ _ _ _ h0
theorem ev_const {d : Nat} {y : zY} {pc : Nat} {L : Nat → Value} {st : List Value} {M : zM} {Q : zQ} {ins : Instr} {len : Nat} {v : Int32} (h0 : decode y.2.1 pc = .ok (ins, len)) (h1 : zconst ins = some (v, len)) (h2 : Ev Lx xs d y (pc + len) L (.int v :: st) M Q) : Ev Lx xs d y pc L st M Q := fun X h => h.2.1 _ _ _ _ _ _ _ _ _ _ h0 h1 (h2 X h)
theorem ev_il {d : Nat} {y : zY} {pc : Nat} {L : Nat → Value} {st : List Value} {M : zM} {Q : zQ} {ins : Instr} {len : Nat} {i : Nat} {x : Int32} (h0 : decode y.2.1 pc = .ok (ins, len)) (h1 : zil ins = some (i, len)) (h2 : L i = .int x) (h3 : Ev Lx xs d y (pc + len) L (.int x :: st) M Q) : Ev Lx xs d y pc L st M Q := fun X h => h.2.2.1 _ _ _ _ _ _ _ _ _ _ _ h0 h1 h2 (h3 X h)
theorem ev_al {d : Nat} {y : zY} {pc : Nat} {L : Nat → Value} {st : List Value} {M : zM} {Q : zQ} {ins : Instr} {len : Nat} {i : Nat} {x : Nat} (h0 : decode y.2.1 pc = .ok (ins, len)) (h1 : zal ins = some (i, len)) (h2 : L i = .ref x) (h3 : Ev Lx xs d y (pc + len) L (.ref x :: st) M Q) : Ev Lx xs d y pc L st M Q := fun X h => h.2.2.2.1 _ _ _ _ _ _ _ _ _ _ _ h0 h1 h2 (h3 X h)
theorem ev_is {d : Nat} {y : zY} {pc : Nat} {L : Nat → Value} {st : List Value} {M : zM} {Q : zQ} {ins : Instr} {len : Nat} {i : Nat} {x : Int32} (h0 : decode y.2.1 pc = .ok (ins, len)) (h1 : zis ins = some (i, len)) (h2 : i < y.2.2.1) (h3 : Ev Lx xs d y (pc + len) (zu L i (.int x)) st M Q) : Ev Lx xs d y pc L (.int x :: st) M Q := fun X h => h.2.2.2.2.1 _ _ _ _ _ _ _ _ _ _ _ h0 h1 h2 (h3 X h)
theorem ev_as {d : Nat} {y : zY} {pc : Nat} {L : Nat → Value} {st : List Value} {M : zM} {Q : zQ} {ins : Instr} {len : Nat} {i : Nat} {x : Nat} (h0 : decode y.2.1 pc = .ok (ins, len)) (h1 : zas ins = some (i, len)) (h2 : i < y.2.2.1) (h3 : Ev Lx xs d y (pc + len) (zu L i (.ref x)) st M Q) : Ev Lx xs d y pc L (.ref x :: st) M Q := fun X h => h.2.2.2.2.2.1 _ _ _ _ _ _ _ _ _ _ _ h0 h1 h2 (h3 X h)
theorem ev_inc {d : Nat} {y : zY} {pc : Nat} {L : Nat → Value} {st : List Value} {M : zM} {Q : zQ} {i : Nat} {n : Int} {x : Int32} (h0 : decode y.2.1 pc = .ok (.iinc i n, 3)) (h1 : L i = .int x) (h2 : Ev Lx xs d y (pc + 3) (zu L i (.int (x + Int32.ofInt n))) st M Q) : Ev Lx xs d y pc L st M Q := fun X h => h.2.2.2.2.2.2.1 _ _ _ _ _ _ _ _ _ _ h0 h1 (h2 X h)
theorem ev_bin {d : Nat} {y : zY} {pc : Nat} {L : Nat → Value} {st : List Value} {M : zM} {Q : zQ} {ins : Instr} {a : Int32} {b : Int32} {v : Int32} (h0 : decode y.2.1 pc = .ok (ins, 1)) (h1 : zbin ins a b = some v) (h2 : Ev Lx xs d y (pc + 1) L (.int v :: st) M Q) : Ev Lx xs d y pc L (.int b :: .int a :: st) M Q := fun X h => h.2.2.2.2.2.2.2.1 _ _ _ _ _ _ _ _ _ _ _ h0 h1 (h2 X h)
theorem ev_un {d : Nat} {y : zY} {pc : Nat} {L : Nat → Value} {st : List Value} {M : zM} {Q : zQ} {ins : Instr} {a : Int32} {v : Int32} (h0 : decode y.2.1 pc = .ok (ins, 1)) (h1 : zun ins a = some v) (h2 : Ev Lx xs d y (pc + 1) L (.int v :: st) M Q) : Ev Lx xs d y pc L (.int a :: st) M Q := fun X h => h.2.2.2.2.2.2.2.2.1 _ _ _ _ _ _ _ _ _ _ h0 h1 (h2 X h)
theorem ev_stk {d : Nat} {y : zY} {pc : Nat} {L : Nat → Value} {st : List Value} {st' : List Value} {M : zM} {Q : zQ} {ins : Instr} (h0 : decode y.2.1 pc = .ok (ins, 1)) (h1 : zstk ins st = some st') (h2 : Ev Lx xs d y (pc + 1) L st' M Q) : Ev Lx xs d y pc L st M Q := fun X h => h.2.2.2.2.2.2.2.2.2.1 _ _ _ _ _ _ _ _ _ h0 h1 (h2 X h)
theorem ev_icmp {d : Nat} {y : zY} {pc : Nat} {L : Nat → Value} {st : List Value} {M : zM} {Q : zQ} {op : Jvm.ClassFile.Cond} {off : Int} {tgt : Nat} {a : Int32} {b : Int32} (h0 : decode y.2.1 pc = .ok (.if_icmp op off, 3)) (h1 : (pc : Int) + off = (tgt : Int)) (h2 : (zcond op a b → Ev Lx xs d y tgt L st M Q)) (h3 : (¬ zcond op a b → Ev Lx xs d y (pc + 3) L st M Q)) : Ev Lx xs d y pc L (.int b :: .int a :: st) M Q := fun X h => h.2.2.2.2.2.2.2.2.2.2.1 _ _ _ _ _ _ _ _ _ _ _ _ h0 h1 (fun hh => h2 hh X h) (fun hh => h3 hh X h)
theorem ev_if {d : Nat} {y : zY} {pc : Nat} {L : Nat → Value} {st : List Value} {M : zM} {Q : zQ} {op : Jvm.ClassFile.Cond} {off : Int} {tgt : Nat} {a : Int32} (h0 : decode y.2.1 pc = .ok (.ifCond op off, 3)) (h1 : (pc : Int) + off = (tgt : Int)) (h2 : (zcond op a 0 → Ev Lx xs d y tgt L st M Q)) (h3 : (¬ zcond op a 0 → Ev Lx xs d y (pc + 3) L st M Q)) : Ev Lx xs d y pc L (.int a :: st) M Q := fun X h => h.2.2.2.2.2.2.2.2.2.2.2.1 _ _ _ _ _ _ _ _ _ _ _ h0 h1 (fun hh => h2 hh X h) (fun hh => h3 hh X h)
theorem ev_goto {d : Nat} {y : zY} {pc : Nat} {L : Nat → Value} {st : List Value} {M : zM} {Q : zQ} {off : Int} {tgt : Nat} (h0 : decode y.2.1 pc = .ok (.goto off, 3)) (h1 : (pc : Int) + off = (tgt : Int)) (h2 : Ev Lx xs d y tgt L st M Q) : Ev Lx xs d y pc L st M Q := fun X h => h.2.2.2.2.2.2.2.2.2.2.2.2.1 _ _ _ _ _ _ _ _ _ h0 h1 (h2 X h)
theorem ev_tin {d : Nat} {y : zY} {pc : Nat} {L : Nat → Value} {st : List Value} {M : zM} {Q : zQ} {dflt : Int} {lo : Int} {hi : Int} {offs : Array Int} {len : Nat} {off : Int} {tgt : Nat} {a : Int32} (h0 : decode y.2.1 pc = .ok (.tableswitch dflt lo hi offs, len)) (h1 : ¬ a.toInt < lo) (h2 : ¬ hi < a.toInt) (h3 : offs[(a.toInt - lo).toNat]? = some off) (h4 : (pc : Int) + off = (tgt : Int)) (h5 : Ev Lx xs d y tgt L st M Q) : Ev Lx xs d y pc L (.int a :: st) M Q := fun X h => h.2.2.2.2.2.2.2.2.2.2.2.2.2.1 _ _ _ _ _ _ _ _ _ _ _ _ _ _ _ h0 h1 h2 h3 h4 (h5 X h)
theorem ev_tout {d : Nat} {y : zY} {pc : Nat} {L : Nat → Value} {st : List Value} {M : zM} {Q : zQ} {dflt : Int} {lo : Int} {hi : Int} {offs : Array Int} {len : Nat} {tgt : Nat} {a : Int32} (h0 : decode y.2.1 pc = .ok (.tableswitch dflt lo hi offs, len)) (h1 : (a.toInt < lo ∨ hi < a.toInt)) (h2 : (pc : Int) + dflt = (tgt : Int)) (h3 : Ev Lx xs d y tgt L st M Q) : Ev Lx xs d y pc L (.int a :: st) M Q := fun X h => h.2.2.2.2.2.2.2.2.2.2.2.2.2.2.1 _ _ _ _ _ _ _ _ _ _ _ _ _ _ h0 h1 h2 (h3 X h)
theorem ev_geti {d : Nat} {y : zY} {pc : Nat} {L : Nat → Value} {st : List Value} {M : zM} {Q : zQ} {idx : Nat} {o : Nat} {ci : Nat} {k : Nat} (h0 : decode y.2.1 pc = .ok (.getfield idx, 3)) (h1 : zFld y.1.cls idx ci k false) (h2 : zsh[o]? = some (.inr ci)) (h3 : Ev Lx xs d y (pc + 3) L (.int (M.1 o k) :: st) M Q) : Ev Lx xs d y pc L (.ref o :: st) M Q := fun X h => h.2.2.2.2.2.2.2.2.2.2.2.2.2.2.2.1 _ _ _ _ _ _ _ _ _ _ _ h0 h1 h2 (h3 X h)
theorem ev_getr {d : Nat} {y : zY} {pc : Nat} {L : Nat → Value} {st : List Value} {M : zM} {Q : zQ} {idx : Nat} {o : Nat} {ci : Nat} {k : Nat} (h0 : decode y.2.1 pc = .ok (.getfield idx, 3)) (h1 : zFld y.1.cls idx ci k true) (h2 : zsh[o]? = some (.inr ci)) (h3 : Ev Lx xs d y (pc + 3) L (.ref (M.2.1 o k) :: st) M Q) : Ev Lx xs d y pc L (.ref o :: st) M Q := fun X h => h.2.2.2.2.2.2.2.2.2.2.2.2.2.2.2.2.1 _ _ _ _ _ _ _ _ _ _ _ h0 h1 h2 (h3 X h)
theorem ev_puti {d : Nat} {y : zY} {pc : Nat} {L : Nat → Value} {st : List Value} {M : zM} {Q : zQ} {idx : Nat} {o : Nat} {ci : Nat} {k : Nat} {x : Int32} {ty : FieldType} (h0 : decode y.2.1 pc = .ok (.putfield idx, 3)) (h1 : zFld y.1.cls idx ci k false) (h2 : zFlw ci k ty) (h3 : zsh[o]? = some (.inr ci)) (h4 : narrow ty (.int x) = .int x) (h5 : fits ty (.int x) = true) (h6 : Ev Lx xs d y (pc + 3) L st (zI M o k x) Q) : Ev Lx xs d y pc L (.int x :: .ref o :: st) M Q := fun X h => h.2.2.2.2.2.2.2.2.2.2.2.2.2.2.2.2.2.1 _ _ _ _ _ _ _ _ _ _ _ _ _ h0 h1 h2 h3 h4 h5 (h6 X h)
theorem ev_putr {d : Nat} {y : zY} {pc : Nat} {L : Nat → Value} {st : List Value} {M : zM} {Q : zQ} {idx : Nat} {o : Nat} {ci : Nat} {k : Nat} {x : Nat} {C : String} (h0 : decode y.2.1 pc = .ok (.putfield idx, 3)) (h1 : zFld y.1.cls idx ci k true) (h2 : zFlw ci k (.object C)) (h3 : zsh[o]? = some (.inr ci)) (h4 : Ev Lx xs d y (pc + 3) L st (zP M o k x) Q) : Ev Lx xs d y pc L (.ref x :: .ref o :: st) M Q := fun X h => h.2.2.2.2.2.2.2.2.2.2.2.2.2.2.2.2.2.2.1 _ _ _ _ _ _ _ _ _ _ _ _ _ h0 h1 h2 h3 (h4 X h)
theorem ev_ald {d : Nat} {y : zY} {pc : Nat} {L : Nat → Value} {st : List Value} {M : zM} {Q : zQ} {ins : Instr} {t : Nat} {o : Nat} {n : Nat} {i : Int32} (h0 : decode y.2.1 pc = .ok (ins, 1)) (h1 : zld ins = some t) (h2 : zsh[o]? = some (.inl (t, n))) (h3 : vp_in i n) (h4 : Ev Lx xs d y (pc + 1) L (.int (M.1 o i.toNatClampNeg) :: st) M Q) : Ev Lx xs d y pc L (.int i :: .ref o :: st) M Q := fun X h => h.2.2.2.2.2.2.2.2.2.2.2.2.2.2.2.2.2.2.2.1 _ _ _ _ _ _ _ _ _ _ _ _ h0 h1 h2 h3 (h4 X h)
theorem ev_ast {d : Nat} {y : zY} {pc : Nat} {L : Nat → Value} {st : List Value} {M : zM} {Q : zQ} {ins : Instr} {t : Nat} {o : Nat} {n : Nat} {i : Int32} {x : Int32} (h0 : decode y.2.1 pc = .ok (ins, 1)) (h1 : zst ins = some t) (h2 : zsh[o]? = some (.inl (t, n))) (h3 : vp_in i n) (h4 : Ev Lx xs d y (pc + 1) L st (zI M o i.toNatClampNeg (znr t x)) Q) : Ev Lx xs d y pc L (.int x :: .int i :: .ref o :: st) M Q := fun X h => h.2.2.2.2.2.2.2.2.2.2.2.2.2.2.2.2.2.2.2.2.1 _ _ _ _ _ _ _ _ _ _ _ _ _ h0 h1 h2 h3 (h4 X h)
theorem ev_alen {d : Nat} {y : zY} {pc : Nat} {L : Nat → Value} {st : List Value} {M : zM} {Q : zQ} {t : Nat} {o : Nat} {n : Nat} (h0 : decode y.2.1 pc = .ok (.arraylength, 1)) (h1 : zsh[o]? = some (.inl (t, n))) (h2 : Ev Lx xs d y (pc + 1) L (.int (nI n) :: st) M Q) : Ev Lx xs d y pc L (.ref o :: st) M Q := fun X h => h.2.2.2.2.2.2.2.2.2.2.2.2.2.2.2.2.2.2.2.2.2.1 _ _ _ _ _ _ _ _ _ _ h0 h1 (h2 X h)
theorem ev_lald {d : Nat} {y : zY} {pc : Nat} {L : Nat → Value} {st : List Value} {M : zM} {Q : zQ} {o : Nat} {i : Int32} (h0 : decode y.2.1 pc = .ok (.laload, 1)) (h1 : zsh[o]? = some (.inl (3, 1))) (h2 : vp_in i 1) (h3 : Ev Lx xs d y (pc + 1) L (.long M.2.2 :: st) M Q) : Ev Lx xs d y pc L (.int i :: .ref o :: st) M Q := fun X h => h.2.2.2.2.2.2.2.2.2.2.2.2.2.2.2.2.2.2.2.2.2.2.1 _ _ _ _ _ _ _ _ _ h0 h1 h2 (h3 X h)
theorem ev_last {d : Nat} {y : zY} {pc : Nat} {L : Nat → Value} {st : List Value} {M : zM} {Q : zQ} {o : Nat} {i : Int32} {x : Int64} (h0 : decode y.2.1 pc = .ok (.lastore, 1)) (h1 : zsh[o]? = some (.inl (3, 1))) (h2 : vp_in i 1) (h3 : Ev Lx xs d y (pc + 1) L st (zJ M x) Q) : Ev Lx xs d y pc L (.long x :: .int i :: .ref o :: st) M Q := fun X h => h.2.2.2.2.2.2.2.2.2.2.2.2.2.2.2.2.2.2.2.2.2.2.2.1 _ _ _ _ _ _ _ _ _ _ h0 h1 h2 (h3 X h)
theorem ev_i2l {d : Nat} {y : zY} {pc : Nat} {L : Nat → Value} {st : List Value} {M : zM} {Q : zQ} {x : Int32} (h0 : decode y.2.1 pc = .ok (.i2l, 1)) (h1 : Ev Lx xs d y (pc + 1) L (.long x.toInt64 :: st) M Q) : Ev Lx xs d y pc L (.int x :: st) M Q := fun X h => h.2.2.2.2.2.2.2.2.2.2.2.2.2.2.2.2.2.2.2.2.2.2.2.2.1 _ _ _ _ _ _ _ _ h0 (h1 X h)
theorem ev_lcmp {d : Nat} {y : zY} {pc : Nat} {L : Nat → Value} {st : List Value} {M : zM} {Q : zQ} {a b : Int64} (h0 : decode y.2.1 pc = .ok (.lcmp, 1)) (h1 : Ev Lx xs d y (pc + 1) L (.int (lg_cmp a b) :: st) M Q) : Ev Lx xs d y pc L (.long b :: .long a :: st) M Q := fun X h => h.2.2.2.2.2.2.2.2.2.2.2.2.2.2.2.2.2.2.2.2.2.2.2.2.2.1 _ _ _ _ _ _ _ _ _ h0 (h1 X h)
theorem ev_sld {d : Nat} {y : zY} {pc : Nat} {L : Nat → Value} {st : List Value} {M : zM} {Q : zQ} {i : Int32} (h0 : decode y.2.1 pc = .ok (.iaload, 1)) (h1 : vp_in i Lx) (h2 : Ev Lx xs d y (pc + 1) L (.int (xs i.toNatClampNeg) :: st) M Q) : Ev Lx xs d y pc L (.int i :: .ref 1000 :: st) M Q := fun X h => h.2.2.2.2.2.2.2.2.2.2.2.2.2.2.2.2.2.2.2.2.2.2.2.2.2.2.1 _ _ _ _ _ _ _ _ h0 h1 (h2 X h)
theorem ev_slen {d : Nat} {y : zY} {pc : Nat} {L : Nat → Value} {st : List Value} {M : zM} {Q : zQ} (h0 : decode y.2.1 pc = .ok (.arraylength, 1)) (h1 : Ev Lx xs d y (pc + 1) L (.int (nI Lx) :: st) M Q) : Ev Lx xs d y pc L (.ref 1000 :: st) M Q := fun X h => h.2.2.2.2.2.2.2.2.2.2.2.2.2.2.2.2.2.2.2.2.2.2.2.2.2.2.2.1 _ _ _ _ _ _ _ h0 (h1 X h)
theorem ev_copy {d : Nat} {y : zY} {pc : Nat} {L : Nat → Value} {st : List Value} {M : zM} {Q : zQ} {idx : Nat} {t : Nat} {o : Nat} {n : Nat} {o' : Nat} {n' : Nat} {sp : Nat} {dp : Nat} {k : Nat} (h0 : decode y.2.1 pc = .ok (.invokestatic idx, 3)) (h1 : Jvm.Cond.methodLink y.1.cls idx arraycopyName ∈ zT) (h2 : zsh[o]? = some (.inl (t, n))) (h3 : zsh[o']? = some (.inl (t, n'))) (h4 : (t = 0 ∨ t = 1)) (h5 : sp + k ≤ n) (h6 : dp + k ≤ n') (h7 : (∀ i, i < k → fits (ztt t) (.int (M.1 o (sp + i))) = true)) (h8 : zcat st ≤ 8) (h9 : Ev Lx xs (d + 1) y (pc + 3) L st (zCp M o o' sp dp k) Q) : Ev Lx xs (d + 1) y pc L (.int (nI k) :: .int (nI dp) :: .ref o' :: .int (nI sp) :: .ref o :: st) M Q := fun X h => h.2.2.2.2.2.2.2.2.2.2.2.2.2.2.2.2.2.2.2.2.2.2.2.2.2.2.2.2.1 _ _ _ _ _ _ _ _ _ _ _ _ _ _ _ _ h0 h1 h2 h3 h4 h5 h6 h7 h8 (h9 X h)
theorem ev_max {d : Nat} {y : zY} {pc : Nat} {L : Nat → Value} {st : List Value} {M : zM} {Q : zQ} {idx : Nat} {a : Int32} {b : Int32} (h0 : decode y.2.1 pc = .ok (.invokestatic idx, 3)) (h1 : Jvm.Cond.methodLink y.1.cls idx Lib.Math.max.name ∈ zT) (h2 : zcat st ≤ 8) (h3 : Ev Lx xs (d + 1) y (pc + 3) L (.int (if a < b then b else a) :: st) M Q) : Ev Lx xs (d + 1) y pc L (.int b :: .int a :: st) M Q := fun X h => h.2.2.2.2.2.2.2.2.2.2.2.2.2.2.2.2.2.2.2.2.2.2.2.2.2.2.2.2.2.1 _ _ _ _ _ _ _ _ _ _ h0 h1 h2 (h3 X h)
theorem ev_min {d : Nat} {y : zY} {pc : Nat} {L : Nat → Value} {st : List Value} {M : zM} {Q : zQ} {idx : Nat} {a : Int32} {b : Int32} (h0 : decode y.2.1 pc = .ok (.invokestatic idx, 3)) (h1 : Jvm.Cond.methodLink y.1.cls idx Lib.Math.min.name ∈ zT) (h2 : zcat st ≤ 8) (h3 : Ev Lx xs (d + 1) y (pc + 3) L (.int (if b < a then b else a) :: st) M Q) : Ev Lx xs (d + 1) y pc L (.int b :: .int a :: st) M Q := fun X h => h.2.2.2.2.2.2.2.2.2.2.2.2.2.2.2.2.2.2.2.2.2.2.2.2.2.2.2.2.2.2.1 _ _ _ _ _ _ _ _ _ _ h0 h1 h2 (h3 X h)
theorem ev_ldcS {d : Nat} {y : zY} {pc : Nat} {L : Nat → Value} {st : List Value} {M : zM} {Q : zQ} (h0 : decode y.2.1 pc = .ok (.ldc zsi, 2)) (h1 : y.1.cls = zso) (h2 : Ev Lx xs d y (pc + 2) L (.ref 1001 :: st) M Q) : Ev Lx xs d y pc L st M Q := fun X h => h.2.2.2.2.2.2.2.2.2.2.2.2.2.2.2.2.2.2.2.2.2.2.2.2.2.2.2.2.2.2.2.1 _ _ _ _ _ _ _ h0 h1 (h2 X h)
theorem ev_sval {d : Nat} {y : zY} {pc : Nat} {L : Nat → Value} {st : List Value} {M : zM} {Q : zQ} {idx : Nat} (h0 : decode y.2.1 pc = .ok (.getfield idx, 3)) (h1 : Jvm.Cond.fieldLink y.1.cls idx "java/lang/String" "value" "[B" ∈ zT) (h2 : Ev Lx xs d y (pc + 3) L (.ref 1002 :: st) M Q) : Ev Lx xs d y pc L (.ref 1001 :: st) M Q := fun X h => h.2.2.2.2.2.2.2.2.2.2.2.2.2.2.2.2.2.2.2.2.2.2.2.2.2.2.2.2.2.2.2.2.1 _ _ _ _ _ _ _ _ h0 h1 (h2 X h)
theorem ev_scod {d : Nat} {y : zY} {pc : Nat} {L : Nat → Value} {st : List Value} {M : zM} {Q : zQ} {idx : Nat} (h0 : decode y.2.1 pc = .ok (.getfield idx, 3)) (h1 : Jvm.Cond.fieldLink y.1.cls idx "java/lang/String" "coder" "B" ∈ zT) (h2 : Ev Lx xs d y (pc + 3) L (.int 0 :: st) M Q) : Ev Lx xs d y pc L (.ref 1001 :: st) M Q := fun X h => h.2.2.2.2.2.2.2.2.2.2.2.2.2.2.2.2.2.2.2.2.2.2.2.2.2.2.2.2.2.2.2.2.2.1 _ _ _ _ _ _ _ _ h0 h1 (h2 X h)
theorem ev_scmp {d : Nat} {y : zY} {pc : Nat} {L : Nat → Value} {st : List Value} {M : zM} {Q : zQ} {idx : Nat} (h0 : decode y.2.1 pc = .ok (.getstatic idx, 3)) (h1 : Jvm.Cond.fieldLink y.1.cls idx "java/lang/String" "COMPACT_STRINGS" "Z" ∈ zT) (h2 : Ev Lx xs d y (pc + 3) L (.int 1 :: st) M Q) : Ev Lx xs d y pc L st M Q := fun X h => h.2.2.2.2.2.2.2.2.2.2.2.2.2.2.2.2.2.2.2.2.2.2.2.2.2.2.2.2.2.2.2.2.2.2.1 _ _ _ _ _ _ _ _ h0 h1 (h2 X h)
theorem ev_sbld {d : Nat} {y : zY} {pc : Nat} {L : Nat → Value} {st : List Value} {M : zM} {Q : zQ} {i : Int32} (h0 : decode y.2.1 pc = .ok (.baload, 1)) (h1 : vp_in i zsn) (h2 : Ev Lx xs d y (pc + 1) L (.int (zsb.getD i.toNatClampNeg 0) :: st) M Q) : Ev Lx xs d y pc L (.int i :: .ref 1002 :: st) M Q := fun X h => h.2.2.2.2.2.2.2.2.2.2.2.2.2.2.2.2.2.2.2.2.2.2.2.2.2.2.2.2.2.2.2.2.2.2.2.1 _ _ _ _ _ _ _ _ h0 h1 (h2 X h)
theorem ev_sblen {d : Nat} {y : zY} {pc : Nat} {L : Nat → Value} {st : List Value} {M : zM} {Q : zQ} (h0 : decode y.2.1 pc = .ok (.arraylength, 1)) (h1 : Ev Lx xs d y (pc + 1) L (.int (nI zsn) :: st) M Q) : Ev Lx xs d y pc L (.ref 1002 :: st) M Q := fun X h => h.2.2.2.2.2.2.2.2.2.2.2.2.2.2.2.2.2.2.2.2.2.2.2.2.2.2.2.2.2.2.2.2.2.2.2.2.1 _ _ _ _ _ _ _ h0 (h1 X h)
theorem ev_callS {d : Nat} {y : zY} {pc : Nat} {L : Nat → Value} {st : List Value} {M : zM} {Q : zQ} {idx : Nat} {k : zY} {As : List Value} {R : Option Int32 → zM → Prop} (h0 : decode y.2.1 pc = .ok (.invokestatic idx, 3)) (h1 : zLkS y.1.cls idx k As.length) (h2 : (∀ v ∈ As, v.category = 1)) (h3 : As.length ≤ k.2.2.1) (h4 : zcat st ≤ 8) (h5 : Ev Lx xs d k 0 (zarg As) [] M (fun pc' _ st' M' => ∃ o, zEnd k pc' st' o ∧ R o M')) (h6 : (∀ o M', R o M' → Ev Lx xs (d + 1) y (pc + 3) L (zpush o st) M' Q)) : Ev Lx xs (d + 1) y pc L (As.reverse ++ st) M Q := fun X h => h.2.2.2.2.2.2.2.2.2.2.2.2.2.2.2.2.2.2.2.2.2.2.2.2.2.2.2.2.2.2.2.2.2.2.2.2.2.1 _ _ _ _ _ _ _ _ _ _ _ h0 h1 h2 h3 h4 (h5 X h) (fun o M' hh => h6 o M' hh X h)
theorem ev_callV {d : Nat} {y : zY} {pc : Nat} {L : Nat → Value} {st : List Value} {M : zM} {Q : zQ} {idx : Nat} {k : zY} {b : Nat} {As : List Value} {R : Option Int32 → zM → Prop} (h0 : decode y.2.1 pc = .ok (.invokevirtual idx, 3)) (h1 : zLkV y.1.cls idx k As.length) (h2 : zrec b k.1.cls) (h3 : (∀ v ∈ As, v.category = 1)) (h4 : As.length + 1 ≤ k.2.2.1) (h5 : zcat st ≤ 8) (h6 : Ev Lx xs d k 0 (zarg (.ref b :: As)) [] M (fun pc' _ st' M' => ∃ o, zEnd k pc' st' o ∧ R o M')) (h7 : (∀ o M', R o M' → Ev Lx xs (d + 1) y (pc + 3) L (zpush o st) M' Q)) : Ev Lx xs (d + 1) y pc L (As.reverse ++ .ref b :: st) M Q := fun X h => h.2.2.2.2.2.2.2.2.2.2.2.2.2.2.2.2.2.2.2.2.2.2.2.2.2.2.2.2.2.2.2.2.2.2.2.2.2.2 _ _ _ _ _ _ _ _ _ _ _ _ h0 h1 h2 h3 h4 h5 (h6 X h) (fun o M' hh => h7 o M' hh X h)
end
end
section
/- the small machine's steps are the machine's -/
def zv (ad : Nat → Nat) : Value → Value
  | .ref p => .ref (ad p)
  | v => v
theorem zv_cat (ad : Nat → Nat) (v : Value) : (zv ad v).category = v.category := by cases v <;> rfl
theorem zcat_map (ad : Nat → Nat) (st : List Value) : ((st.map (zv ad)).map fun v => v.category).sum = zcat st := by
  unfold zcat; rw [List.map_map]; congr 1; apply List.map_congr_left; intro v _; exact zv_cat ad v
def zE (dA : Nat → ClassId) (ad : Nat → Nat) (M : zM) (q : Nat) : ((Nat × Nat) ⊕ Nat) → va_E
  | .inl (t, n) => .inl (dA t, n, if t = 3 then .inr (.inl (fun j => if j = 0 then M.2.2 else 0)) else .inl (M.1 q))
  | .inr ci => .inr (ci, (List.range (zrf ci).length).map (fun k => if (zrf ci).getD k false = true then Value.ref (ad (M.2.1 q k)) else .int (M.1 q k)))
def zw (dA : Nat → ClassId) (ad : Nat → Nat) (M : zM) : va_W := zsh.mapIdx (fun q sh => (ad q, zE dA ad M q sh))
def ztys (dA : Nat → ClassId) : List (ClassId × FieldType) := [(dA 0, .int), (dA 1, .char), (dA 2, .boolean), (dA 3, .long)]
theorem zw_at {dA : Nat → ClassId} {ad : Nat → Nat} {M : zM} {q : Nat} {sh : (Nat × Nat) ⊕ Nat} (h : zsh[q]? = some sh) : (zw dA ad M)[q]? = some (ad q, zE dA ad M q sh) := by
  unfold zw; rw [List.getElem?_mapIdx, h]; rfl
theorem zw_set {dA : Nat → ClassId} {ad : Nat → Nat} {M M' : zM} {o : Nat} {sh : (Nat × Nat) ⊕ Nat} {c : va_E} (h : zsh[o]? = some sh) (hc : zE dA ad M' o sh = c) (ho : ∀ q sh, q ≠ o → zE dA ad M' q sh = zE dA ad M q sh) : (zw dA ad M).set o (ad o, c) = zw dA ad M' := by
  apply List.ext_getElem?
  intro q
  rw [List.getElem?_set]
  by_cases hq : o = q
  · subst hq
    have hlt : o < (zw dA ad M).length := by
      unfold zw; rw [List.length_mapIdx]; exact (List.getElem?_eq_some_iff.mp h).1
    rw [if_pos rfl, if_pos hlt, zw_at h, hc]
  · rw [if_neg hq]
    unfold zw
    rw [List.getElem?_mapIdx, List.getElem?_mapIdx]
    cases zsh[q]? with
    | none => rfl
    | some sh' => simp only [Option.map_some]; rw [ho q sh' (Ne.symm hq)]
theorem zE_I {dA : Nat → ClassId} {ad : Nat → Nat} {M : zM} {o k : Nat} {x : Int32} (q : Nat) (sh : (Nat × Nat) ⊕ Nat) (h : q ≠ o) : zE dA ad (zI M o k x) q sh = zE dA ad M q sh := by
  cases sh <;> simp [zE, zI, h]
theorem zE_P {dA : Nat → ClassId} {ad : Nat → Nat} {M : zM} {o k x : Nat} (q : Nat) (sh : (Nat × Nat) ⊕ Nat) (h : q ≠ o) : zE dA ad (zP M o k x) q sh = zE dA ad M q sh := by
  cases sh <;> simp [zE, zP, h]
theorem zE_C {dA : Nat → ClassId} {ad : Nat → Nat} {M : zM} {o o' sp dp n : Nat} (q : Nat) (sh : (Nat × Nat) ⊕ Nat) (h : q ≠ o') : zE dA ad (zCp M o o' sp dp n) q sh = zE dA ad M q sh := by
  cases sh <;> simp [zE, zCp, h]
theorem zw_I {dA : Nat → ClassId} {ad : Nat → Nat} {M : zM} {o t n k : Nat} {x : Int32} (h : zsh[o]? = some (.inl (t, n))) (ht : t ≠ 3) : (zw dA ad M).set o (ad o, .inl (dA t, n, .inl (upd (M.1 o) k x))) = zw dA ad (zI M o k x) :=
  zw_set h (by simp [zE, zI, ht]) (fun q sh hq => zE_I q sh hq)
theorem zw_C {dA : Nat → ClassId} {ad : Nat → Nat} {M : zM} {o o' t n sp dp k : Nat} (h : zsh[o']? = some (.inl (t, n))) (ht : t ≠ 3) : (zw dA ad M).set o' (ad o', .inl (dA t, n, .inl (va_cpy (M.1 o) (M.1 o') sp dp k))) = zw dA ad (zCp M o o' sp dp k) :=
  zw_set h (by simp [zE, zCp, ht]) (fun q sh hq => zE_C q sh hq)
theorem zw_FI {dA : Nat → ClassId} {ad : Nat → Nat} {M : zM} {o ci k : Nat} {x : Int32} {fs : List Value} (h : zsh[o]? = some (.inr ci)) (hk : (zrf ci)[k]? = some false) (hf : zE dA ad M o (.inr ci) = .inr (ci, fs)) : (zw dA ad M).set o (ad o, .inr (ci, fs.set k (.int x))) = zw dA ad (zI M o k x) := by
  refine zw_set h ?_ (fun q sh hq => zE_I q sh hq)
  simp only [zE, Sum.inr.injEq, Prod.mk.injEq, true_and] at hf ⊢
  subst hf
  apply List.ext_getElem?
  intro i
  rw [List.getElem?_set]
  by_cases hi : k = i
  · subst hi
    have hlt := (List.getElem?_eq_some_iff.mp hk).1
    have hg : (zrf ci)[k] = false := (List.getElem?_eq_some_iff.mp hk).2
    simp [zI, List.getElem?_range, hlt, hk, hg, upd, List.getD_eq_getElem?_getD]
  · rw [if_neg hi]
    simp only [List.getElem?_map]
    by_cases hr : i < (zrf ci).length
    · rw [List.getElem?_range hr]
      simp only [Option.map_some, zI, if_true, upd]
      rw [if_neg (Ne.symm hi)]
    · rw [List.getElem?_eq_none (by simpa using hr)]; rfl
theorem zw_FP {dA : Nat → ClassId} {ad : Nat → Nat} {M : zM} {o ci k x : Nat} {fs : List Value} (h : zsh[o]? = some (.inr ci)) (hk : (zrf ci)[k]? = some true) (hf : zE dA ad M o (.inr ci) = .inr (ci, fs)) : (zw dA ad M).set o (ad o, .inr (ci, fs.set k (.ref (ad x)))) = zw dA ad (zP M o k x) := by
  refine zw_set h ?_ (fun q sh hq => zE_P q sh hq)
  simp only [zE, Sum.inr.injEq, Prod.mk.injEq, true_and] at hf ⊢
  subst hf
  apply List.ext_getElem?
  intro i
  rw [List.getElem?_set]
  by_cases hi : k = i
  · subst hi
    have hlt := (List.getElem?_eq_some_iff.mp hk).1
    have hg : (zrf ci)[k] = true := (List.getElem?_eq_some_iff.mp hk).2
    simp [zP, List.getElem?_range, hlt, hk, hg, List.getD_eq_getElem?_getD]
  · rw [if_neg hi]
    simp only [List.getElem?_map]
    by_cases hr : i < (zrf ci).length
    · rw [List.getElem?_range hr]
      simp only [Option.map_some, zP, true_and]
      rw [if_neg (Ne.symm hi)]
    · rw [List.getElem?_eq_none (by simpa using hr)]; rfl
theorem zE_J {dA : Nat → ClassId} {ad : Nat → Nat} {M : zM} {x : Int64} (q : Nat) (sh : (Nat × Nat) ⊕ Nat) (h : ∀ n, sh ≠ .inl (3, n)) : zE dA ad (zJ M x) q sh = zE dA ad M q sh := by
  rcases sh with ⟨t, n⟩ | ci
  · have ht : t ≠ 3 := fun ht => h n (by rw [ht])
    simp [zE, zJ, ht]
  · simp [zE, zJ]
theorem zw_J {dA : Nat → ClassId} {ad : Nat → Nat} {M : zM} {o : Nat} {x : Int64} (h : zsh[o]? = some (.inl (3, 1))) (ho : ∀ q n, zsh[q]? = some (.inl (3, n)) → q = o) : (zw dA ad M).set o (ad o, .inl (dA 3, 1, .inr (.inl (vp_updL (fun j => if j = 0 then M.2.2 else 0) 0 x)))) = zw dA ad (zJ M x) := by
  apply List.ext_getElem?
  intro q
  rw [List.getElem?_set]
  by_cases hq : o = q
  · subst hq
    have hlt : o < (zw dA ad M).length := by
      unfold zw; rw [List.length_mapIdx]; exact (List.getElem?_eq_some_iff.mp h).1
    rw [if_pos rfl, if_pos hlt, zw_at h]
    congr 2
    simp only [zE, zJ, if_true]
    have hf : vp_updL (fun j => if j = 0 then M.2.2 else 0) 0 x = fun j => if j = 0 then x else 0 := by
      funext j
      unfold vp_updL
      split
      · rfl
      · rename_i hj; exact if_neg hj
    rw [hf]
  · rw [if_neg hq]
    unfold zw
    rw [List.getElem?_mapIdx, List.getElem?_mapIdx]
    cases hs : zsh[q]? with
    | none => rfl
    | some sh' => simp only [Option.map_some]; rw [zE_J q sh' (fun n hn => hq (ho q n (hn ▸ hs)).symm)]
/- locals -/
def zlf (ad : Nat → Nat) (L : Nat → Value) (i : Nat) : Option (Nat × Value) := match L i with
  | .int x => some (i, .int x)
  | .ref x => some (i, .ref (ad x))
  | _ => none
def zlv (ad : Nat → Nat) (n : Nat) (L : Nat → Value) : List (Nat × Value) := (List.range n).filterMap (zlf ad L)
def zl (ad : Nat → Nat) (ls : Array Slot) (n : Nat) (L : Nat → Value) : Prop := lv_has ls n (zlv ad n L) ∧ ∀ i, n ≤ i → L i = .null
theorem zlv_int {ad : Nat → Nat} {n i : Nat} {L : Nat → Value} {x : Int32} (hi : i < n) (h : L i = .int x) : (i, Value.int x) ∈ zlv ad n L :=
  List.mem_filterMap.mpr ⟨i, List.mem_range.mpr hi, by simp [zlf, h]⟩
theorem zlv_ref {ad : Nat → Nat} {n i : Nat} {L : Nat → Value} {x : Nat} (hi : i < n) (h : L i = .ref x) : (i, Value.ref (ad x)) ∈ zlv ad n L :=
  List.mem_filterMap.mpr ⟨i, List.mem_range.mpr hi, by simp [zlf, h]⟩
theorem zlv_mem {ad : Nat → Nat} {n : Nat} {L : Nat → Value} {q : Nat × Value} (h : q ∈ zlv ad n L) : q.1 < n ∧ zlf ad L q.1 = some q ∧ q.2.category = 1 := by
  obtain ⟨i, hi, hq⟩ := List.mem_filterMap.mp h
  have hq2 := hq
  unfold zlf at hq
  split at hq <;> simp at hq <;> subst hq <;> exact ⟨List.mem_range.mp hi, hq2, rfl⟩
theorem zl_lt {ad : Nat → Nat} {ls : Array Slot} {n i : Nat} {L : Nat → Value} (h : zl ad ls n L) (hi : L i ≠ .null) : i < n :=
  Nat.lt_of_not_le (fun hn => hi (h.2 i hn))
theorem zl_int {ad : Nat → Nat} {ls : Array Slot} {n i : Nat} {L : Nat → Value} {x : Int32} (h : zl ad ls n L) (hL : L i = .int x) : ls[i]? = some (.val (.int x)) :=
  h.1.2.2 _ (zlv_int (zl_lt h (by rw [hL]; intro hh; cases hh)) hL)
theorem zl_ref {ad : Nat → Nat} {ls : Array Slot} {n i : Nat} {L : Nat → Value} {x : Nat} (h : zl ad ls n L) (hL : L i = .ref x) : ls[i]? = some (.val (.ref (ad x))) :=
  h.1.2.2 _ (zlv_ref (zl_lt h (by rw [hL]; intro hh; cases hh)) hL)
theorem zu_same (L : Nat → Value) (k : Nat) (v : Value) : zu L k v k = v := by simp [zu]
theorem zu_ne {L : Nat → Value} {k i : Nat} {v : Value} (h : i ≠ k) : zu L k v i = L i := by
  have hb : Nat.beq i k = false := by
    cases hc : Nat.beq i k with
    | false => rfl
    | true => exact absurd (Nat.eq_of_beq_eq_true hc) h
  unfold zu; rw [hb]; rfl
theorem zl_set {ad : Nat → Nat} {ls ls' : Array Slot} {n i : Nat} {L : Nat → Value} {v w : Value} (h : zl ad ls n L) (hi : i < n) (hv : zlf ad (zu L i v) i = some (i, w)) (h' : lv_has ls' n ((i, w) :: (zlv ad n L).filter (fun q => !(q.1 == i) && !(q.1 + 1 == i && q.2.category == 2)))) : zl ad ls' n (zu L i v) := by
  refine ⟨⟨h'.1, h'.2.1, fun q hq => ?_⟩, fun j hj => ?_⟩
  · obtain ⟨h1, h2, h3⟩ := zlv_mem hq
    apply h'.2.2
    by_cases hqi : q.1 = i
    · rw [hqi] at h2; rw [hv] at h2; cases h2; exact List.mem_cons_self
    · apply List.mem_cons_of_mem
      refine List.mem_filter.mpr ⟨List.mem_filterMap.mpr ⟨q.1, List.mem_range.mpr h1, ?_⟩, ?_⟩
      · rw [← h2]; unfold zlf; rw [zu_ne hqi]
      · rw [h3]; simp [hqi]
  · rw [zu_ne (by omega)]; exact h.2 j hj
theorem lv_args_mem : ∀ (vs : List Value) (i0 : Nat), (∀ v ∈ vs, v.category = 1) → ∀ (i : Nat) (v : Value), vs[i]? = some v → (i0 + i, v) ∈ lv_args i0 vs
  | [], _, _, i, v, h => by simp at h
  | a :: vs, i0, hc, i, v, h => by
    have ha := hc a List.mem_cons_self
    unfold lv_args
    rw [if_neg (by rw [ha]; decide)]
    cases i with
    | zero => simp at h; subst h; exact List.mem_cons_self
    | succ i =>
      apply List.mem_cons_of_mem
      have := lv_args_mem vs (i0 + 1) (fun v hv => hc v (List.mem_cons_of_mem _ hv)) i v (by simpa using h)
      rw [show i0 + (i + 1) = i0 + 1 + i by omega]; exact this
theorem lg_sl_len : ∀ (vs : List Value), (∀ v ∈ vs, v.category = 1) → (lg_sl vs).length = vs.length
  | [], _ => rfl
  | a :: vs, hc => by
    have ha := hc a List.mem_cons_self
    have := lg_sl_len vs (fun v hv => hc v (List.mem_cons_of_mem _ hv))
    unfold lg_sl at this ⊢
    rw [List.flatMap_cons, List.length_append, this, if_neg (by rw [ha]; decide)]
    simp; omega
theorem zl_entry {ad : Nat → Nat} {n : Nat} (As : List Value) (hc : ∀ v ∈ As, v.category = 1) (hn : As.length ≤ n) : zl ad ((lg_sl (As.map (zv ad)) ++ List.replicate (n - (lg_sl (As.map (zv ad))).length) Slot.unset).toArray) n (zarg As) := by
  have hc' : ∀ v ∈ As.map (zv ad), v.category = 1 := by
    intro v hv
    obtain ⟨w, hw, rfl⟩ := List.mem_map.mp hv
    rw [zv_cat]; exact hc w hw
  have h := lv_entry (As.map (zv ad)) (n := n) (by rw [lg_sl_len _ hc']; simpa using hn)
  refine ⟨⟨h.1, h.2.1, fun q hq => ?_⟩, fun i hi => ?_⟩
  · obtain ⟨h1, h2, h3⟩ := zlv_mem hq
    apply h.2.2
    have : (0 + q.1, q.2) ∈ lv_args 0 (As.map (zv ad)) := by
      apply lv_args_mem _ _ hc'
      rw [List.getElem?_map]
      unfold zlf zarg at h2
      rw [List.getD_eq_getElem?_getD] at h2
      cases hA : As[q.1]? with
      | none => rw [hA] at h2; simp at h2
      | some v =>
        rw [hA] at h2
        cases v <;> simp at h2 <;> (rw [← h2]; rfl)
    simpa using this
  · unfold zarg
    rw [List.getD_eq_getElem?_getD, List.getElem?_eq_none (by omega)]; rfl
end
section
def zA (B0 : Nat) : Nat → Prop := fun q => B0 ≤ q
def zEnv (ad : Nat → Nat) (B0 Lx : Nat) (xs : Nat → Int32) (s : State) (H : Heap) : Prop := B0 ≤ H.size ∧ ad 1000 < B0 ∧ va_X (ad 1000) Lx xs s H ∧ vk_S 1 [zsn] [zsb] (fun _ => ad 1001) (fun _ => ad 1002) (zA B0) s H ∧ vk_R zso zsi zstx (ad 1001) s ∧ va_Z "java/lang/String" "COMPACT_STRINGS" "Z" (.int 1) (zA B0) s H
def zCtx (ad : Nat → Nat) (B0 Lx : Nat) (xs : Nat → Int32) (d : Nat) (y : zY) (p : Program) (s : State) (m : MethodId) (args : Array Value) (c : Code) (R : Room) (cells slots : Nat) : Prop := p.tables.exec = Jvm.exec ∧ c.code = y.2.1 ∧ c.maxLocals = y.2.2.1 ∧ s.vm.findClass y.1.cls = some m.cls ∧ (∀ w ∈ zT, w.before args s = true) ∧ (d ≤ R.frames ∧ 64 * d ≤ R.locals ∧ cells ≤ R.cells ∧ slots ≤ R.slots) ∧ zEnv ad B0 Lx xs s s.heap
def zWd (dC : Nat → ClassId) (dI : Nat → Nat → Nat) (dA : Nat → ClassId) (ad : Nat → Nat) (B0 : Nat) (s : State) (H : Heap) (M : zM) (locs : List Loc) : Prop := va_K (dC, dI) zcl (ztys dA) s ∧ va_P (dC, dI) zcl (zw dA ad M) H ∧ va_D (zA B0) (zw dA ad M) ∧ va_S (zA B0) s.heap H locs
def WX (l : Launch) (dC : Nat → ClassId) (dI : Nat → Nat → Nat) (dA : Nat → ClassId) (ad : Nat → Nat) (B0 Lx : Nat) (xs : Nat → Int32) : zX := fun d y pc L st M Q => ∀ (p : Program) (e : Env) (s : State) (m : MethodId) (args : Array Value) (below : List Frame) (meth : Method) (c : Code) (R : Room) (H : Heap) (locs : List Loc) (cells slots : Nat) (Q' : State → Prop) (ls : Array Slot), zCtx ad B0 Lx xs d y p s m args c R cells slots → zl ad ls y.2.2.1 L → zWd dC dI dA ad B0 s H M locs → (∀ (pc' : Nat) (L' : Nat → Value) (st' : List Value) (M' : zM) (H' : Heap) (locs' : List Loc) (ls' : Array Slot), Q pc' L' st' M' → zl ad ls' y.2.2.1 L' → zWd dC dI dA ad B0 s H' M' locs' → W p l e R s m args below meth c H' locs' cells slots Q' (F0 m pc' ls' (st'.map (zv ad)))) → W p l e R s m args below meth c H locs cells slots Q' (F0 m pc ls (st.map (zv ad)))
theorem zEnv.next {ad : Nat → Nat} {B0 Lx : Nat} {xs : Nat → Int32} {s U : State} {H : Heap} {locs : List Loc} (h : zEnv ad B0 Lx xs s s.heap) (hS : va_S (zA B0) s.heap H locs) (hU : U.heap = H) (hW : s.WarmedH U.vm) : zEnv ad B0 Lx xs U U.heap := by
  obtain ⟨h1, h2, h3, h4, h5, h6⟩ := h
  subst hU
  have hk : ∀ a : Nat, a < s.heap.size → ¬ zA B0 a → U.heap[a]? = s.heap[a]? := fun a ha hn => hS.2.1 a ha hn
  exact ⟨Nat.le_trans h1 hS.1, h2, va_X.moved hW.alike (h3.kept (hk _ (Nat.lt_of_lt_of_le h2 h1) (Nat.not_le_of_lt h2))), vk_S.moved hW.alike (h4.kept hk), vk_R.warm hW h5, va_Z.moved hW.alike (h6.kept hk)⟩
section
variable {l : Launch} {dC : Nat → ClassId} {dI : Nat → Nat → Nat} {dA : Nat → ClassId} {ad : Nat → Nat} {B0 Lx : Nat} {xs : Nat → Int32}
theorem sn_done : zr_done (WX l dC dI dA ad B0 Lx xs) := by
  intro d y pc L st M Q h p e s m args below meth c R H locs cells slots Q' ls C hl hw hq
  exact hq _ _ _ _ _ _ _ h hl hw
theorem sn_const : zr_const (WX l dC dI dA ad B0 Lx xs) := by
  intro d y pc L st M Q ins len v hd hc hk p e s m args below meth c R H locs cells slots Q' ls C hl hw hq
  have hk := hk p e s m args below meth c R H locs cells slots Q' ls C hl hw hq
  unfold zconst at hc
  split at hc
  · cases hc; exact lv_iconst C.1 C.2.1 hd rfl hk
  · cases hc; exact lv_bipush C.1 C.2.1 hd rfl hk
  · cases hc; exact lv_sipush C.1 C.2.1 hd rfl hk
  · cases hc
theorem sn_il : zr_il (WX l dC dI dA ad B0 Lx xs) := by
  intro d y pc L st M Q ins len i x hd hc hL hk p e s m args below meth c R H locs cells slots Q' ls C hl hw hq
  have hk := hk p e s m args below meth c R H locs cells slots Q' ls C hl hw hq
  unfold zil at hc
  split at hc
  · cases hc; exact lv_iload_n C.1 C.2.1 hd rfl (zl_int hl hL) hk
  · cases hc; exact lv_iload C.1 C.2.1 hd (zl_int hl hL) hk
  · cases hc
theorem sn_al : zr_al (WX l dC dI dA ad B0 Lx xs) := by
  intro d y pc L st M Q ins len i x hd hc hL hk p e s m args below meth c R H locs cells slots Q' ls C hl hw hq
  have hk := hk p e s m args below meth c R H locs cells slots Q' ls C hl hw hq
  unfold zal at hc
  split at hc
  · cases hc; exact lv_aload_n C.1 C.2.1 hd rfl (zl_ref hl hL) hk
  · cases hc; exact lv_aload C.1 C.2.1 hd (zl_ref hl hL) hk
  · cases hc
theorem sn_is : zr_is (WX l dC dI dA ad B0 Lx xs) := by
  intro d y pc L st M Q ins len i x hd hc hi hk p e s m args below meth c R H locs cells slots Q' ls C hl hw hq
  have hk := fun ls' h' => hk p e s m args below meth c R H locs cells slots Q' ls' C h' hw hq
  unfold zis at hc
  split at hc
  · cases hc; exact lv_istore_n C.1 C.2.1 hd rfl hl.1 hi rfl (fun ls' h' => hk ls' (zl_set hl hi (by simp [zlf, zu_same]) h'))
  · cases hc; exact lv_istore C.1 C.2.1 hd hl.1 hi rfl (fun ls' h' => hk ls' (zl_set hl hi (by simp [zlf, zu_same]) h'))
  · cases hc
theorem sn_as : zr_as (WX l dC dI dA ad B0 Lx xs) := by
  intro d y pc L st M Q ins len i x hd hc hi hk p e s m args below meth c R H locs cells slots Q' ls C hl hw hq
  have hk := fun ls' h' => hk p e s m args below meth c R H locs cells slots Q' ls' C h' hw hq
  unfold zas at hc
  split at hc
  · cases hc; exact lv_astore_n C.1 C.2.1 hd rfl hl.1 hi rfl (fun ls' h' => hk ls' (zl_set hl hi (by simp [zlf, zu_same]) h'))
  · cases hc; exact lv_astore C.1 C.2.1 hd hl.1 hi rfl (fun ls' h' => hk ls' (zl_set hl hi (by simp [zlf, zu_same]) h'))
  · cases hc
theorem sn_inc : zr_inc (WX l dC dI dA ad B0 Lx xs) := by
  intro d y pc L st M Q i n x hd hL hk p e s m args below meth c R H locs cells slots Q' ls C hl hw hq
  have hk := fun ls' h' => hk p e s m args below meth c R H locs cells slots Q' ls' C h' hw hq
  have hi : i < y.2.2.1 := zl_lt hl (by rw [hL]; intro hh; cases hh)
  obtain ⟨k, hkk⟩ := List.mem_iff_getElem?.mp (zlv_int (ad := ad) hi hL)
  exact lv_iinc C.1 C.2.1 hd hl.1 hkk rfl hi rfl (fun ls' h' => hk ls' (zl_set hl hi (by simp [zlf, zu_same]) h'))
theorem sn_bin : zr_bin (WX l dC dI dA ad B0 Lx xs) := by
  intro d y pc L st M Q ins a b v hd hc hk p e s m args below meth c R H locs cells slots Q' ls C hl hw hq
  have hk := hk p e s m args below meth c R H locs cells slots Q' ls C hl hw hq
  unfold zbin at hc
  split at hc
  · cases hc; exact lv_iadd C.1 C.2.1 hd hk
  · cases hc; exact lv_isub C.1 C.2.1 hd hk
  · cases hc; exact lv_imul C.1 C.2.1 hd hk
  · cases hc; exact lv_iand C.1 C.2.1 hd hk
  · cases hc; exact lv_ishr C.1 C.2.1 hd hk
  · split at hc
    · cases hc
    · rename_i hne; cases hc; exact lv_idiv C.1 C.2.1 hd hne hk
  · split at hc
    · cases hc
    · rename_i hne; cases hc; exact lv_irem C.1 C.2.1 hd hne hk
  · cases hc
theorem sn_un : zr_un (WX l dC dI dA ad B0 Lx xs) := by
  intro d y pc L st M Q ins a v hd hc hk p e s m args below meth c R H locs cells slots Q' ls C hl hw hq
  have hk := hk p e s m args below meth c R H locs cells slots Q' ls C hl hw hq
  unfold zun at hc
  split at hc
  · cases hc; exact lv_ineg C.1 C.2.1 hd hk
  · cases hc; exact lv_i2c C.1 C.2.1 hd rfl hk
  · cases hc; exact lv_i2b C.1 C.2.1 hd rfl hk
  · cases hc
theorem sn_stk : zr_stk (WX l dC dI dA ad B0 Lx xs) := by
  intro d y pc L st st' M Q ins hd hc hk p e s m args below meth c R H locs cells slots Q' ls C hl hw hq
  have hk := hk p e s m args below meth c R H locs cells slots Q' ls C hl hw hq
  unfold zstk at hc
  split at hc
  · split at hc
    · rename_i h1; cases hc; exact lv_dup C.1 C.2.1 hd ((zv_cat _ _).trans h1) hk
    · cases hc
  · split at hc
    · rename_i h1; cases hc; exact lv_pop C.1 C.2.1 hd ((zv_cat _ _).trans h1) hk
    · cases hc
  · split at hc
    · rename_i h1; cases hc; exact lv_dup_x1 C.1 C.2.1 hd ((zv_cat _ _).trans h1.1) ((zv_cat _ _).trans h1.2) hk
    · cases hc
  · split at hc
    · rename_i h1; cases hc; exact lv_dup_x2 C.1 C.2.1 hd ((zv_cat _ _).trans h1.1) ((zv_cat _ _).trans h1.2.1) ((zv_cat _ _).trans h1.2.2) hk
    · cases hc
  · split at hc
    · rename_i h1; cases hc; exact lv_dup2_11 C.1 C.2.1 hd ((zv_cat _ _).trans h1.1) ((zv_cat _ _).trans h1.2) hk
    · cases hc
  · cases hc
theorem sn_icmp : zr_icmp (WX l dC dI dA ad B0 Lx xs) := by
  intro d y pc L st M Q op off tgt a b hd ht kt kf p e s m args below meth c R H locs cells slots Q' ls C hl hw hq
  have kt := fun h => kt h p e s m args below meth c R H locs cells slots Q' ls C hl hw hq
  have kf := fun h => kf h p e s m args below meth c R H locs cells slots Q' ls C hl hw hq
  cases op
  · exact lv_icmp_eq C.1 C.2.1 hd ht kt kf
  · exact lv_icmp_ne C.1 C.2.1 hd ht kt (fun h => kf (fun hn => hn h))
  · exact lv_icmp_lt C.1 C.2.1 hd ht kt kf
  · exact lv_icmp_ge C.1 C.2.1 hd ht kt kf
  · exact lv_icmp_gt C.1 C.2.1 hd ht kt kf
  · exact lv_icmp_le C.1 C.2.1 hd ht kt kf
theorem sn_if : zr_if (WX l dC dI dA ad B0 Lx xs) := by
  intro d y pc L st M Q op off tgt a hd ht kt kf p e s m args below meth c R H locs cells slots Q' ls C hl hw hq
  have kt := fun h => kt h p e s m args below meth c R H locs cells slots Q' ls C hl hw hq
  have kf := fun h => kf h p e s m args below meth c R H locs cells slots Q' ls C hl hw hq
  cases op
  · exact lv_if_eq C.1 C.2.1 hd ht kt kf
  · exact lv_if_ne C.1 C.2.1 hd ht kt (fun h => kf (fun hn => hn h))
  · exact lv_if_lt C.1 C.2.1 hd ht kt kf
  · exact lv_if_ge C.1 C.2.1 hd ht kt kf
  · exact lv_if_gt C.1 C.2.1 hd ht kt kf
  · exact lv_if_le C.1 C.2.1 hd ht kt kf
theorem sn_goto : zr_goto (WX l dC dI dA ad B0 Lx xs) := by
  intro d y pc L st M Q off tgt hd ht hk p e s m args below meth c R H locs cells slots Q' ls C hl hw hq
  exact lv_goto C.1 C.2.1 hd ht (hk p e s m args below meth c R H locs cells slots Q' ls C hl hw hq)
theorem sn_tin : zr_tin (WX l dC dI dA ad B0 Lx xs) := by
  intro d y pc L st M Q dflt lo hi offs len off tgt a hd h1 h2 ho ht hk p e s m args below meth c R H locs cells slots Q' ls C hl hw hq
  exact lv_tableIn C.1 C.2.1 hd h1 h2 ho ht (hk p e s m args below meth c R H locs cells slots Q' ls C hl hw hq)
theorem sn_tout : zr_tout (WX l dC dI dA ad B0 Lx xs) := by
  intro d y pc L st M Q dflt lo hi offs len tgt a hd h1 ht hk p e s m args below meth c R H locs cells slots Q' ls C hl hw hq
  exact lv_tableOut C.1 C.2.1 hd h1 ht (hk p e s m args below meth c R H locs cells slots Q' ls C hl hw hq)
theorem zfs_get {M : zM} {o ci k : Nat} {r : Bool} (hr : (zrf ci)[k]? = some r) : ((List.range (zrf ci).length).map (fun k => if (zrf ci).getD k false = true then Value.ref (ad (M.2.1 o k)) else .int (M.1 o k)))[k]? = some (if r = true then Value.ref (ad (M.2.1 o k)) else .int (M.1 o k)) := by
  have hlt := (List.getElem?_eq_some_iff.mp hr).1
  rw [List.getElem?_map, List.getElem?_range hlt]
  simp only [Option.map_some, List.getD_eq_getElem?_getD, hr, Option.getD_some]
theorem sn_geti : zr_geti (WX l dC dI dA ad B0 Lx xs) := by
  intro d y pc L st M Q idx o ci k hd hf ho hk p e s m args below meth c R H locs cells slots Q' ls C hl hw hq
  have hk := hk p e s m args below meth c R H locs cells slots Q' ls C hl hw hq
  obtain ⟨Cn, T, N, hc, hkN, hlk, hr⟩ := hf
  exact va_get C.1 C.2.1 C.2.2.2.2.1 (zcl_in hc) C.2.2.2.1 hw.1 hw.2.1 o (zw_at ho) hc k hkN (C.2.2.2.2.1 _ hlk) (fun _ h => h) (zfs_get hr) hd hk
theorem sn_getr : zr_getr (WX l dC dI dA ad B0 Lx xs) := by
  intro d y pc L st M Q idx o ci k hd hf ho hk p e s m args below meth c R H locs cells slots Q' ls C hl hw hq
  have hk := hk p e s m args below meth c R H locs cells slots Q' ls C hl hw hq
  obtain ⟨Cn, T, N, hc, hkN, hlk, hr⟩ := hf
  exact va_get C.1 C.2.1 C.2.2.2.2.1 (zcl_in hc) C.2.2.2.1 hw.1 hw.2.1 o (zw_at ho) hc k hkN (C.2.2.2.2.1 _ hlk) (fun _ h => h) (zfs_get hr) hd hk
theorem sn_puti : zr_puti (WX l dC dI dA ad B0 Lx xs) := by
  intro d y pc L st M Q idx o ci k x ty hd hf hfw ho hn hfi hk p e s m args below meth c R H locs cells slots Q' ls C hl hw hq
  have hk := fun H' locs' hw' => hk p e s m args below meth c R H' locs' cells slots Q' ls C hl hw' hq
  obtain ⟨Cn, T, N, hc, hkN, hlk, hr⟩ := hf
  obtain ⟨Cn', T', N', hc', hfin, hty⟩ := hfw
  rw [hc] at hc'; cases hc'
  obtain ⟨ty0, hty0, hnm⟩ := zcl_ty hc
  have hlt := (List.getElem?_eq_some_iff.mp hr).1
  refine va_put (v := .int x) C.1 C.2.1 C.2.2.2.2.1 (zcl_in hc) ty0 hty0 hnm C.2.2.2.1 hw.1 hw.2.1 hw.2.2.1 hw.2.2.2 o (zw_at ho) hc k hkN (C.2.2.2.2.1 _ hlk) (fun _ h => h) hfin hty hn hfi (by simpa using hlt) hd (fun H1 locs1 hP1 hD1 hS1 => hk H1 locs1 ?_)
  rw [zw_FI ho hr rfl] at hP1 hD1
  exact ⟨hw.1, hP1, hD1, hS1⟩
theorem sn_putr : zr_putr (WX l dC dI dA ad B0 Lx xs) := by
  intro d y pc L st M Q idx o ci k x Co hd hf hfw ho hk p e s m args below meth c R H locs cells slots Q' ls C hl hw hq
  have hk := fun H' locs' hw' => hk p e s m args below meth c R H' locs' cells slots Q' ls C hl hw' hq
  obtain ⟨Cn, T, N, hc, hkN, hlk, hr⟩ := hf
  obtain ⟨Cn', T', N', hc', hfin, hty⟩ := hfw
  rw [hc] at hc'; cases hc'
  obtain ⟨ty0, hty0, hnm⟩ := zcl_ty hc
  have hlt := (List.getElem?_eq_some_iff.mp hr).1
  refine va_put (v := .ref (ad x)) C.1 C.2.1 C.2.2.2.2.1 (zcl_in hc) ty0 hty0 hnm C.2.2.2.1 hw.1 hw.2.1 hw.2.2.1 hw.2.2.2 o (zw_at ho) hc k hkN (C.2.2.2.2.1 _ hlk) (fun _ h => h) hfin hty rfl rfl (by simpa using hlt) hd (fun H1 locs1 hP1 hD1 hS1 => hk H1 locs1 ?_)
  rw [zw_FP ho hr rfl] at hP1 hD1
  exact ⟨hw.1, hP1, hD1, hS1⟩
theorem zE_arr {M : zM} {o t n : Nat} (h : zsh[o]? = some (.inl (t, n))) (ht : t ≠ 3) : (zw dA ad M)[o]? = some (ad o, .inl (dA t, n, .inl (M.1 o))) := by
  rw [zw_at h]; simp [zE, ht]
theorem sn_ald : zr_ald (WX l dC dI dA ad B0 Lx xs) := by
  intro d y pc L st M Q ins t o n i hd hc ho hin hk p e s m args below meth c R H locs cells slots Q' ls C hl hw hq
  have hk := hk p e s m args below meth c R H locs cells slots Q' ls C hl hw hq
  unfold zld at hc
  split at hc
  · cases hc; exact va_iald C.1 C.2.1 hw.1 hw.2.1 o 0 (zE_arr ho (by decide)) rfl hin hd hk
  · cases hc; exact va_cald C.1 C.2.1 hw.1 hw.2.1 o 1 (zE_arr ho (by decide)) rfl hin hd hk
  · cases hc; exact va_zald C.1 C.2.1 hw.1 hw.2.1 o 2 (zE_arr ho (by decide)) rfl hin hd hk
  · cases hc
theorem sn_ast : zr_ast (WX l dC dI dA ad B0 Lx xs) := by
  intro d y pc L st M Q ins t o n i x hd hc ho hin hk p e s m args below meth c R H locs cells slots Q' ls C hl hw hq
  have hk := fun H' locs' hw' => hk p e s m args below meth c R H' locs' cells slots Q' ls C hl hw' hq
  unfold zst at hc
  split at hc
  · cases hc
    refine va_iast C.1 C.2.1 hw.1 hw.2.1 hw.2.2.1 hw.2.2.2 o 0 (zE_arr ho (by decide)) rfl hin hd (fun H1 locs1 hP1 hD1 hS1 => hk H1 locs1 ?_)
    rw [zw_I ho (by decide)] at hP1 hD1
    exact ⟨hw.1, hP1, hD1, hS1⟩
  · cases hc
    refine va_cast C.1 C.2.1 hw.1 hw.2.1 hw.2.2.1 hw.2.2.2 o 1 (zE_arr ho (by decide)) rfl hin hd (fun H1 locs1 hP1 hD1 hS1 => hk H1 locs1 ?_)
    rw [zw_I ho (by decide)] at hP1 hD1
    exact ⟨hw.1, hP1, hD1, hS1⟩
  · cases hc
    refine va_zast C.1 C.2.1 hw.1 hw.2.1 hw.2.2.1 hw.2.2.2 o 2 (zE_arr ho (by decide)) rfl hin hd (fun H1 locs1 hP1 hD1 hS1 => hk H1 locs1 ?_)
    rw [zw_I ho (by decide)] at hP1 hD1
    exact ⟨hw.1, hP1, hD1, hS1⟩
  · cases hc
theorem sn_alen : zr_alen (WX l dC dI dA ad B0 Lx xs) := by
  intro d y pc L st M Q t o n hd ho hk p e s m args below meth c R H locs cells slots Q' ls C hl hw hq
  have hk := hk p e s m args below meth c R H locs cells slots Q' ls C hl hw hq
  have ht := zsh_t ho
  have hty : (ztys dA)[t]? = some (dA t, ztt t) := by
    rcases (show t = 0 ∨ t = 1 ∨ t = 2 ∨ t = 3 by omega) with rfl | rfl | rfl | rfl <;> rfl
  exact va_alen C.1 C.2.1 hw.1 hw.2.1 o t (zw_at ho) hty rfl hd hk
theorem zE_lng {M : zM} {o : Nat} (h : zsh[o]? = some (.inl (3, 1))) : (zw dA ad M)[o]? = some (ad o, .inl (dA 3, 1, .inr (.inl (fun j => if j = 0 then M.2.2 else 0)))) := by
  rw [zw_at h]; rfl
theorem zin1 {i : Int32} (h : vp_in i 1) : i.toNatClampNeg = 0 := by
  obtain ⟨j, hj, rfl⟩ := vp_in_of h (by decide)
  rw [nI_clamp (by omega)]; omega
theorem sn_lald : zr_lald (WX l dC dI dA ad B0 Lx xs) := by
  intro d y pc L st M Q o i hd ho hin hk p e s m args below meth c R H locs cells slots Q' ls C hl hw hq
  have hk := hk p e s m args below meth c R H locs cells slots Q' ls C hl hw hq
  have hi := zin1 hin
  refine va_lald C.1 C.2.1 hw.1 hw.2.1 o 3 (zE_lng ho) rfl hin hd ?_
  rw [hi]; exact hk
theorem sn_last : zr_last (WX l dC dI dA ad B0 Lx xs) := by
  intro d y pc L st M Q o i x hd ho hin hk p e s m args below meth c R H locs cells slots Q' ls C hl hw hq
  have hk := fun H' locs' hw' => hk p e s m args below meth c R H' locs' cells slots Q' ls C hl hw' hq
  have hi := zin1 hin
  refine va_last C.1 C.2.1 hw.1 hw.2.1 hw.2.2.1 hw.2.2.2 o 3 (zE_lng ho) rfl hin hd (fun H1 locs1 hP1 hD1 hS1 => hk H1 locs1 ?_)
  rw [hi, zw_J ho (fun q n hq => zsh_l hq ho)] at hP1 hD1
  exact ⟨hw.1, hP1, hD1, hS1⟩
theorem sn_i2l : zr_i2l (WX l dC dI dA ad B0 Lx xs) := by
  intro d y pc L st M Q x hd hk p e s m args below meth c R H locs cells slots Q' ls C hl hw hq
  exact lv_i2l C.1 C.2.1 hd rfl (hk p e s m args below meth c R H locs cells slots Q' ls C hl hw hq)
theorem sn_lcmp : zr_lcmp (WX l dC dI dA ad B0 Lx xs) := by
  intro d y pc L st M Q a b hd hk p e s m args below meth c R H locs cells slots Q' ls C hl hw hq
  exact W.lcmp C.1 C.2.1 hd (hk p e s m args below meth c R H locs cells slots Q' ls C hl hw hq)
theorem sn_sld : zr_sld (WX l dC dI dA ad B0 Lx xs) Lx xs := by
  intro d y pc L st M Q i hd hin hk p e s m args below meth c R H locs cells slots Q' ls C hl hw hq
  have hk := hk p e s m args below meth c R H locs cells slots Q' ls C hl hw hq
  obtain ⟨h1, h2, h3, -⟩ := C.2.2.2.2.2.2
  exact va_sld C.1 C.2.1 h3 (Nat.lt_of_lt_of_le h2 h1) (Nat.not_le_of_lt h2) hw.2.2.2 hin hd hk
theorem sn_slen : zr_slen (WX l dC dI dA ad B0 Lx xs) Lx := by
  intro d y pc L st M Q hd hk p e s m args below meth c R H locs cells slots Q' ls C hl hw hq
  have hk := hk p e s m args below meth c R H locs cells slots Q' ls C hl hw hq
  obtain ⟨h1, h2, h3, -⟩ := C.2.2.2.2.2.2
  exact va_slen C.1 C.2.1 h3 (Nat.lt_of_lt_of_le h2 h1) (Nat.not_le_of_lt h2) hw.2.2.2 hd hk
theorem sn_ldcS : zr_ldcS (WX l dC dI dA ad B0 Lx xs) := by
  intro d y pc L st M Q hd hy hk p e s m args below meth c R H locs cells slots Q' ls C hl hw hq
  have hk := hk p e s m args below meth c R H locs cells slots Q' ls C hl hw hq
  exact va_ldcS C.1 C.2.1 (hy ▸ C.2.2.2.1) C.2.2.2.2.2.2.2.2.2.2.1 hd hk
theorem sn_sval : zr_sval (WX l dC dI dA ad B0 Lx xs) := by
  intro d y pc L st M Q idx hd hlk hk p e s m args below meth c R H locs cells slots Q' ls C hl hw hq
  have hk := hk p e s m args below meth c R H locs cells slots Q' ls C hl hw hq
  obtain ⟨h1, h2, h3, h4, -⟩ := C.2.2.2.2.2.2
  exact vk_getf C.1 C.2.1 (h4.1 0 (by decide)).2.2.1 hw.2.2.2 C.2.2.2.1 (C.2.2.2.2.1 _ hlk) (fun _ h => h) hd hk
theorem sn_scod : zr_scod (WX l dC dI dA ad B0 Lx xs) := by
  intro d y pc L st M Q idx hd hlk hk p e s m args below meth c R H locs cells slots Q' ls C hl hw hq
  have hk := hk p e s m args below meth c R H locs cells slots Q' ls C hl hw hq
  obtain ⟨h1, h2, h3, h4, -⟩ := C.2.2.2.2.2.2
  exact vk_getf C.1 C.2.1 (h4.1 0 (by decide)).2.1 hw.2.2.2 C.2.2.2.1 (C.2.2.2.2.1 _ hlk) (fun _ h => h) hd hk
theorem sn_scmp : zr_scmp (WX l dC dI dA ad B0 Lx xs) := by
  intro d y pc L st M Q idx hd hlk hk p e s m args below meth c R H locs cells slots Q' ls C hl hw hq
  have hk := hk p e s m args below meth c R H locs cells slots Q' ls C hl hw hq
  obtain ⟨h1, h2, h3, h4, h5, h6⟩ := C.2.2.2.2.2.2
  exact va_gets C.1 C.2.1 h6 hw.2.2.2 C.2.2.2.1 (C.2.2.2.2.1 _ hlk) (fun _ h => h) hd hk
theorem sn_sbld : zr_sbld (WX l dC dI dA ad B0 Lx xs) := by
  intro d y pc L st M Q i hd hin hk p e s m args below meth c R H locs cells slots Q' ls C hl hw hq
  have hk := hk p e s m args below meth c R H locs cells slots Q' ls C hl hw hq
  obtain ⟨h1, h2, h3, h4, -⟩ := C.2.2.2.2.2.2
  exact va_tb C.1 C.2.1 (h4.1 0 (by decide)).2.2.2 hw.2.2.2 hin rfl hd hk
theorem sn_sblen : zr_sblen (WX l dC dI dA ad B0 Lx xs) := by
  intro d y pc L st M Q hd hk p e s m args below meth c R H locs cells slots Q' ls C hl hw hq
  have hk := hk p e s m args below meth c R H locs cells slots Q' ls C hl hw hq
  obtain ⟨h1, h2, h3, h4, -⟩ := C.2.2.2.2.2.2
  exact va_tlen C.1 C.2.1 (h4.1 0 (by decide)).2.2.2 hw.2.2.2 rfl hd hk
end
end
section
section
variable {l : Launch} {dC : Nat → ClassId} {dI : Nat → Nat → Nat} {dA : Nat → ClassId} {ad : Nat → Nat} {B0 Lx : Nat} {xs : Nat → Int32}
theorem sn_copy : zr_copy (WX l dC dI dA ad B0 Lx xs) := by
  intro d y pc L st M Q idx t o n o' n' sp dp k hd hlk ho ho' ht h4 h5 hfit hst hk p e s m args below meth c R H locs cells slots Q' ls C hl hw hq
  have hk := fun H' locs' hw' => hk p e s m args below meth c R H' locs' cells slots Q' ls C hl hw' hq
  obtain ⟨hx, hb, hml, hown, hts, ⟨hR1, hR2, -, -⟩, -⟩ := C
  have hbo := zsh_len ho
  have hbo' := zsh_len ho'
  have c1 : (nI sp).toNatClampNeg = sp := nI_clamp (by omega)
  have c2 : (nI dp).toNatClampNeg = dp := nI_clamp (by omega)
  have c3 : (nI k).toNatClampNeg = k := nI_clamp (by omega)
  have ht3 : t ≠ 3 := by rcases ht with rfl | rfl <;> decide
  have hty : (ztys dA)[t]? = some (dA t, ztt t) := by rcases ht with rfl | rfl <;> rfl
  refine va_copyi hx hb (hml.trans hl.1.1.symm) hown (hts _ hlk) (hts _ zcp_nat) (hts _ zcp_st) (hts _ zcp_ini) hw.1 hw.2.1 hw.2.2.1 hw.2.2.2 o o' t t (zE_arr ho ht3) (zE_arr ho' ht3) hty hty (by rcases ht with rfl | rfl <;> rfl) (nI_pos (by omega)) (nI_pos (by omega)) (nI_pos (by omega)) (by rw [c1, c3]; exact h4) (by rw [c2, c3]; exact h5) (by rw [c1, c3]; exact hfit) (by omega) ?_ hd (fun H1 locs1 hP1 hD1 hS1 => hk H1 locs1 ?_)
  · rw [zcat_map]
    have := zcp_words
    omega
  · rw [c1, c2, c3, zw_C ho' ht3] at hP1 hD1
    exact ⟨hw.1, hP1, hD1, hS1⟩
theorem sn_max : zr_max (WX l dC dI dA ad B0 Lx xs) := by
  intro d y pc L st M Q idx a b hd hlk hst hk p e s m args below meth c R H locs cells slots Q' ls C hl hw hq
  have hk := hk p e s m args below meth c R H locs cells slots Q' ls C hl hw hq
  obtain ⟨hx, hb, hml, hown, hts, ⟨hR1, hR2, hR3, hR4⟩, -⟩ := C
  refine va_mmax hx hb (hml.trans hl.1.1.symm) hown (hts _ hlk) (hts _ zmx_st) (hts _ zmx_ini) (hts _ zmx_co) (by omega) ?_ hR3 hR4 hd hk
  rw [zcat_map]; omega
theorem sn_min : zr_min (WX l dC dI dA ad B0 Lx xs) := by
  intro d y pc L st M Q idx a b hd hlk hst hk p e s m args below meth c R H locs cells slots Q' ls C hl hw hq
  have hk := hk p e s m args below meth c R H locs cells slots Q' ls C hl hw hq
  obtain ⟨hx, hb, hml, hown, hts, ⟨hR1, hR2, hR3, hR4⟩, -⟩ := C
  refine va_mmin hx hb (hml.trans hl.1.1.symm) hown (hts _ hlk) (hts _ zmn_st) (hts _ zmx_ini) (hts _ zmn_co) (by omega) ?_ hR3 hR4 hd hk
  rw [zcat_map]; omega
def zws (k : zY) : List Jvm.Cond := Jvm.Cond.code k.1 k.2.1 k.2.2.1 k.2.2.2 :: zT
def zPc (dC : Nat → ClassId) (dI : Nat → Nat → Nat) (dA : Nat → ClassId) (ad : Nat → Nat) (B0 Lx : Nat) (xs : Nat → Int32) (As : List Value) (M : zM) : Array Value → State → Prop := va_Pc (As.map (zv ad)) (fun U => zEnv ad B0 Lx xs U U.heap ∧ va_K (dC, dI) zcl (ztys dA) U ∧ va_P (dC, dI) zcl (zw dA ad M) U.heap ∧ va_D (zA B0) (zw dA ad M))
def zB (dC : Nat → ClassId) (dI : Nat → Nat → Nat) (dA : Nat → ClassId) (ad : Nat → Nat) (B0 : Nat) (u : zM) (t : State) : Prop := va_P (dC, dI) zcl (zw dA ad u) t.heap ∧ va_D (zA B0) (zw dA ad u)
def zrm (d : Nat) : Room := { frames := d, cells := 0, slots := 0, locals := 64 * d }
theorem met_i {d : Nat} {k : zY} {As : List Value} {M : zM} {R : Option Int32 → zM → Prop} {ty : FieldType} (hr : k.2.2.2 = some ty) (hpl : plainName k.1.cls = true) (hc : ∀ v ∈ As, v.category = 1) (hn : As.length ≤ k.2.2.1) (h : WX l dC dI dA ad B0 Lx xs d k 0 (zarg As) [] M (fun pc' _ st' M' => ∃ o, zEnd k pc' st' o ∧ R o M')) : Met l k.1 (zws k) (zrm d) (zPc dC dI dA ad B0 Lx xs As M) (va_Qi (fun r u => R (some r) u) (zB dC dI dA ad B0) (zA B0)) 0 0 (zA B0) := by
  refine Met.ofW (cc := k.2.1) (maxL := k.2.2.1) (ret := k.2.2.2) hpl rfl ?_
  intro p e s m args below meth c s₁ B hml hv
  obtain ⟨rfl, hE, hK, hP, hD⟩ := hv
  have hts := atoms_spec (ws := zws k) B.pre
  have hlocks := B.notSynchronized
  rw [lg_entry_eq]
  refine h p e s m _ below meth c _ s.heap [] 0 0 _ _ ⟨B.exec, B.bytes, hml, findClass_of_methodNamed B.named, fun w hw => hts w (List.mem_cons_of_mem _ hw), ⟨Nat.le_refl _, Nat.le_refl _, Nat.le_refl _, Nat.le_refl _⟩, hE⟩ (zl_entry As hc hn) ⟨hK, hP, hD, va_S.rf⟩ ?_
  intro pc' L' st' M' H' locs' ls' hQ hl' hw'
  obtain ⟨o, he, hR⟩ := hQ
  cases o with
  | none => exact absurd (hr.symm.trans he.2.2) (by simp)
  | some x =>
    obtain ⟨hd', hst, ty', hty', hn'⟩ := he
    subst hst
    exact W.zret B.exec B.bytes (B.returns.trans hty') hn' (fun t ht hW => ⟨⟨x, M', rfl, hR, by rw [ht]; exact hw'.2.1, hw'.2.2.1⟩, hw'.2.2.2.F ht⟩) hw'.2.2.2.2.2 hd'
theorem met_v {d : Nat} {k : zY} {As : List Value} {M : zM} {R : Option Int32 → zM → Prop} (hr : k.2.2.2 = none) (hpl : plainName k.1.cls = true) (hc : ∀ v ∈ As, v.category = 1) (hn : As.length ≤ k.2.2.1) (h : WX l dC dI dA ad B0 Lx xs d k 0 (zarg As) [] M (fun pc' _ st' M' => ∃ o, zEnd k pc' st' o ∧ R o M')) : Met l k.1 (zws k) (zrm d) (zPc dC dI dA ad B0 Lx xs As M) (va_Qv (fun u => R none u) (zB dC dI dA ad B0) (zA B0)) 0 0 (zA B0) := by
  refine Met.ofW (cc := k.2.1) (maxL := k.2.2.1) (ret := k.2.2.2) hpl rfl ?_
  intro p e s m args below meth c s₁ B hml hv
  obtain ⟨rfl, hE, hK, hP, hD⟩ := hv
  have hts := atoms_spec (ws := zws k) B.pre
  have hlocks := B.notSynchronized
  rw [lg_entry_eq]
  refine h p e s m _ below meth c _ s.heap [] 0 0 _ _ ⟨B.exec, B.bytes, hml, findClass_of_methodNamed B.named, fun w hw => hts w (List.mem_cons_of_mem _ hw), ⟨Nat.le_refl _, Nat.le_refl _, Nat.le_refl _, Nat.le_refl _⟩, hE⟩ (zl_entry As hc hn) ⟨hK, hP, hD, va_S.rf⟩ ?_
  intro pc' L' st' M' H' locs' ls' hQ hl' hw'
  obtain ⟨o, he, hR⟩ := hQ
  cases o with
  | some x => obtain ⟨-, -, ty', hty', -⟩ := he; exact absurd (hr.symm.trans hty') (by simp)
  | none =>
    obtain ⟨hd', hst, hty'⟩ := he
    subst hst
    exact W.vret B.exec B.bytes (B.returns.trans hty') (fun t ht hW => ⟨⟨M', rfl, hR, by rw [ht]; exact hw'.2.1, hw'.2.2.1⟩, hw'.2.2.2.F ht⟩) hw'.2.2.2.2.2 hd'
theorem zPc_blind {As : List Value} {M : zM} : FrameBlind (zPc dC dI dA ad B0 Lx xs As M) := by
  intro a U g mk q
  obtain ⟨q0, ⟨e1, e2, e3, e4, e5, e6⟩, qK, qP, qD⟩ := q
  exact ⟨q0, ⟨e1, e2, va_X.moved (u := U) (U := U.calling g mk a) (Vm.Alike.refl U.vm) e3, vk_S.moved (u := U) (U := U.calling g mk a) (Vm.Alike.refl U.vm) e4, vk_R.same (u := U) (U := U.calling g mk a) rfl e5, va_Z.moved (u := U) (U := U.calling g mk a) (Vm.Alike.refl U.vm) e6⟩, va_K.moved (u := U) (U := U.calling g mk a) (Vm.Alike.refl U.vm) qK, qP, qD⟩
theorem zPc_at {As : List Value} {M : zM} {s : State} {H : Heap} {locs : List Loc} (hE : zEnv ad B0 Lx xs s s.heap) (hw : zWd dC dI dA ad B0 s H M locs) (U : State) (hU : U.heap = H) (hW : s.WarmedH U.vm) : zPc dC dI dA ad B0 Lx xs As M (As.map (zv ad)).toArray U :=
  ⟨rfl, hE.next hw.2.2.2 hU hW, va_K.moved hW.alike hw.1, by rw [hU]; exact hw.2.1, hw.2.2.1⟩
theorem zgood_S {own : String} {idx n : Nat} {k : zY} (h : zLkS own idx k n) : GoodIn zT (va_wsS own idx k.1 (zws k)) := by
  obtain ⟨⟨⟨h1, h2, h3⟩, -⟩, h4⟩ := h
  intro w hw
  have hm : w ∈ zT := by
    simp only [va_wsS, zws, List.mem_append, List.mem_cons, List.not_mem_nil, or_false] at hw
    rcases hw with (rfl | rfl | rfl) | rfl | hw <;> assumption
  exact ⟨hm, zT_good w hm⟩
theorem zgood_V {own : String} {idx n : Nat} {k : zY} (h : zLkV own idx k n) : GoodIn zT (wsV own idx k.1.cls k.1 (zws k)) := by
  obtain ⟨⟨⟨h1, h2, h3⟩, -⟩, h4, h5⟩ := h
  intro w hw
  have hm : w ∈ zT := by
    simp only [wsV, zws, List.mem_append, List.mem_cons, List.not_mem_nil, or_false] at hw
    rcases hw with (rfl | rfl | rfl | rfl) | rfl | hw <;> assumption
  exact ⟨hm, zT_good w hm⟩
theorem sn_callS : zr_callS (WX l dC dI dA ad B0 Lx xs) := by
  intro d y pc L st M Q idx k As R hd hlk hcat hlen hst hcal hk p e s m args below meth c RR H locs cells slots Q' ls C hl hw hq
  have C0 := C
  obtain ⟨hx, hb, hml, hown, hts, ⟨hR1, hR2, hR3, hR4⟩, hE⟩ := C
  have hlk2 := hlk
  obtain ⟨⟨-, hpl, hd3, hmx⟩, -⟩ := hlk2
  have hstk : (As.reverse ++ st).map (zv ad) = (As.map (zv ad)).reverse ++ st.map (zv ad) := by rw [List.map_append, List.map_reverse]
  rw [hstk]
  have hrm : (zrm d).frames + 1 ≤ RR.frames ∧ 8 + (k.2.2.1 + 11) + (zrm d).locals ≤ RR.locals := ⟨hR1, by show 8 + (k.2.2.1 + 11) + 64 * d ≤ RR.locals; omega⟩
  have hroom : ((st.map (zv ad)).map fun v => v.category).sum ≤ 8 := by rw [zcat_map]; exact hst
  cases hret : k.2.2.2 with
  | none =>
    refine va_callv (va_runS (As := As.map (zv ad)) (rest := st.map (zv ad)) ⟨hx, hb, hml, hown, hts⟩ (met_v hret hpl hcat hlen hcal) (va_cwS (rm := zrm d) As.length hts (zgood_S hlk) rfl rfl rfl hd3 hrm) ⟨zPc_blind, fun U hU hW => zPc_at hE hw U hU hW⟩ rfl (by simp) hl.1.1 rfl (lv_room hroom) hd ⟨hR3, hR4⟩) hw.2.2.2 (fun q _ h => h) (fun q h => h) (fun u t H1 locs1 ht hvm hpost hB hz hkk hS' => ?_)
    exact hk none u hpost p e s m args below meth c RR H1 locs1 cells slots Q' ls C0 hl ⟨hw.1, by rw [← ht]; exact hB.1, hB.2, hS'⟩ hq
  | some ty =>
    refine va_calli (va_runS (As := As.map (zv ad)) (rest := st.map (zv ad)) ⟨hx, hb, hml, hown, hts⟩ (met_i hret hpl hcat hlen hcal) (va_cwS (rm := zrm d) As.length hts (zgood_S hlk) rfl rfl rfl hd3 hrm) ⟨zPc_blind, fun U hU hW => zPc_at hE hw U hU hW⟩ rfl (by simp) hl.1.1 rfl (lv_room hroom) hd ⟨hR3, hR4⟩) hw.2.2.2 (fun q _ h => h) (fun q h => h) (fun r u t H1 locs1 ht hvm hpost hB hz hkk hS' => ?_)
    exact hk (some r) u hpost p e s m args below meth c RR H1 locs1 cells slots Q' ls C0 hl ⟨hw.1, by rw [← ht]; exact hB.1, hB.2, hS'⟩ hq
theorem zrec_cell {b : Nat} {Cn : String} {s : State} {H : Heap} {M : zM} {locs : List Loc} (h : zrec b Cn) (hE : zEnv ad B0 Lx xs s s.heap) (hw : zWd dC dI dA ad B0 s H M locs) : ∃ cellB : Cell, H[ad b]? = some cellB ∧ cellB.vm.isStatics = false ∧ s.vm.findClass Cn = some cellB.cls := by
  rcases h with ⟨ci, T, N, h1, h2⟩ | ⟨rfl, rfl⟩
  · exact va_recv hw.1 hw.2.1 h2 (zw_at h1)
  · exact vk_recv (i := 0) hE.2.2.2.1 (by decide) hw.2.2.2
theorem sn_callV : zr_callV (WX l dC dI dA ad B0 Lx xs) := by
  intro d y pc L st M Q idx k b As R hd hlk hrec hcat hlen hst hcal hk p e s m args below meth c RR H locs cells slots Q' ls C hl hw hq
  have C0 := C
  obtain ⟨hx, hb, hml, hown, hts, ⟨hR1, hR2, hR3, hR4⟩, hE⟩ := C
  have hlk2 := hlk
  obtain ⟨⟨-, hpl, hd3, hmx⟩, -⟩ := hlk2
  have hstk : (As.reverse ++ .ref b :: st).map (zv ad) = (As.map (zv ad)).reverse ++ .ref (ad b) :: st.map (zv ad) := by rw [List.map_append, List.map_reverse]; rfl
  rw [hstk]
  have hcat' : ∀ v ∈ (Value.ref b :: As), v.category = 1 := by
    intro v hv
    rcases List.mem_cons.mp hv with rfl | hv
    · rfl
    · exact hcat v hv
  have hrm : (zrm d).frames + 1 ≤ RR.frames ∧ 8 + (k.2.2.1 + 11) + (zrm d).locals ≤ RR.locals := ⟨hR1, by show 8 + (k.2.2.1 + 11) + 64 * d ≤ RR.locals; omega⟩
  have hroom : ((st.map (zv ad)).map fun v => v.category).sum ≤ 8 := by rw [zcat_map]; exact hst
  cases hret : k.2.2.2 with
  | none =>
    refine va_callv (va_runV (As := As.map (zv ad)) (rest := st.map (zv ad)) ⟨hx, hb, hml, hown, hts⟩ (met_v hret hpl hcat' hlen hcal) (cwV (rm := zrm d) As.length hts (zgood_V hlk) rfl rfl rfl ⟨rfl, hd3⟩ hrm) ⟨zPc_blind, zrec_cell hrec hE hw, fun U hU hW => zPc_at hE hw U hU hW⟩ rfl (by simp) hl.1.1 rfl (lv_room hroom) hd ⟨hR3, hR4⟩) hw.2.2.2 (fun q _ h => h) (fun q h => h) (fun u t H1 locs1 ht hvm hpost hB hz hkk hS' => ?_)
    exact hk none u hpost p e s m args below meth c RR H1 locs1 cells slots Q' ls C0 hl ⟨hw.1, by rw [← ht]; exact hB.1, hB.2, hS'⟩ hq
  | some ty =>
    refine va_calli (va_runV (As := As.map (zv ad)) (rest := st.map (zv ad)) ⟨hx, hb, hml, hown, hts⟩ (met_i hret hpl hcat' hlen hcal) (cwV (rm := zrm d) As.length hts (zgood_V hlk) rfl rfl rfl ⟨rfl, hd3⟩ hrm) ⟨zPc_blind, zrec_cell hrec hE hw, fun U hU hW => zPc_at hE hw U hU hW⟩ rfl (by simp) hl.1.1 rfl (lv_room hroom) hd ⟨hR3, hR4⟩) hw.2.2.2 (fun q _ h => h) (fun q h => h) (fun r u t H1 locs1 ht hvm hpost hB hz hkk hS' => ?_)
    exact hk (some r) u hpost p e s m args below meth c RR H1 locs1 cells slots Q' ls C0 hl ⟨hw.1, by rw [← ht]; exact hB.1, hB.2, hS'⟩ hq
theorem zsound {d : Nat} {y : zY} {pc : Nat} {L : Nat → Value} {st : List Value} {M : zM} {Q : zQ} (h : Ev Lx xs d y pc L st M Q) : WX l dC dI dA ad B0 Lx xs d y pc L st M Q :=
  h _ ⟨sn_done, sn_const, sn_il, sn_al, sn_is, sn_as, sn_inc, sn_bin, sn_un, sn_stk, sn_icmp, sn_if, sn_goto, sn_tin, sn_tout, sn_geti, sn_getr, sn_puti, sn_putr, sn_ald, sn_ast, sn_alen, sn_lald, sn_last, sn_i2l, sn_lcmp, sn_sld, sn_slen, sn_copy, sn_max, sn_min, sn_ldcS, sn_sval, sn_scod, sn_scmp, sn_sbld, sn_sblen, sn_callS, sn_callV⟩
end
end
section
/- handier forms of the steps -/
def zpost (y : zY) (R : Option Int32 → zM → Prop) : zQ := fun pc _ st M => ∃ o, zEnd y pc st o ∧ R o M
theorem zall {As : List Value} (h : As.all (fun v => v.category == 1) = true) : ∀ v ∈ As, v.category = 1 := by
  intro v hv
  have := List.all_eq_true.mp h v hv
  simpa using this
theorem nI_mul (a b : Nat) : nI a * nI b = nI (a * b) := pk_mul a b
section
variable {Lx : Nat} {xs : Nat → Int32} {d : Nat} {y : zY} {pc : Nat} {L : Nat → Value} {st : List Value} {M : zM} {Q : zQ}
theorem ev_inc1 {i k : Nat} (h0 : decode y.2.1 pc = .ok (.iinc i 1, 3)) (h1 : L i = .int (nI k)) (h2 : Ev Lx xs d y (pc + 3) (zu L i (.int (nI (k + 1)))) st M Q) : Ev Lx xs d y pc L st M Q :=
  ev_inc h0 h1 (by rw [show nI k + Int32.ofInt 1 = nI (k + 1) from (nI_succ k).symm]; exact h2)
theorem ev_add {a b : Int32} (h0 : decode y.2.1 pc = .ok (.iadd, 1)) (h2 : Ev Lx xs d y (pc + 1) L (.int (a + b) :: st) M Q) : Ev Lx xs d y pc L (.int b :: .int a :: st) M Q := ev_bin h0 rfl h2
theorem ev_sub {a b : Int32} (h0 : decode y.2.1 pc = .ok (.isub, 1)) (h2 : Ev Lx xs d y (pc + 1) L (.int (a - b) :: st) M Q) : Ev Lx xs d y pc L (.int b :: .int a :: st) M Q := ev_bin h0 rfl h2
theorem ev_mul {a b : Int32} (h0 : decode y.2.1 pc = .ok (.imul, 1)) (h2 : Ev Lx xs d y (pc + 1) L (.int (a * b) :: st) M Q) : Ev Lx xs d y pc L (.int b :: .int a :: st) M Q := ev_bin h0 rfl h2
theorem ev_and {a b : Int32} (h0 : decode y.2.1 pc = .ok (.iand, 1)) (h2 : Ev Lx xs d y (pc + 1) L (.int (a &&& b) :: st) M Q) : Ev Lx xs d y pc L (.int b :: .int a :: st) M Q := ev_bin h0 rfl h2
theorem ev_shr {a b : Int32} (h0 : decode y.2.1 pc = .ok (.ishr, 1)) (h2 : Ev Lx xs d y (pc + 1) L (.int (a >>> (b &&& 31)) :: st) M Q) : Ev Lx xs d y pc L (.int b :: .int a :: st) M Q := ev_bin h0 rfl h2
theorem ev_addN {a b : Nat} (h0 : decode y.2.1 pc = .ok (.iadd, 1)) (h2 : Ev Lx xs d y (pc + 1) L (.int (nI (a + b)) :: st) M Q) : Ev Lx xs d y pc L (.int (nI b) :: .int (nI a) :: st) M Q := ev_add h0 (by rw [nI_add]; exact h2)
theorem ev_subN {a b : Nat} (h0 : decode y.2.1 pc = .ok (.isub, 1)) (h : b ≤ a) (h2 : Ev Lx xs d y (pc + 1) L (.int (nI (a - b)) :: st) M Q) : Ev Lx xs d y pc L (.int (nI b) :: .int (nI a) :: st) M Q := ev_sub h0 (by rw [pk_sub h]; exact h2)
theorem ev_mulN {a b : Nat} (h0 : decode y.2.1 pc = .ok (.imul, 1)) (h2 : Ev Lx xs d y (pc + 1) L (.int (nI (a * b)) :: st) M Q) : Ev Lx xs d y pc L (.int (nI b) :: .int (nI a) :: st) M Q := ev_mul h0 (by rw [nI_mul]; exact h2)
theorem ev_divN {a b : Nat} (h0 : decode y.2.1 pc = .ok (.idiv, 1)) (ha : a < 2 ^ 31) (hb : 0 < b) (hb2 : b < 2 ^ 31) (h2 : Ev Lx xs d y (pc + 1) L (.int (nI (a / b)) :: st) M Q) : Ev Lx xs d y pc L (.int (nI b) :: .int (nI a) :: st) M Q :=
  ev_bin h0 (by show (if nI b = 0 then none else some (nI a / nI b)) = some (nI (a / b)); rw [if_neg (nI_ne0 hb hb2), pk_div ha hb hb2]) h2
theorem ev_remN {a b : Nat} (h0 : decode y.2.1 pc = .ok (.irem, 1)) (ha : a < 2 ^ 31) (hb : 0 < b) (hb2 : b < 2 ^ 31) (h2 : Ev Lx xs d y (pc + 1) L (.int (nI (a % b)) :: st) M Q) : Ev Lx xs d y pc L (.int (nI b) :: .int (nI a) :: st) M Q :=
  ev_bin h0 (by show (if nI b = 0 then none else some (nI a - nI a / nI b * nI b)) = some (nI (a % b)); rw [if_neg (nI_ne0 hb hb2), pk_rem ha hb hb2]) h2
theorem ev_if0 {op : Jvm.ClassFile.Cond} {off : Int} {tgt : Nat} {a : Int32} (h0 : decode y.2.1 pc = .ok (.ifCond op off, 3)) (h1 : (pc : Int) + off = (tgt : Int)) (h2 : zcond op a (nI 0) → Ev Lx xs d y tgt L st M Q) (h3 : ¬ zcond op a (nI 0) → Ev Lx xs d y (pc + 3) L st M Q) : Ev Lx xs d y pc L (.int a :: st) M Q := ev_if h0 h1 h2 h3
theorem ev_getrP {idx o ci k q : Nat} (h0 : decode y.2.1 pc = .ok (.getfield idx, 3)) (h1 : zFld y.1.cls idx ci k true) (h2 : zsh[o]? = some (.inr ci)) (hq : M.2.1 o k = q) (h3 : Ev Lx xs d y (pc + 3) L (.ref q :: st) M Q) : Ev Lx xs d y pc L (.ref o :: st) M Q := ev_getr h0 h1 h2 (by rw [hq]; exact h3)
theorem ev_aldN {ins : Instr} {t o n i : Nat} (h0 : decode y.2.1 pc = .ok (ins, 1)) (h1 : zld ins = some t) (h2 : zsh[o]? = some (.inl (t, n))) (h3 : i < n) (h4 : Ev Lx xs d y (pc + 1) L (.int (M.1 o i) :: st) M Q) : Ev Lx xs d y pc L (.int (nI i) :: .ref o :: st) M Q := by
  have hn := zsh_len h2
  refine ev_ald h0 h1 h2 (vp_in_nI h3 (by omega)) ?_
  rw [nI_clamp (by omega)]; exact h4
theorem ev_iastN {o n i : Nat} {x : Int32} (h0 : decode y.2.1 pc = .ok (.iastore, 1)) (h2 : zsh[o]? = some (.inl (0, n))) (h3 : i < n) (h4 : Ev Lx xs d y (pc + 1) L st (zI M o i x) Q) : Ev Lx xs d y pc L (.int x :: .int (nI i) :: .ref o :: st) M Q := by
  have hn := zsh_len h2
  refine ev_ast h0 rfl h2 (vp_in_nI h3 (by omega)) ?_
  rw [nI_clamp (by omega)]; exact h4
theorem ev_castN {o n i c : Nat} (h0 : decode y.2.1 pc = .ok (.castore, 1)) (h2 : zsh[o]? = some (.inl (1, n))) (h3 : i < n) (hc : c < 65536) (h4 : Ev Lx xs d y (pc + 1) L st (zI M o i (nI c)) Q) : Ev Lx xs d y pc L (.int (nI c) :: .int (nI i) :: .ref o :: st) M Q := by
  have hn := zsh_len h2
  refine ev_ast h0 rfl h2 (vp_in_nI h3 (by omega)) ?_
  have hz : znr 1 (nI c) = nI c := by
    show vp_nar .char (nI c) = nI c
    unfold vp_nar
    rw [(pk_charN hc).1]
  rw [nI_clamp (by omega), hz]; exact h4
theorem ev_zastN {o n i c : Nat} (h0 : decode y.2.1 pc = .ok (.bastore, 1)) (h2 : zsh[o]? = some (.inl (2, n))) (h3 : i < n) (hc : c < 2) (h4 : Ev Lx xs d y (pc + 1) L st (zI M o i (nI c)) Q) : Ev Lx xs d y pc L (.int (nI c) :: .int (nI i) :: .ref o :: st) M Q := by
  have hn := zsh_len h2
  refine ev_ast h0 rfl h2 (vp_in_nI h3 (by omega)) ?_
  have hz : znr 2 (nI c) = nI c := by
    rcases (show c = 0 ∨ c = 1 by omega) with rfl | rfl <;> decide
  rw [nI_clamp (by omega), hz]; exact h4
theorem ev_ret {x : Int32} {ty : FieldType} {R : Option Int32 → zM → Prop} (h0 : decode y.2.1 pc = .ok (.ireturn, 1)) (h1 : y.2.2.2 = some ty) (h2 : narrow ty (.int x) = .int x) (h3 : R (some x) M) : Ev Lx xs d y pc L [.int x] M (zpost y R) := ev_done ⟨some x, ⟨h0, rfl, ty, h1, h2⟩, h3⟩
theorem ev_vret {R : Option Int32 → zM → Prop} (h0 : decode y.2.1 pc = .ok (.return_, 1)) (h1 : y.2.2.2 = none) (h3 : R none M) : Ev Lx xs d y pc L [] M (zpost y R) := ev_done ⟨none, ⟨h0, rfl, h1⟩, h3⟩
end
/-- the method y, called with As: it returns, R holds of its answer and its end -/
def Ct (Lx : Nat) (xs : Nat → Int32) (d : Nat) (y : zY) (As : List Value) (M : zM) (R : Option Int32 → zM → Prop) : Prop := Ev Lx xs d y 0 (zarg As) [] M (zpost y R)
/-- a method that answers x and changes nothing -/
def Pu (Lx : Nat) (xs : Nat → Int32) (d : Nat) (y : zY) (As : List Value) (M : zM) (x : Int32) : Prop := Ct Lx xs d y As M (fun o M' => o = some x ∧ M' = M)
section
variable {Lx : Nat} {xs : Nat → Int32} {d : Nat} {y : zY} {pc : Nat} {L : Nat → Value} {st stk : List Value} {M : zM} {Q : zQ}
theorem ev_cS {idx : Nat} {k : zY} {As : List Value} {R : Option Int32 → zM → Prop} (h0 : decode y.2.1 pc = .ok (.invokestatic idx, 3)) (h1 : zLkS y.1.cls idx k As.length) (h2 : As.all (fun v => v.category == 1) = true) (h3 : As.length ≤ k.2.2.1) (hc : Ct Lx xs d k As M R) (hs : stk = As.reverse ++ st) (h4 : zcat st ≤ 8) (h6 : ∀ o M', R o M' → Ev Lx xs (d + 1) y (pc + 3) L (zpush o st) M' Q) : Ev Lx xs (d + 1) y pc L stk M Q := by
  subst hs; exact ev_callS h0 h1 (zall h2) h3 h4 hc h6
theorem ev_cV {idx b : Nat} {k : zY} {As : List Value} {R : Option Int32 → zM → Prop} (h0 : decode y.2.1 pc = .ok (.invokevirtual idx, 3)) (h1 : zLkV y.1.cls idx k As.length) (hb : zrec b k.1.cls) (h2 : As.all (fun v => v.category == 1) = true) (h3 : As.length + 1 ≤ k.2.2.1) (hc : Ct Lx xs d k (.ref b :: As) M R) (hs : stk = As.reverse ++ .ref b :: st) (h4 : zcat st ≤ 8) (h6 : ∀ o M', R o M' → Ev Lx xs (d + 1) y (pc + 3) L (zpush o st) M' Q) : Ev Lx xs (d + 1) y pc L stk M Q := by
  subst hs; exact ev_callV h0 h1 hb (zall h2) h3 h4 hc h6
theorem ev_pS {idx : Nat} {k : zY} {As : List Value} {x : Int32} (h0 : decode y.2.1 pc = .ok (.invokestatic idx, 3)) (h1 : zLkS y.1.cls idx k As.length) (h2 : As.all (fun v => v.category == 1) = true) (h3 : As.length ≤ k.2.2.1) (hc : Pu Lx xs d k As M x) (hs : stk = As.reverse ++ st) (h4 : zcat st ≤ 8) (h6 : Ev Lx xs (d + 1) y (pc + 3) L (.int x :: st) M Q) : Ev Lx xs (d + 1) y pc L stk M Q :=
  ev_cS h0 h1 h2 h3 hc hs h4 (fun o M' h => by obtain ⟨rfl, rfl⟩ := h; exact h6)
theorem ev_pV {idx b : Nat} {k : zY} {As : List Value} {x : Int32} (h0 : decode y.2.1 pc = .ok (.invokevirtual idx, 3)) (h1 : zLkV y.1.cls idx k As.length) (hb : zrec b k.1.cls) (h2 : As.all (fun v => v.category == 1) = true) (h3 : As.length + 1 ≤ k.2.2.1) (hc : Pu Lx xs d k (.ref b :: As) M x) (hs : stk = As.reverse ++ .ref b :: st) (h4 : zcat st ≤ 8) (h6 : Ev Lx xs (d + 1) y (pc + 3) L (.int x :: st) M Q) : Ev Lx xs (d + 1) y pc L stk M Q :=
  ev_cV h0 h1 hb h2 h3 hc hs h4 (fun o M' h => by obtain ⟨rfl, rfl⟩ := h; exact h6)
end
end
section
/- links of fields and calls (printed by program) -/
theorem fS_9 : zFld "KeptItems$Source" 9 2 0 true := ⟨_, _, _, rfl, by decide, zin 39 (by decide +kernel) (by decide +kernel), rfl⟩
theorem fK_66 : zFld "KeptItems" 66 2 0 true := ⟨_, _, _, rfl, by decide, zin 40 (by decide +kernel) (by decide +kernel), rfl⟩
theorem fS_28 : zFld "KeptItems$Source" 28 2 1 false := ⟨_, _, _, rfl, by decide, zin 41 (by decide +kernel) (by decide +kernel), rfl⟩
theorem fR_45 : zFld "KeptItems$Reading" 45 2 1 false := ⟨_, _, _, rfl, by decide, zin 42 (by decide +kernel) (by decide +kernel), rfl⟩
theorem fK_35 : zFld "KeptItems" 35 2 1 false := ⟨_, _, _, rfl, by decide, zin 43 (by decide +kernel) (by decide +kernel), rfl⟩
theorem fS_15 : zFld "KeptItems$Source" 15 2 2 true := ⟨_, _, _, rfl, by decide, zin 44 (by decide +kernel) (by decide +kernel), rfl⟩
theorem fK_69 : zFld "KeptItems" 69 2 2 true := ⟨_, _, _, rfl, by decide, zin 45 (by decide +kernel) (by decide +kernel), rfl⟩
theorem fS_19 : zFld "KeptItems$Source" 19 2 3 true := ⟨_, _, _, rfl, by decide, zin 46 (by decide +kernel) (by decide +kernel), rfl⟩
theorem fR_48 : zFld "KeptItems$Reading" 48 2 3 true := ⟨_, _, _, rfl, by decide, zin 47 (by decide +kernel) (by decide +kernel), rfl⟩
theorem fR_36 : zFld "KeptItems$Reading" 36 2 4 false := ⟨_, _, _, rfl, by decide, zin 48 (by decide +kernel) (by decide +kernel), rfl⟩
theorem fS_32 : zFld "KeptItems$Source" 32 2 4 false := ⟨_, _, _, rfl, by decide, zin 49 (by decide +kernel) (by decide +kernel), rfl⟩
theorem fK_63 : zFld "KeptItems" 63 2 4 false := ⟨_, _, _, rfl, by decide, zin 50 (by decide +kernel) (by decide +kernel), rfl⟩
theorem fT_9 : zFld "KeptItems$Tree" 9 3 0 true := ⟨_, _, _, rfl, by decide, zin 70 (by decide +kernel) (by decide +kernel), rfl⟩
theorem fR_56 : zFld "KeptItems$Reading" 56 3 0 true := ⟨_, _, _, rfl, by decide, zin 71 (by decide +kernel) (by decide +kernel), rfl⟩
theorem fK_97 : zFld "KeptItems" 97 3 0 true := ⟨_, _, _, rfl, by decide, zin 72 (by decide +kernel) (by decide +kernel), rfl⟩
theorem fT_15 : zFld "KeptItems$Tree" 15 3 1 true := ⟨_, _, _, rfl, by decide, zin 73 (by decide +kernel) (by decide +kernel), rfl⟩
theorem fR_83 : zFld "KeptItems$Reading" 83 3 1 true := ⟨_, _, _, rfl, by decide, zin 74 (by decide +kernel) (by decide +kernel), rfl⟩
theorem fK_103 : zFld "KeptItems" 103 3 1 true := ⟨_, _, _, rfl, by decide, zin 75 (by decide +kernel) (by decide +kernel), rfl⟩
theorem fT_18 : zFld "KeptItems$Tree" 18 3 2 true := ⟨_, _, _, rfl, by decide, zin 76 (by decide +kernel) (by decide +kernel), rfl⟩
theorem fR_60 : zFld "KeptItems$Reading" 60 3 2 true := ⟨_, _, _, rfl, by decide, zin 77 (by decide +kernel) (by decide +kernel), rfl⟩
theorem fK_109 : zFld "KeptItems" 109 3 2 true := ⟨_, _, _, rfl, by decide, zin 78 (by decide +kernel) (by decide +kernel), rfl⟩
theorem fT_21 : zFld "KeptItems$Tree" 21 3 3 true := ⟨_, _, _, rfl, by decide, zin 79 (by decide +kernel) (by decide +kernel), rfl⟩
theorem fR_63 : zFld "KeptItems$Reading" 63 3 3 true := ⟨_, _, _, rfl, by decide, zin 80 (by decide +kernel) (by decide +kernel), rfl⟩
theorem fK_112 : zFld "KeptItems" 112 3 3 true := ⟨_, _, _, rfl, by decide, zin 81 (by decide +kernel) (by decide +kernel), rfl⟩
theorem fT_24 : zFld "KeptItems$Tree" 24 3 4 true := ⟨_, _, _, rfl, by decide, zin 82 (by decide +kernel) (by decide +kernel), rfl⟩
theorem fK_90 : zFld "KeptItems" 90 3 4 true := ⟨_, _, _, rfl, by decide, zin 83 (by decide +kernel) (by decide +kernel), rfl⟩
theorem fT_27 : zFld "KeptItems$Tree" 27 3 5 false := ⟨_, _, _, rfl, by decide, zin 84 (by decide +kernel) (by decide +kernel), rfl⟩
theorem fR_33 : zFld "KeptItems$Reading" 33 3 5 false := ⟨_, _, _, rfl, by decide, zin 85 (by decide +kernel) (by decide +kernel), rfl⟩
theorem fK_80 : zFld "KeptItems" 80 3 5 false := ⟨_, _, _, rfl, by decide, zin 86 (by decide +kernel) (by decide +kernel), rfl⟩
theorem fR_12 : zFld "KeptItems$Reading" 12 1 0 true := ⟨_, _, _, rfl, by decide, zin 100 (by decide +kernel) (by decide +kernel), rfl⟩
theorem fK_31 : zFld "KeptItems" 31 1 0 true := ⟨_, _, _, rfl, by decide, zin 101 (by decide +kernel) (by decide +kernel), rfl⟩
theorem fR_21 : zFld "KeptItems$Reading" 21 1 1 true := ⟨_, _, _, rfl, by decide, zin 102 (by decide +kernel) (by decide +kernel), rfl⟩
theorem fK_76 : zFld "KeptItems" 76 1 1 true := ⟨_, _, _, rfl, by decide, zin 103 (by decide +kernel) (by decide +kernel), rfl⟩
theorem fR_25 : zFld "KeptItems$Reading" 25 1 2 false := ⟨_, _, _, rfl, by decide, zin 104 (by decide +kernel) (by decide +kernel), rfl⟩
theorem fR_29 : zFld "KeptItems$Reading" 29 1 3 false := ⟨_, _, _, rfl, by decide, zin 105 (by decide +kernel) (by decide +kernel), rfl⟩
theorem fK_9 : zFld "KeptItems" 9 0 0 true := ⟨_, _, _, rfl, by decide, zin 115 (by decide +kernel) (by decide +kernel), rfl⟩
theorem fK_27 : zFld "KeptItems" 27 0 1 false := ⟨_, _, _, rfl, by decide, zin 116 (by decide +kernel) (by decide +kernel), rfl⟩
theorem fK_16 : zFld "KeptItems" 16 0 2 true := ⟨_, _, _, rfl, by decide, zin 117 (by decide +kernel) (by decide +kernel), rfl⟩
theorem fK_20 : zFld "KeptItems" 20 0 3 true := ⟨_, _, _, rfl, by decide, zin 118 (by decide +kernel) (by decide +kernel), rfl⟩
theorem fK_23 : zFld "KeptItems" 23 0 4 true := ⟨_, _, _, rfl, by decide, zin 119 (by decide +kernel) (by decide +kernel), rfl⟩
theorem fK_83 : zFld "KeptItems" 83 0 5 false := ⟨_, _, _, rfl, by decide, zin 120 (by decide +kernel) (by decide +kernel), rfl⟩
theorem fK_127 : zFld "KeptItems" 127 0 6 false := ⟨_, _, _, rfl, by decide, zin 121 (by decide +kernel) (by decide +kernel), rfl⟩
theorem fM_97 : zFld "KeptItemsModel" 97 4 0 false := ⟨_, _, _, rfl, by decide, zin 531 (by decide +kernel) (by decide +kernel), rfl⟩
theorem fM_103 : zFld "KeptItemsModel" 103 4 1 false := ⟨_, _, _, rfl, by decide, zin 532 (by decide +kernel) (by decide +kernel), rfl⟩
theorem fM_7 : zFld "KeptItemsModel" 7 4 2 true := ⟨_, _, _, rfl, by decide, zin 533 (by decide +kernel) (by decide +kernel), rfl⟩
theorem fM_100 : zFld "KeptItemsModel" 100 4 3 false := ⟨_, _, _, rfl, by decide, zin 534 (by decide +kernel) (by decide +kernel), rfl⟩
theorem fM_13 : zFld "KeptItemsModel" 13 4 4 true := ⟨_, _, _, rfl, by decide, zin 535 (by decide +kernel) (by decide +kernel), rfl⟩
theorem fM_106 : zFld "KeptItemsModel" 106 4 5 false := ⟨_, _, _, rfl, by decide, zin 536 (by decide +kernel) (by decide +kernel), rfl⟩
theorem fM_16 : zFld "KeptItemsModel" 16 4 6 true := ⟨_, _, _, rfl, by decide, zin 537 (by decide +kernel) (by decide +kernel), rfl⟩
theorem fM_20 : zFld "KeptItemsModel" 20 4 7 true := ⟨_, _, _, rfl, by decide, zin 538 (by decide +kernel) (by decide +kernel), rfl⟩
theorem fM_23 : zFld "KeptItemsModel" 23 4 8 true := ⟨_, _, _, rfl, by decide, zin 539 (by decide +kernel) (by decide +kernel), rfl⟩
theorem fM_229 : zFld "KeptItemsModel" 229 4 9 false := ⟨_, _, _, rfl, by decide, zin 540 (by decide +kernel) (by decide +kernel), rfl⟩
theorem fM_26 : zFld "KeptItemsModel" 26 4 10 true := ⟨_, _, _, rfl, by decide, zin 541 (by decide +kernel) (by decide +kernel), rfl⟩
theorem fM_29 : zFld "KeptItemsModel" 29 4 11 true := ⟨_, _, _, rfl, by decide, zin 542 (by decide +kernel) (by decide +kernel), rfl⟩
theorem fM_32 : zFld "KeptItemsModel" 32 4 12 true := ⟨_, _, _, rfl, by decide, zin 543 (by decide +kernel) (by decide +kernel), rfl⟩
theorem fM_35 : zFld "KeptItemsModel" 35 4 13 true := ⟨_, _, _, rfl, by decide, zin 544 (by decide +kernel) (by decide +kernel), rfl⟩
theorem fM_146 : zFld "KeptItemsModel" 146 4 14 false := ⟨_, _, _, rfl, by decide, zin 545 (by decide +kernel) (by decide +kernel), rfl⟩
theorem fM_137 : zFld "KeptItemsModel" 137 4 15 false := ⟨_, _, _, rfl, by decide, zin 546 (by decide +kernel) (by decide +kernel), rfl⟩
theorem fM_38 : zFld "KeptItemsModel" 38 4 16 true := ⟨_, _, _, rfl, by decide, zin 547 (by decide +kernel) (by decide +kernel), rfl⟩
theorem fM_41 : zFld "KeptItemsModel" 41 4 17 true := ⟨_, _, _, rfl, by decide, zin 548 (by decide +kernel) (by decide +kernel), rfl⟩
theorem fM_44 : zFld "KeptItemsModel" 44 4 18 true := ⟨_, _, _, rfl, by decide, zin 549 (by decide +kernel) (by decide +kernel), rfl⟩
theorem fM_47 : zFld "KeptItemsModel" 47 4 19 true := ⟨_, _, _, rfl, by decide, zin 550 (by decide +kernel) (by decide +kernel), rfl⟩
theorem fM_51 : zFld "KeptItemsModel" 51 4 20 true := ⟨_, _, _, rfl, by decide, zin 551 (by decide +kernel) (by decide +kernel), rfl⟩
theorem fM_54 : zFld "KeptItemsModel" 54 4 21 true := ⟨_, _, _, rfl, by decide, zin 552 (by decide +kernel) (by decide +kernel), rfl⟩
theorem fM_57 : zFld "KeptItemsModel" 57 4 22 true := ⟨_, _, _, rfl, by decide, zin 553 (by decide +kernel) (by decide +kernel), rfl⟩
theorem fM_232 : zFld "KeptItemsModel" 232 4 23 false := ⟨_, _, _, rfl, by decide, zin 554 (by decide +kernel) (by decide +kernel), rfl⟩
theorem fM_60 : zFld "KeptItemsModel" 60 4 24 true := ⟨_, _, _, rfl, by decide, zin 555 (by decide +kernel) (by decide +kernel), rfl⟩
theorem fM_63 : zFld "KeptItemsModel" 63 4 25 true := ⟨_, _, _, rfl, by decide, zin 556 (by decide +kernel) (by decide +kernel), rfl⟩
theorem fM_66 : zFld "KeptItemsModel" 66 4 26 true := ⟨_, _, _, rfl, by decide, zin 557 (by decide +kernel) (by decide +kernel), rfl⟩
theorem fM_244 : zFld "KeptItemsModel" 244 4 27 false := ⟨_, _, _, rfl, by decide, zin 558 (by decide +kernel) (by decide +kernel), rfl⟩
theorem fM_238 : zFld "KeptItemsModel" 238 4 28 false := ⟨_, _, _, rfl, by decide, zin 559 (by decide +kernel) (by decide +kernel), rfl⟩
theorem fM_69 : zFld "KeptItemsModel" 69 4 29 false := ⟨_, _, _, rfl, by decide, zin 560 (by decide +kernel) (by decide +kernel), rfl⟩
theorem fM_127 : zFld "KeptItemsModel" 127 4 30 false := ⟨_, _, _, rfl, by decide, zin 561 (by decide +kernel) (by decide +kernel), rfl⟩
theorem fM_73 : zFld "KeptItemsModel" 73 4 31 true := ⟨_, _, _, rfl, by decide, zin 562 (by decide +kernel) (by decide +kernel), rfl⟩
theorem fM_134 : zFld "KeptItemsModel" 134 4 32 false := ⟨_, _, _, rfl, by decide, zin 563 (by decide +kernel) (by decide +kernel), rfl⟩
theorem fM_140 : zFld "KeptItemsModel" 140 4 33 false := ⟨_, _, _, rfl, by decide, zin 564 (by decide +kernel) (by decide +kernel), rfl⟩
theorem fM_76 : zFld "KeptItemsModel" 76 4 34 true := ⟨_, _, _, rfl, by decide, zin 565 (by decide +kernel) (by decide +kernel), rfl⟩
theorem fM_143 : zFld "KeptItemsModel" 143 4 35 false := ⟨_, _, _, rfl, by decide, zin 566 (by decide +kernel) (by decide +kernel), rfl⟩
theorem fM_191 : zFld "KeptItemsModel" 191 4 36 false := ⟨_, _, _, rfl, by decide, zin 567 (by decide +kernel) (by decide +kernel), rfl⟩
theorem fM_79 : zFld "KeptItemsModel" 79 4 37 true := ⟨_, _, _, rfl, by decide, zin 568 (by decide +kernel) (by decide +kernel), rfl⟩
theorem fM_82 : zFld "KeptItemsModel" 82 4 38 true := ⟨_, _, _, rfl, by decide, zin 569 (by decide +kernel) (by decide +kernel), rfl⟩
theorem fM_85 : zFld "KeptItemsModel" 85 4 39 true := ⟨_, _, _, rfl, by decide, zin 570 (by decide +kernel) (by decide +kernel), rfl⟩
theorem fM_88 : zFld "KeptItemsModel" 88 4 40 true := ⟨_, _, _, rfl, by decide, zin 571 (by decide +kernel) (by decide +kernel), rfl⟩
theorem fM_91 : zFld "KeptItemsModel" 91 4 41 true := ⟨_, _, _, rfl, by decide, zin 572 (by decide +kernel) (by decide +kernel), rfl⟩
theorem fM_94 : zFld "KeptItemsModel" 94 4 42 true := ⟨_, _, _, rfl, by decide, zin 573 (by decide +kernel) (by decide +kernel), rfl⟩
theorem fwK_rowSize : zFlw 0 1 .int := ⟨_, _, _, rfl, rfl, by decide +kernel⟩
theorem fwK_now : zFlw 0 2 (.object "KeptItems$Reading") := ⟨_, _, _, rfl, rfl, by decide +kernel⟩
theorem fwK_before : zFlw 0 3 (.object "KeptItems$Reading") := ⟨_, _, _, rfl, rfl, by decide +kernel⟩
theorem fwK_keptItems : zFlw 0 5 .int := ⟨_, _, _, rfl, rfl, by decide +kernel⟩
theorem fwK_numbersGiven : zFlw 0 6 .int := ⟨_, _, _, rfl, rfl, by decide +kernel⟩
theorem fwR_next : zFlw 1 2 .int := ⟨_, _, _, rfl, rfl, by decide +kernel⟩
theorem fwR_stopped : zFlw 1 3 .boolean := ⟨_, _, _, rfl, rfl, by decide +kernel⟩
theorem fwS_size : zFlw 2 1 .int := ⟨_, _, _, rfl, rfl, by decide +kernel⟩
theorem fwS_count : zFlw 2 4 .int := ⟨_, _, _, rfl, rfl, by decide +kernel⟩
theorem fwT_count : zFlw 3 5 .int := ⟨_, _, _, rfl, rfl, by decide +kernel⟩
theorem fwM_thrown : zFlw 4 0 .int := ⟨_, _, _, rfl, rfl, by decide +kernel⟩
theorem fwM_size : zFlw 4 1 .int := ⟨_, _, _, rfl, rfl, by decide +kernel⟩
theorem fwM_typed : zFlw 4 3 .int := ⟨_, _, _, rfl, rfl, by decide +kernel⟩
theorem fwM_tokens : zFlw 4 5 .int := ⟨_, _, _, rfl, rfl, by decide +kernel⟩
theorem fwM_oldTokens : zFlw 4 9 .int := ⟨_, _, _, rfl, rfl, by decide +kernel⟩
theorem fwM_items : zFlw 4 14 .int := ⟨_, _, _, rfl, rfl, by decide +kernel⟩
theorem fwM_begun : zFlw 4 15 .int := ⟨_, _, _, rfl, rfl, by decide +kernel⟩
theorem fwM_oldItems : zFlw 4 23 .int := ⟨_, _, _, rfl, rfl, by decide +kernel⟩
theorem fwM_fresh : zFlw 4 27 .int := ⟨_, _, _, rfl, rfl, by decide +kernel⟩
theorem fwM_stayed : zFlw 4 28 .int := ⟨_, _, _, rfl, rfl, by decide +kernel⟩
theorem fwM_fault : zFlw 4 29 .int := ⟨_, _, _, rfl, rfl, by decide +kernel⟩
theorem fwM_open : zFlw 4 30 .int := ⟨_, _, _, rfl, rfl, by decide +kernel⟩
theorem fwM_state : zFlw 4 32 .int := ⟨_, _, _, rfl, rfl, by decide +kernel⟩
theorem fwM_blocks : zFlw 4 33 .int := ⟨_, _, _, rfl, rfl, by decide +kernel⟩
theorem fwM_item : zFlw 4 35 .int := ⟨_, _, _, rfl, rfl, by decide +kernel⟩
theorem fwM_deep : zFlw 4 36 .int := ⟨_, _, _, rfl, rfl, by decide +kernel⟩
theorem lW_34 : zLkV "KeptItemsLaw" 34 mK_type 1 := ⟨⟨⟨zin 137 (by decide +kernel) (by decide +kernel), zin 1 (by decide +kernel) (by decide +kernel), zin 140 (by decide +kernel) (by decide +kernel)⟩, (by decide +kernel), ⟨(by decide +kernel), (by decide +kernel), (by decide +kernel)⟩, by decide⟩, zin 138 (by decide +kernel) (by decide +kernel), zin 139 (by decide +kernel) (by decide +kernel)⟩
theorem lW_39 : zLkV "KeptItemsLaw" 39 mK_wipe 0 := ⟨⟨⟨zin 141 (by decide +kernel) (by decide +kernel), zin 1 (by decide +kernel) (by decide +kernel), zin 144 (by decide +kernel) (by decide +kernel)⟩, (by decide +kernel), ⟨(by decide +kernel), (by decide +kernel), (by decide +kernel)⟩, by decide⟩, zin 142 (by decide +kernel) (by decide +kernel), zin 143 (by decide +kernel) (by decide +kernel)⟩
theorem lW_53 : zLkV "KeptItemsLaw" 53 mK_length 0 := ⟨⟨⟨zin 145 (by decide +kernel) (by decide +kernel), zin 1 (by decide +kernel) (by decide +kernel), zin 148 (by decide +kernel) (by decide +kernel)⟩, (by decide +kernel), ⟨(by decide +kernel), (by decide +kernel), (by decide +kernel)⟩, by decide⟩, zin 146 (by decide +kernel) (by decide +kernel), zin 147 (by decide +kernel) (by decide +kernel)⟩
theorem lW_57 : zLkV "KeptItemsLaw" 57 mK_at 1 := ⟨⟨⟨zin 149 (by decide +kernel) (by decide +kernel), zin 1 (by decide +kernel) (by decide +kernel), zin 152 (by decide +kernel) (by decide +kernel)⟩, (by decide +kernel), ⟨(by decide +kernel), (by decide +kernel), (by decide +kernel)⟩, by decide⟩, zin 150 (by decide +kernel) (by decide +kernel), zin 151 (by decide +kernel) (by decide +kernel)⟩
theorem lW_62 : zLkV "KeptItemsLaw" 62 mK_tokens 0 := ⟨⟨⟨zin 153 (by decide +kernel) (by decide +kernel), zin 1 (by decide +kernel) (by decide +kernel), zin 156 (by decide +kernel) (by decide +kernel)⟩, (by decide +kernel), ⟨(by decide +kernel), (by decide +kernel), (by decide +kernel)⟩, by decide⟩, zin 154 (by decide +kernel) (by decide +kernel), zin 155 (by decide +kernel) (by decide +kernel)⟩
theorem lW_70 : zLkV "KeptItemsLaw" 70 mK_fault 0 := ⟨⟨⟨zin 157 (by decide +kernel) (by decide +kernel), zin 1 (by decide +kernel) (by decide +kernel), zin 160 (by decide +kernel) (by decide +kernel)⟩, (by decide +kernel), ⟨(by decide +kernel), (by decide +kernel), (by decide +kernel)⟩, by decide⟩, zin 158 (by decide +kernel) (by decide +kernel), zin 159 (by decide +kernel) (by decide +kernel)⟩
theorem lK_72 : zLkV "KeptItems" 72 mR_faultPlace 0 := ⟨⟨⟨zin 161 (by decide +kernel) (by decide +kernel), zin 2 (by decide +kernel) (by decide +kernel), zin 164 (by decide +kernel) (by decide +kernel)⟩, (by decide +kernel), ⟨(by decide +kernel), (by decide +kernel), (by decide +kernel)⟩, by decide⟩, zin 162 (by decide +kernel) (by decide +kernel), zin 163 (by decide +kernel) (by decide +kernel)⟩
theorem lR_41 : zLkV "KeptItems$Reading" 41 mS_placeOf 1 := ⟨⟨⟨zin 165 (by decide +kernel) (by decide +kernel), zin 3 (by decide +kernel) (by decide +kernel), zin 168 (by decide +kernel) (by decide +kernel)⟩, (by decide +kernel), ⟨(by decide +kernel), (by decide +kernel), (by decide +kernel)⟩, by decide⟩, zin 166 (by decide +kernel) (by decide +kernel), zin 167 (by decide +kernel) (by decide +kernel)⟩
theorem lW_74 : zLkV "KeptItemsLaw" 74 mK_items 0 := ⟨⟨⟨zin 169 (by decide +kernel) (by decide +kernel), zin 1 (by decide +kernel) (by decide +kernel), zin 172 (by decide +kernel) (by decide +kernel)⟩, (by decide +kernel), ⟨(by decide +kernel), (by decide +kernel), (by decide +kernel)⟩, by decide⟩, zin 170 (by decide +kernel) (by decide +kernel), zin 171 (by decide +kernel) (by decide +kernel)⟩
theorem lW_78 : zLkV "KeptItemsLaw" 78 mK_kept 0 := ⟨⟨⟨zin 173 (by decide +kernel) (by decide +kernel), zin 1 (by decide +kernel) (by decide +kernel), zin 176 (by decide +kernel) (by decide +kernel)⟩, (by decide +kernel), ⟨(by decide +kernel), (by decide +kernel), (by decide +kernel)⟩, by decide⟩, zin 174 (by decide +kernel) (by decide +kernel), zin 175 (by decide +kernel) (by decide +kernel)⟩
theorem lW_82 : zLkV "KeptItemsLaw" 82 mK_number 1 := ⟨⟨⟨zin 177 (by decide +kernel) (by decide +kernel), zin 1 (by decide +kernel) (by decide +kernel), zin 180 (by decide +kernel) (by decide +kernel)⟩, (by decide +kernel), ⟨(by decide +kernel), (by decide +kernel), (by decide +kernel)⟩, by decide⟩, zin 178 (by decide +kernel) (by decide +kernel), zin 179 (by decide +kernel) (by decide +kernel)⟩
theorem lK_86 : zLkV "KeptItems" 86 mT_has 1 := ⟨⟨⟨zin 181 (by decide +kernel) (by decide +kernel), zin 4 (by decide +kernel) (by decide +kernel), zin 184 (by decide +kernel) (by decide +kernel)⟩, (by decide +kernel), ⟨(by decide +kernel), (by decide +kernel), (by decide +kernel)⟩, by decide⟩, zin 182 (by decide +kernel) (by decide +kernel), zin 183 (by decide +kernel) (by decide +kernel)⟩
theorem lW_86 : zLkV "KeptItemsLaw" 86 mK_which 1 := ⟨⟨⟨zin 185 (by decide +kernel) (by decide +kernel), zin 1 (by decide +kernel) (by decide +kernel), zin 188 (by decide +kernel) (by decide +kernel)⟩, (by decide +kernel), ⟨(by decide +kernel), (by decide +kernel), (by decide +kernel)⟩, by decide⟩, zin 186 (by decide +kernel) (by decide +kernel), zin 187 (by decide +kernel) (by decide +kernel)⟩
theorem lK_93 : zLkV "KeptItems" 93 mT_itemNumbered 1 := ⟨⟨⟨zin 189 (by decide +kernel) (by decide +kernel), zin 4 (by decide +kernel) (by decide +kernel), zin 192 (by decide +kernel) (by decide +kernel)⟩, (by decide +kernel), ⟨(by decide +kernel), (by decide +kernel), (by decide +kernel)⟩, by decide⟩, zin 190 (by decide +kernel) (by decide +kernel), zin 191 (by decide +kernel) (by decide +kernel)⟩
theorem lW_96 : zLkV "KeptItemsLaw" 96 mK_level 1 := ⟨⟨⟨zin 193 (by decide +kernel) (by decide +kernel), zin 1 (by decide +kernel) (by decide +kernel), zin 196 (by decide +kernel) (by decide +kernel)⟩, (by decide +kernel), ⟨(by decide +kernel), (by decide +kernel), (by decide +kernel)⟩, by decide⟩, zin 194 (by decide +kernel) (by decide +kernel), zin 195 (by decide +kernel) (by decide +kernel)⟩
theorem lW_7 : zLkV "KeptItemsLaw" 7 mK_edit 2 := ⟨⟨⟨zin 202 (by decide +kernel) (by decide +kernel), zin 1 (by decide +kernel) (by decide +kernel), zin 205 (by decide +kernel) (by decide +kernel)⟩, (by decide +kernel), ⟨(by decide +kernel), (by decide +kernel), (by decide +kernel)⟩, by decide⟩, zin 203 (by decide +kernel) (by decide +kernel), zin 204 (by decide +kernel) (by decide +kernel)⟩
theorem lK_46 : zLkV "KeptItems" 46 mS_fill 5 := ⟨⟨⟨zin 283 (by decide +kernel) (by decide +kernel), zin 3 (by decide +kernel) (by decide +kernel), zin 286 (by decide +kernel) (by decide +kernel)⟩, (by decide +kernel), ⟨(by decide +kernel), (by decide +kernel), (by decide +kernel)⟩, by decide⟩, zin 284 (by decide +kernel) (by decide +kernel), zin 285 (by decide +kernel) (by decide +kernel)⟩
theorem lK_50 : zLkV "KeptItems" 50 mS_findTokens 0 := ⟨⟨⟨zin 290 (by decide +kernel) (by decide +kernel), zin 3 (by decide +kernel) (by decide +kernel), zin 293 (by decide +kernel) (by decide +kernel)⟩, (by decide +kernel), ⟨(by decide +kernel), (by decide +kernel), (by decide +kernel)⟩, by decide⟩, zin 291 (by decide +kernel) (by decide +kernel), zin 292 (by decide +kernel) (by decide +kernel)⟩
theorem lS_35 : zLkV "KeptItems$Source" 35 mS_passBlanks 1 := ⟨⟨⟨zin 294 (by decide +kernel) (by decide +kernel), zin 3 (by decide +kernel) (by decide +kernel), zin 297 (by decide +kernel) (by decide +kernel)⟩, (by decide +kernel), ⟨(by decide +kernel), (by decide +kernel), (by decide +kernel)⟩, by decide⟩, zin 296 (by decide +kernel) (by decide +kernel), zinS (q := (⟨"KeptItems$Source", "passBlanks", "(I)I"⟩, 5)) 1 (by decide +kernel)⟩
theorem lS_39 : zLkV "KeptItems$Source" 39 mS_tokenFrom 1 := ⟨⟨⟨zin 298 (by decide +kernel) (by decide +kernel), zin 3 (by decide +kernel) (by decide +kernel), zin 301 (by decide +kernel) (by decide +kernel)⟩, (by decide +kernel), ⟨(by decide +kernel), (by decide +kernel), (by decide +kernel)⟩, by decide⟩, zin 300 (by decide +kernel) (by decide +kernel), zinS (q := (⟨"KeptItems$Source", "tokenFrom", "(I)I"⟩, 5)) 2 (by decide +kernel)⟩
theorem lS_49 : zLkV "KeptItems$Source" 49 mS_quotedFrom 1 := ⟨⟨⟨zin 302 (by decide +kernel) (by decide +kernel), zin 3 (by decide +kernel) (by decide +kernel), zin 305 (by decide +kernel) (by decide +kernel)⟩, (by decide +kernel), ⟨(by decide +kernel), (by decide +kernel), (by decide +kernel)⟩, by decide⟩, zin 304 (by decide +kernel) (by decide +kernel), zinS (q := (⟨"KeptItems$Source", "quotedFrom", "(I)I"⟩, 5)) 3 (by decide +kernel)⟩
theorem lS_60 : zLkS "KeptItems$Source" 60 mS_packed 3 := ⟨⟨⟨zin 306 (by decide +kernel) (by decide +kernel), zin 3 (by decide +kernel) (by decide +kernel), zin 308 (by decide +kernel) (by decide +kernel)⟩, (by decide +kernel), ⟨(by decide +kernel), (by decide +kernel), (by decide +kernel)⟩, by decide⟩, zin 307 (by decide +kernel) (by decide +kernel)⟩
theorem lS_52 : zLkS "KeptItems$Source" 52 mS_isLetter 1 := ⟨⟨⟨zin 309 (by decide +kernel) (by decide +kernel), zin 3 (by decide +kernel) (by decide +kernel), zin 311 (by decide +kernel) (by decide +kernel)⟩, (by decide +kernel), ⟨(by decide +kernel), (by decide +kernel), (by decide +kernel)⟩, by decide⟩, zin 310 (by decide +kernel) (by decide +kernel)⟩
theorem lS_56 : zLkV "KeptItems$Source" 56 mS_behindRun 2 := ⟨⟨⟨zin 312 (by decide +kernel) (by decide +kernel), zin 3 (by decide +kernel) (by decide +kernel), zin 315 (by decide +kernel) (by decide +kernel)⟩, (by decide +kernel), ⟨(by decide +kernel), (by decide +kernel), (by decide +kernel)⟩, by decide⟩, zin 314 (by decide +kernel) (by decide +kernel), zinS (q := (⟨"KeptItems$Source", "behindRun", "(IZ)I"⟩, 5)) 4 (by decide +kernel)⟩
theorem lS_64 : zLkS "KeptItems$Source" 64 mS_isDigit 1 := ⟨⟨⟨zin 316 (by decide +kernel) (by decide +kernel), zin 3 (by decide +kernel) (by decide +kernel), zin 318 (by decide +kernel) (by decide +kernel)⟩, (by decide +kernel), ⟨(by decide +kernel), (by decide +kernel), (by decide +kernel)⟩, by decide⟩, zin 317 (by decide +kernel) (by decide +kernel)⟩
theorem lS_69 : zLkV "KeptItems$Source" 69 mJ_indexOf1 1 := ⟨⟨⟨zin 320 (by decide +kernel) (by decide +kernel), zin 12 (by decide +kernel) (by decide +kernel), zin 323 (by decide +kernel) (by decide +kernel)⟩, (by decide +kernel), ⟨(by decide +kernel), (by decide +kernel), (by decide +kernel)⟩, by decide⟩, zin 321 (by decide +kernel) (by decide +kernel), zin 322 (by decide +kernel) (by decide +kernel)⟩
theorem lJS_633 : zLkV "java/lang/String" 633 mJ_indexOf2 2 := ⟨⟨⟨zin 324 (by decide +kernel) (by decide +kernel), zin 12 (by decide +kernel) (by decide +kernel), zin 327 (by decide +kernel) (by decide +kernel)⟩, (by decide +kernel), ⟨(by decide +kernel), (by decide +kernel), (by decide +kernel)⟩, by decide⟩, zin 325 (by decide +kernel) (by decide +kernel), zin 326 (by decide +kernel) (by decide +kernel)⟩
theorem lJS_492 : zLkV "java/lang/String" 492 mJ_isLatin1 0 := ⟨⟨⟨zin 328 (by decide +kernel) (by decide +kernel), zin 12 (by decide +kernel) (by decide +kernel), zin 331 (by decide +kernel) (by decide +kernel)⟩, (by decide +kernel), ⟨(by decide +kernel), (by decide +kernel), (by decide +kernel)⟩, by decide⟩, zin 329 (by decide +kernel) (by decide +kernel), zin 330 (by decide +kernel) (by decide +kernel)⟩
theorem lJS_505 : zLkV "java/lang/String" 505 mJ_length 0 := ⟨⟨⟨zin 334 (by decide +kernel) (by decide +kernel), zin 12 (by decide +kernel) (by decide +kernel), zin 337 (by decide +kernel) (by decide +kernel)⟩, (by decide +kernel), ⟨(by decide +kernel), (by decide +kernel), (by decide +kernel)⟩, by decide⟩, zin 335 (by decide +kernel) (by decide +kernel), zin 336 (by decide +kernel) (by decide +kernel)⟩
theorem lJS_335 : zLkV "java/lang/String" 335 mJ_coder 0 := ⟨⟨⟨zin 338 (by decide +kernel) (by decide +kernel), zin 12 (by decide +kernel) (by decide +kernel), zin 341 (by decide +kernel) (by decide +kernel)⟩, (by decide +kernel), ⟨(by decide +kernel), (by decide +kernel), (by decide +kernel)⟩, by decide⟩, zin 339 (by decide +kernel) (by decide +kernel), zin 340 (by decide +kernel) (by decide +kernel)⟩
theorem lJS_637 : zLkS "java/lang/String" 637 mJ_lindexOf 4 := ⟨⟨⟨zin 342 (by decide +kernel) (by decide +kernel), zin 13 (by decide +kernel) (by decide +kernel), zin 344 (by decide +kernel) (by decide +kernel)⟩, (by decide +kernel), ⟨(by decide +kernel), (by decide +kernel), (by decide +kernel)⟩, by decide⟩, zin 343 (by decide +kernel) (by decide +kernel)⟩
theorem lJL_88 : zLkS "java/lang/StringLatin1" 88 mJ_canEncode 1 := ⟨⟨⟨zin 345 (by decide +kernel) (by decide +kernel), zin 13 (by decide +kernel) (by decide +kernel), zin 347 (by decide +kernel) (by decide +kernel)⟩, (by decide +kernel), ⟨(by decide +kernel), (by decide +kernel), (by decide +kernel)⟩, by decide⟩, zin 346 (by decide +kernel) (by decide +kernel)⟩
theorem lJL_95 : zLkS "java/lang/StringLatin1" 95 mJ_indexOfChar 4 := ⟨⟨⟨zin 354 (by decide +kernel) (by decide +kernel), zin 13 (by decide +kernel) (by decide +kernel), zin 356 (by decide +kernel) (by decide +kernel)⟩, (by decide +kernel), ⟨(by decide +kernel), (by decide +kernel), (by decide +kernel)⟩, by decide⟩, zin 355 (by decide +kernel) (by decide +kernel)⟩
theorem lS_42 : zLkS "KeptItems$Source" 42 mS_markOf 2 := ⟨⟨⟨zin 406 (by decide +kernel) (by decide +kernel), zin 3 (by decide +kernel) (by decide +kernel), zin 408 (by decide +kernel) (by decide +kernel)⟩, (by decide +kernel), ⟨(by decide +kernel), (by decide +kernel), (by decide +kernel)⟩, by decide⟩, zin 407 (by decide +kernel) (by decide +kernel)⟩
theorem lS_46 : zLkV "KeptItems$Source" 46 mS_placeBehind 1 := ⟨⟨⟨zin 409 (by decide +kernel) (by decide +kernel), zin 3 (by decide +kernel) (by decide +kernel), zin 412 (by decide +kernel) (by decide +kernel)⟩, (by decide +kernel), ⟨(by decide +kernel), (by decide +kernel), (by decide +kernel)⟩, by decide⟩, zin 410 (by decide +kernel) (by decide +kernel), zin 411 (by decide +kernel) (by decide +kernel)⟩
theorem lS_74 : zLkV "KeptItems$Source" 74 mS_placeOf 1 := ⟨⟨⟨zin 413 (by decide +kernel) (by decide +kernel), zin 3 (by decide +kernel) (by decide +kernel), zin 168 (by decide +kernel) (by decide +kernel)⟩, (by decide +kernel), ⟨(by decide +kernel), (by decide +kernel), (by decide +kernel)⟩, by decide⟩, zin 166 (by decide +kernel) (by decide +kernel), zin 167 (by decide +kernel) (by decide +kernel)⟩
theorem lS_77 : zLkV "KeptItems$Source" 77 mS_lengthOf 1 := ⟨⟨⟨zin 414 (by decide +kernel) (by decide +kernel), zin 3 (by decide +kernel) (by decide +kernel), zin 417 (by decide +kernel) (by decide +kernel)⟩, (by decide +kernel), ⟨(by decide +kernel), (by decide +kernel), (by decide +kernel)⟩, by decide⟩, zin 415 (by decide +kernel) (by decide +kernel), zin 416 (by decide +kernel) (by decide +kernel)⟩
theorem lK_53 : zLkV "KeptItems" 53 mR_readTokens 0 := ⟨⟨⟨zin 418 (by decide +kernel) (by decide +kernel), zin 2 (by decide +kernel) (by decide +kernel), zin 421 (by decide +kernel) (by decide +kernel)⟩, (by decide +kernel), ⟨(by decide +kernel), (by decide +kernel), (by decide +kernel)⟩, by decide⟩, zin 419 (by decide +kernel) (by decide +kernel), zin 420 (by decide +kernel) (by decide +kernel)⟩
theorem lR_37 : zLkV "KeptItems$Reading" 37 mR_readItem 1 := ⟨⟨⟨zin 422 (by decide +kernel) (by decide +kernel), zin 2 (by decide +kernel) (by decide +kernel), zin 425 (by decide +kernel) (by decide +kernel)⟩, (by decide +kernel), ⟨(by decide +kernel), (by decide +kernel), (by decide +kernel)⟩, by decide⟩, zin 424 (by decide +kernel) (by decide +kernel), zinS (q := (⟨"KeptItems$Reading", "readItem", "(I)V"⟩, 4)) 5 (by decide +kernel)⟩
theorem lR_52 : zLkV "KeptItems$Reading" 52 mR_sees 1 := ⟨⟨⟨zin 426 (by decide +kernel) (by decide +kernel), zin 2 (by decide +kernel) (by decide +kernel), zin 429 (by decide +kernel) (by decide +kernel)⟩, (by decide +kernel), ⟨(by decide +kernel), (by decide +kernel), (by decide +kernel)⟩, by decide⟩, zin 428 (by decide +kernel) (by decide +kernel), zinS (q := (⟨"KeptItems$Reading", "sees", "(C)Z"⟩, 4)) 6 (by decide +kernel)⟩
theorem lR_66 : zLkV "KeptItems$Reading" 66 mR_readBlock 1 := ⟨⟨⟨zin 430 (by decide +kernel) (by decide +kernel), zin 2 (by decide +kernel) (by decide +kernel), zin 433 (by decide +kernel) (by decide +kernel)⟩, (by decide +kernel), ⟨(by decide +kernel), (by decide +kernel), (by decide +kernel)⟩, by decide⟩, zin 432 (by decide +kernel) (by decide +kernel), zinS (q := (⟨"KeptItems$Reading", "readBlock", "(I)I"⟩, 4)) 7 (by decide +kernel)⟩
theorem lR_86 : zLkV "KeptItems$Reading" 86 mR_opens 2 := ⟨⟨⟨zin 434 (by decide +kernel) (by decide +kernel), zin 2 (by decide +kernel) (by decide +kernel), zin 437 (by decide +kernel) (by decide +kernel)⟩, (by decide +kernel), ⟨(by decide +kernel), (by decide +kernel), (by decide +kernel)⟩, by decide⟩, zin 436 (by decide +kernel) (by decide +kernel), zinS (q := (⟨"KeptItems$Reading", "opens", "(CI)Z"⟩, 4)) 8 (by decide +kernel)⟩
theorem lR_69 : zLkV "KeptItems$Reading" 69 mR_needs 1 := ⟨⟨⟨zin 438 (by decide +kernel) (by decide +kernel), zin 2 (by decide +kernel) (by decide +kernel), zin 441 (by decide +kernel) (by decide +kernel)⟩, (by decide +kernel), ⟨(by decide +kernel), (by decide +kernel), (by decide +kernel)⟩, by decide⟩, zin 440 (by decide +kernel) (by decide +kernel), zinS (q := (⟨"KeptItems$Reading", "needs", "(C)V"⟩, 4)) 9 (by decide +kernel)⟩
theorem lR_73 : zLkV "KeptItems$Reading" 73 mR_takes 1 := ⟨⟨⟨zin 442 (by decide +kernel) (by decide +kernel), zin 2 (by decide +kernel) (by decide +kernel), zin 445 (by decide +kernel) (by decide +kernel)⟩, (by decide +kernel), ⟨(by decide +kernel), (by decide +kernel), (by decide +kernel)⟩, by decide⟩, zin 444 (by decide +kernel) (by decide +kernel), zinS (q := (⟨"KeptItems$Reading", "takes", "(C)Z"⟩, 4)) 10 (by decide +kernel)⟩
theorem lR_76 : zLkV "KeptItems$Reading" 76 mR_readSum 1 := ⟨⟨⟨zin 446 (by decide +kernel) (by decide +kernel), zin 2 (by decide +kernel) (by decide +kernel), zin 449 (by decide +kernel) (by decide +kernel)⟩, (by decide +kernel), ⟨(by decide +kernel), (by decide +kernel), (by decide +kernel)⟩, by decide⟩, zin 448 (by decide +kernel) (by decide +kernel), zinS (q := (⟨"KeptItems$Reading", "readSum", "(I)I"⟩, 4)) 11 (by decide +kernel)⟩
theorem lR_90 : zLkV "KeptItems$Reading" 90 mR_readFactor 1 := ⟨⟨⟨zin 450 (by decide +kernel) (by decide +kernel), zin 2 (by decide +kernel) (by decide +kernel), zin 453 (by decide +kernel) (by decide +kernel)⟩, (by decide +kernel), ⟨(by decide +kernel), (by decide +kernel), (by decide +kernel)⟩, by decide⟩, zin 452 (by decide +kernel) (by decide +kernel), zinS (q := (⟨"KeptItems$Reading", "readFactor", "(I)I"⟩, 4)) 12 (by decide +kernel)⟩
theorem lR_93 : zLkV "KeptItems$Reading" 93 mS_digitsValue 1 := ⟨⟨⟨zin 454 (by decide +kernel) (by decide +kernel), zin 3 (by decide +kernel) (by decide +kernel), zin 457 (by decide +kernel) (by decide +kernel)⟩, (by decide +kernel), ⟨(by decide +kernel), (by decide +kernel), (by decide +kernel)⟩, by decide⟩, zin 455 (by decide +kernel) (by decide +kernel), zin 456 (by decide +kernel) (by decide +kernel)⟩
theorem lR_96 : zLkV "KeptItems$Reading" 96 mS_lengthOf 1 := ⟨⟨⟨zin 458 (by decide +kernel) (by decide +kernel), zin 3 (by decide +kernel) (by decide +kernel), zin 417 (by decide +kernel) (by decide +kernel)⟩, (by decide +kernel), ⟨(by decide +kernel), (by decide +kernel), (by decide +kernel)⟩, by decide⟩, zin 415 (by decide +kernel) (by decide +kernel), zin 416 (by decide +kernel) (by decide +kernel)⟩
theorem lR_79 : zLkV "KeptItems$Reading" 79 mR_readCall 2 := ⟨⟨⟨zin 459 (by decide +kernel) (by decide +kernel), zin 2 (by decide +kernel) (by decide +kernel), zin 462 (by decide +kernel) (by decide +kernel)⟩, (by decide +kernel), ⟨(by decide +kernel), (by decide +kernel), (by decide +kernel)⟩, by decide⟩, zin 461 (by decide +kernel) (by decide +kernel), zinS (q := (⟨"KeptItems$Reading", "readCall", "(II)I"⟩, 4)) 13 (by decide +kernel)⟩
theorem lR_99 : zLkV "KeptItems$Reading" 99 mR_namedValue 1 := ⟨⟨⟨zin 463 (by decide +kernel) (by decide +kernel), zin 2 (by decide +kernel) (by decide +kernel), zin 466 (by decide +kernel) (by decide +kernel)⟩, (by decide +kernel), ⟨(by decide +kernel), (by decide +kernel), (by decide +kernel)⟩, by decide⟩, zin 465 (by decide +kernel) (by decide +kernel), zinS (q := (⟨"KeptItems$Reading", "namedValue", "(I)I"⟩, 4)) 14 (by decide +kernel)⟩
theorem lR_102 : zLkV "KeptItems$Reading" 102 mS_areSame 2 := ⟨⟨⟨zin 467 (by decide +kernel) (by decide +kernel), zin 3 (by decide +kernel) (by decide +kernel), zin 470 (by decide +kernel) (by decide +kernel)⟩, (by decide +kernel), ⟨(by decide +kernel), (by decide +kernel), (by decide +kernel)⟩, by decide⟩, zin 468 (by decide +kernel) (by decide +kernel), zin 469 (by decide +kernel) (by decide +kernel)⟩
theorem lK_56 : zLkV "KeptItems" 56 mK_traceTokens 2 := ⟨⟨⟨zin 471 (by decide +kernel) (by decide +kernel), zin 1 (by decide +kernel) (by decide +kernel), zin 474 (by decide +kernel) (by decide +kernel)⟩, (by decide +kernel), ⟨(by decide +kernel), (by decide +kernel), (by decide +kernel)⟩, by decide⟩, zin 473 (by decide +kernel) (by decide +kernel), zinS (q := (⟨"KeptItems", "traceTokens", "(II)I"⟩, 7)) 15 (by decide +kernel)⟩
theorem lK_115 : zLkS "KeptItems" 115 mJ_fill 2 := ⟨⟨⟨zin 475 (by decide +kernel) (by decide +kernel), zin 18 (by decide +kernel) (by decide +kernel), zin 477 (by decide +kernel) (by decide +kernel)⟩, (by decide +kernel), ⟨(by decide +kernel), (by decide +kernel), (by decide +kernel)⟩, by decide⟩, zin 476 (by decide +kernel) (by decide +kernel)⟩
theorem lK_120 : zLkV "KeptItems" 120 mS_movedToken 4 := ⟨⟨⟨zin 478 (by decide +kernel) (by decide +kernel), zin 3 (by decide +kernel) (by decide +kernel), zin 481 (by decide +kernel) (by decide +kernel)⟩, (by decide +kernel), ⟨(by decide +kernel), (by decide +kernel), (by decide +kernel)⟩, by decide⟩, zin 479 (by decide +kernel) (by decide +kernel), zin 480 (by decide +kernel) (by decide +kernel)⟩
theorem lK_60 : zLkV "KeptItems" 60 mK_numberItems 0 := ⟨⟨⟨zin 482 (by decide +kernel) (by decide +kernel), zin 1 (by decide +kernel) (by decide +kernel), zin 485 (by decide +kernel) (by decide +kernel)⟩, (by decide +kernel), ⟨(by decide +kernel), (by decide +kernel), (by decide +kernel)⟩, by decide⟩, zin 484 (by decide +kernel) (by decide +kernel), zinS (q := (⟨"KeptItems", "numberItems", "()V"⟩, 7)) 16 (by decide +kernel)⟩
theorem lK_124 : zLkV "KeptItems" 124 mK_oldItem 1 := ⟨⟨⟨zin 486 (by decide +kernel) (by decide +kernel), zin 1 (by decide +kernel) (by decide +kernel), zin 489 (by decide +kernel) (by decide +kernel)⟩, (by decide +kernel), ⟨(by decide +kernel), (by decide +kernel), (by decide +kernel)⟩, by decide⟩, zin 488 (by decide +kernel) (by decide +kernel), zinS (q := (⟨"KeptItems", "oldItem", "(I)I"⟩, 7)) 17 (by decide +kernel)⟩
theorem lK_130 : zLkV "KeptItems" 130 mT_itemOfTokens 2 := ⟨⟨⟨zin 490 (by decide +kernel) (by decide +kernel), zin 4 (by decide +kernel) (by decide +kernel), zin 493 (by decide +kernel) (by decide +kernel)⟩, (by decide +kernel), ⟨(by decide +kernel), (by decide +kernel), (by decide +kernel)⟩, by decide⟩, zin 491 (by decide +kernel) (by decide +kernel), zin 492 (by decide +kernel) (by decide +kernel)⟩
theorem lW_17 : zLkV "KeptItemsLaw" 17 mK_token 1 := ⟨⟨⟨zin 498 (by decide +kernel) (by decide +kernel), zin 1 (by decide +kernel) (by decide +kernel), zin 501 (by decide +kernel) (by decide +kernel)⟩, (by decide +kernel), ⟨(by decide +kernel), (by decide +kernel), (by decide +kernel)⟩, by decide⟩, zin 499 (by decide +kernel) (by decide +kernel), zin 500 (by decide +kernel) (by decide +kernel)⟩
theorem lW_21 : zLkV "KeptItemsLaw" 21 mK_begin 1 := ⟨⟨⟨zin 505 (by decide +kernel) (by decide +kernel), zin 1 (by decide +kernel) (by decide +kernel), zin 508 (by decide +kernel) (by decide +kernel)⟩, (by decide +kernel), ⟨(by decide +kernel), (by decide +kernel), (by decide +kernel)⟩, by decide⟩, zin 506 (by decide +kernel) (by decide +kernel), zin 507 (by decide +kernel) (by decide +kernel)⟩
theorem lK_100 : zLkV "KeptItems" 100 mS_placeOf 1 := ⟨⟨⟨zin 509 (by decide +kernel) (by decide +kernel), zin 3 (by decide +kernel) (by decide +kernel), zin 168 (by decide +kernel) (by decide +kernel)⟩, (by decide +kernel), ⟨(by decide +kernel), (by decide +kernel), (by decide +kernel)⟩, by decide⟩, zin 166 (by decide +kernel) (by decide +kernel), zin 167 (by decide +kernel) (by decide +kernel)⟩
theorem lW_24 : zLkV "KeptItemsLaw" 24 mK_end 1 := ⟨⟨⟨zin 513 (by decide +kernel) (by decide +kernel), zin 1 (by decide +kernel) (by decide +kernel), zin 516 (by decide +kernel) (by decide +kernel)⟩, (by decide +kernel), ⟨(by decide +kernel), (by decide +kernel), (by decide +kernel)⟩, by decide⟩, zin 514 (by decide +kernel) (by decide +kernel), zin 515 (by decide +kernel) (by decide +kernel)⟩
theorem lK_106 : zLkV "KeptItems" 106 mS_placeBehind 1 := ⟨⟨⟨zin 517 (by decide +kernel) (by decide +kernel), zin 3 (by decide +kernel) (by decide +kernel), zin 412 (by decide +kernel) (by decide +kernel)⟩, (by decide +kernel), ⟨(by decide +kernel), (by decide +kernel), (by decide +kernel)⟩, by decide⟩, zin 410 (by decide +kernel) (by decide +kernel), zin 411 (by decide +kernel) (by decide +kernel)⟩
theorem lW_27 : zLkV "KeptItemsLaw" 27 mK_value 1 := ⟨⟨⟨zin 521 (by decide +kernel) (by decide +kernel), zin 1 (by decide +kernel) (by decide +kernel), zin 524 (by decide +kernel) (by decide +kernel)⟩, (by decide +kernel), ⟨(by decide +kernel), (by decide +kernel), (by decide +kernel)⟩, by decide⟩, zin 522 (by decide +kernel) (by decide +kernel), zin 523 (by decide +kernel) (by decide +kernel)⟩
theorem lW_50 : zLkV "KeptItemsLaw" 50 mM_thrown 0 := ⟨⟨⟨zin 662 (by decide +kernel) (by decide +kernel), zin 5 (by decide +kernel) (by decide +kernel), zin 665 (by decide +kernel) (by decide +kernel)⟩, (by decide +kernel), ⟨(by decide +kernel), (by decide +kernel), (by decide +kernel)⟩, by decide⟩, zin 663 (by decide +kernel) (by decide +kernel), zin 664 (by decide +kernel) (by decide +kernel)⟩
theorem lW_38 : zLkV "KeptItemsLaw" 38 mM_type 1 := ⟨⟨⟨zin 666 (by decide +kernel) (by decide +kernel), zin 5 (by decide +kernel) (by decide +kernel), zin 669 (by decide +kernel) (by decide +kernel)⟩, (by decide +kernel), ⟨(by decide +kernel), (by decide +kernel), (by decide +kernel)⟩, by decide⟩, zin 667 (by decide +kernel) (by decide +kernel), zin 668 (by decide +kernel) (by decide +kernel)⟩
theorem lW_43 : zLkV "KeptItemsLaw" 43 mM_wipe 0 := ⟨⟨⟨zin 670 (by decide +kernel) (by decide +kernel), zin 5 (by decide +kernel) (by decide +kernel), zin 673 (by decide +kernel) (by decide +kernel)⟩, (by decide +kernel), ⟨(by decide +kernel), (by decide +kernel), (by decide +kernel)⟩, by decide⟩, zin 671 (by decide +kernel) (by decide +kernel), zin 672 (by decide +kernel) (by decide +kernel)⟩
theorem lW_49 : zLkV "KeptItemsLaw" 49 mM_edit 2 := ⟨⟨⟨zin 674 (by decide +kernel) (by decide +kernel), zin 5 (by decide +kernel) (by decide +kernel), zin 677 (by decide +kernel) (by decide +kernel)⟩, (by decide +kernel), ⟨(by decide +kernel), (by decide +kernel), (by decide +kernel)⟩, by decide⟩, zin 675 (by decide +kernel) (by decide +kernel), zin 676 (by decide +kernel) (by decide +kernel)⟩
theorem lM_247 : zLkV "KeptItemsModel" 247 mM_keepOld 0 := ⟨⟨⟨zin 678 (by decide +kernel) (by decide +kernel), zin 5 (by decide +kernel) (by decide +kernel), zin 681 (by decide +kernel) (by decide +kernel)⟩, (by decide +kernel), ⟨(by decide +kernel), (by decide +kernel), (by decide +kernel)⟩, by decide⟩, zin 680 (by decide +kernel) (by decide +kernel), zinS (q := (⟨"KeptItemsModel", "keepOld", "()V"⟩, 43)) 18 (by decide +kernel)⟩
theorem lM_250 : zLkV "KeptItemsModel" 250 mM_change 2 := ⟨⟨⟨zin 682 (by decide +kernel) (by decide +kernel), zin 5 (by decide +kernel) (by decide +kernel), zin 685 (by decide +kernel) (by decide +kernel)⟩, (by decide +kernel), ⟨(by decide +kernel), (by decide +kernel), (by decide +kernel)⟩, by decide⟩, zin 684 (by decide +kernel) (by decide +kernel), zinS (q := (⟨"KeptItemsModel", "change", "(II)V"⟩, 43)) 19 (by decide +kernel)⟩
theorem lM_253 : zLkV "KeptItemsModel" 253 mM_findTokens 0 := ⟨⟨⟨zin 686 (by decide +kernel) (by decide +kernel), zin 5 (by decide +kernel) (by decide +kernel), zin 689 (by decide +kernel) (by decide +kernel)⟩, (by decide +kernel), ⟨(by decide +kernel), (by decide +kernel), (by decide +kernel)⟩, by decide⟩, zin 688 (by decide +kernel) (by decide +kernel), zinS (q := (⟨"KeptItemsModel", "findTokens", "()V"⟩, 43)) 20 (by decide +kernel)⟩
theorem lM_109 : zLkV "KeptItemsModel" 109 mM_skip 1 := ⟨⟨⟨zin 690 (by decide +kernel) (by decide +kernel), zin 5 (by decide +kernel) (by decide +kernel), zin 693 (by decide +kernel) (by decide +kernel)⟩, (by decide +kernel), ⟨(by decide +kernel), (by decide +kernel), (by decide +kernel)⟩, by decide⟩, zin 692 (by decide +kernel) (by decide +kernel), zinS (q := (⟨"KeptItemsModel", "skip", "(I)I"⟩, 43)) 21 (by decide +kernel)⟩
theorem lM_113 : zLkS "KeptItemsModel" 113 mM_isLetter 1 := ⟨⟨⟨zin 694 (by decide +kernel) (by decide +kernel), zin 5 (by decide +kernel) (by decide +kernel), zin 696 (by decide +kernel) (by decide +kernel)⟩, (by decide +kernel), ⟨(by decide +kernel), (by decide +kernel), (by decide +kernel)⟩, by decide⟩, zin 695 (by decide +kernel) (by decide +kernel)⟩
theorem lM_117 : zLkS "KeptItemsModel" 117 mM_isDigit 1 := ⟨⟨⟨zin 697 (by decide +kernel) (by decide +kernel), zin 5 (by decide +kernel) (by decide +kernel), zin 699 (by decide +kernel) (by decide +kernel)⟩, (by decide +kernel), ⟨(by decide +kernel), (by decide +kernel), (by decide +kernel)⟩, by decide⟩, zin 698 (by decide +kernel) (by decide +kernel)⟩
theorem lM_120 : zLkS "KeptItemsModel" 120 mM_isSign 1 := ⟨⟨⟨zin 700 (by decide +kernel) (by decide +kernel), zin 5 (by decide +kernel) (by decide +kernel), zin 702 (by decide +kernel) (by decide +kernel)⟩, (by decide +kernel), ⟨(by decide +kernel), (by decide +kernel), (by decide +kernel)⟩, by decide⟩, zin 701 (by decide +kernel) (by decide +kernel)⟩
theorem lM_123 : zLkV "KeptItemsModel" 123 mM_addToken 3 := ⟨⟨⟨zin 703 (by decide +kernel) (by decide +kernel), zin 5 (by decide +kernel) (by decide +kernel), zin 706 (by decide +kernel) (by decide +kernel)⟩, (by decide +kernel), ⟨(by decide +kernel), (by decide +kernel), (by decide +kernel)⟩, by decide⟩, zin 705 (by decide +kernel) (by decide +kernel), zinS (q := (⟨"KeptItemsModel", "addToken", "(III)V"⟩, 43)) 22 (by decide +kernel)⟩
theorem lM_256 : zLkV "KeptItemsModel" 256 mM_read 0 := ⟨⟨⟨zin 707 (by decide +kernel) (by decide +kernel), zin 5 (by decide +kernel) (by decide +kernel), zin 710 (by decide +kernel) (by decide +kernel)⟩, (by decide +kernel), ⟨(by decide +kernel), (by decide +kernel), (by decide +kernel)⟩, by decide⟩, zin 709 (by decide +kernel) (by decide +kernel), zinS (q := (⟨"KeptItemsModel", "read", "()V"⟩, 43)) 23 (by decide +kernel)⟩
theorem lM_184 : zLkV "KeptItemsModel" 184 mM_readToken 1 := ⟨⟨⟨zin 711 (by decide +kernel) (by decide +kernel), zin 5 (by decide +kernel) (by decide +kernel), zin 714 (by decide +kernel) (by decide +kernel)⟩, (by decide +kernel), ⟨(by decide +kernel), (by decide +kernel), (by decide +kernel)⟩, by decide⟩, zin 713 (by decide +kernel) (by decide +kernel), zinS (q := (⟨"KeptItemsModel", "readToken", "(I)Z"⟩, 43)) 24 (by decide +kernel)⟩
theorem lM_153 : zLkV "KeptItemsModel" 153 mM_is 2 := ⟨⟨⟨zin 715 (by decide +kernel) (by decide +kernel), zin 5 (by decide +kernel) (by decide +kernel), zin 718 (by decide +kernel) (by decide +kernel)⟩, (by decide +kernel), ⟨(by decide +kernel), (by decide +kernel), (by decide +kernel)⟩, by decide⟩, zin 717 (by decide +kernel) (by decide +kernel), zinS (q := (⟨"KeptItemsModel", "is", "(IC)Z"⟩, 43)) 25 (by decide +kernel)⟩
theorem lM_157 : zLkV "KeptItemsModel" 157 mM_push 1 := ⟨⟨⟨zin 719 (by decide +kernel) (by decide +kernel), zin 5 (by decide +kernel) (by decide +kernel), zin 722 (by decide +kernel) (by decide +kernel)⟩, (by decide +kernel), ⟨(by decide +kernel), (by decide +kernel), (by decide +kernel)⟩, by decide⟩, zin 721 (by decide +kernel) (by decide +kernel), zinS (q := (⟨"KeptItemsModel", "push", "(I)Z"⟩, 43)) 26 (by decide +kernel)⟩
theorem lM_165 : zLkV "KeptItemsModel" 165 mM_whole 0 := ⟨⟨⟨zin 723 (by decide +kernel) (by decide +kernel), zin 5 (by decide +kernel) (by decide +kernel), zin 726 (by decide +kernel) (by decide +kernel)⟩, (by decide +kernel), ⟨(by decide +kernel), (by decide +kernel), (by decide +kernel)⟩, by decide⟩, zin 725 (by decide +kernel) (by decide +kernel), zinS (q := (⟨"KeptItemsModel", "whole", "()V"⟩, 43)) 27 (by decide +kernel)⟩
theorem lM_130 : zLkV "KeptItemsModel" 130 mM_top 0 := ⟨⟨⟨zin 727 (by decide +kernel) (by decide +kernel), zin 5 (by decide +kernel) (by decide +kernel), zin 730 (by decide +kernel) (by decide +kernel)⟩, (by decide +kernel), ⟨(by decide +kernel), (by decide +kernel), (by decide +kernel)⟩, by decide⟩, zin 729 (by decide +kernel) (by decide +kernel), zinS (q := (⟨"KeptItemsModel", "top", "()I"⟩, 43)) 28 (by decide +kernel)⟩
theorem lM_172 : zLkV "KeptItemsModel" 172 mM_readItem 1 := ⟨⟨⟨zin 731 (by decide +kernel) (by decide +kernel), zin 5 (by decide +kernel) (by decide +kernel), zin 734 (by decide +kernel) (by decide +kernel)⟩, (by decide +kernel), ⟨(by decide +kernel), (by decide +kernel), (by decide +kernel)⟩, by decide⟩, zin 733 (by decide +kernel) (by decide +kernel), zinS (q := (⟨"KeptItemsModel", "readItem", "(I)Z"⟩, 43)) 29 (by decide +kernel)⟩
theorem lM_149 : zLkV "KeptItemsModel" 149 mM_start 2 := ⟨⟨⟨zin 735 (by decide +kernel) (by decide +kernel), zin 5 (by decide +kernel) (by decide +kernel), zin 738 (by decide +kernel) (by decide +kernel)⟩, (by decide +kernel), ⟨(by decide +kernel), (by decide +kernel), (by decide +kernel)⟩, by decide⟩, zin 737 (by decide +kernel) (by decide +kernel), zinS (q := (⟨"KeptItemsModel", "start", "(IZ)V"⟩, 43)) 30 (by decide +kernel)⟩
theorem lM_161 : zLkV "KeptItemsModel" 161 mM_finish 2 := ⟨⟨⟨zin 739 (by decide +kernel) (by decide +kernel), zin 5 (by decide +kernel) (by decide +kernel), zin 742 (by decide +kernel) (by decide +kernel)⟩, (by decide +kernel), ⟨(by decide +kernel), (by decide +kernel), (by decide +kernel)⟩, by decide⟩, zin 741 (by decide +kernel) (by decide +kernel), zinS (q := (⟨"KeptItemsModel", "finish", "(II)V"⟩, 43)) 31 (by decide +kernel)⟩
theorem lM_175 : zLkV "KeptItemsModel" 175 mM_readNamed 1 := ⟨⟨⟨zin 743 (by decide +kernel) (by decide +kernel), zin 5 (by decide +kernel) (by decide +kernel), zin 746 (by decide +kernel) (by decide +kernel)⟩, (by decide +kernel), ⟨(by decide +kernel), (by decide +kernel), (by decide +kernel)⟩, by decide⟩, zin 745 (by decide +kernel) (by decide +kernel), zinS (q := (⟨"KeptItemsModel", "readNamed", "(I)Z"⟩, 43)) 32 (by decide +kernel)⟩
theorem lM_178 : zLkV "KeptItemsModel" 178 mM_readFactor 1 := ⟨⟨⟨zin 747 (by decide +kernel) (by decide +kernel), zin 5 (by decide +kernel) (by decide +kernel), zin 750 (by decide +kernel) (by decide +kernel)⟩, (by decide +kernel), ⟨(by decide +kernel), (by decide +kernel), (by decide +kernel)⟩, by decide⟩, zin 749 (by decide +kernel) (by decide +kernel), zinS (q := (⟨"KeptItemsModel", "readFactor", "(I)Z"⟩, 43)) 33 (by decide +kernel)⟩
theorem lM_168 : zLkV "KeptItemsModel" 168 mM_close 0 := ⟨⟨⟨zin 751 (by decide +kernel) (by decide +kernel), zin 5 (by decide +kernel) (by decide +kernel), zin 754 (by decide +kernel) (by decide +kernel)⟩, (by decide +kernel), ⟨(by decide +kernel), (by decide +kernel), (by decide +kernel)⟩, by decide⟩, zin 753 (by decide +kernel) (by decide +kernel), zinS (q := (⟨"KeptItemsModel", "close", "()Z"⟩, 43)) 34 (by decide +kernel)⟩
theorem lM_181 : zLkV "KeptItemsModel" 181 mM_readBehind 1 := ⟨⟨⟨zin 755 (by decide +kernel) (by decide +kernel), zin 5 (by decide +kernel) (by decide +kernel), zin 758 (by decide +kernel) (by decide +kernel)⟩, (by decide +kernel), ⟨(by decide +kernel), (by decide +kernel), (by decide +kernel)⟩, by decide⟩, zin 757 (by decide +kernel) (by decide +kernel), zinS (q := (⟨"KeptItemsModel", "readBehind", "(I)Z"⟩, 43)) 35 (by decide +kernel)⟩
theorem lM_259 : zLkV "KeptItemsModel" 259 mM_compareTokens 3 := ⟨⟨⟨zin 759 (by decide +kernel) (by decide +kernel), zin 5 (by decide +kernel) (by decide +kernel), zin 762 (by decide +kernel) (by decide +kernel)⟩, (by decide +kernel), ⟨(by decide +kernel), (by decide +kernel), (by decide +kernel)⟩, by decide⟩, zin 761 (by decide +kernel) (by decide +kernel), zinS (q := (⟨"KeptItemsModel", "compareTokens", "(III)I"⟩, 43)) 36 (by decide +kernel)⟩
theorem lM_235 : zLkV "KeptItemsModel" 235 mM_tokenAt 3 := ⟨⟨⟨zin 763 (by decide +kernel) (by decide +kernel), zin 5 (by decide +kernel) (by decide +kernel), zin 766 (by decide +kernel) (by decide +kernel)⟩, (by decide +kernel), ⟨(by decide +kernel), (by decide +kernel), (by decide +kernel)⟩, by decide⟩, zin 765 (by decide +kernel) (by decide +kernel), zinS (q := (⟨"KeptItemsModel", "tokenAt", "(III)I"⟩, 43)) 37 (by decide +kernel)⟩
theorem lM_262 : zLkV "KeptItemsModel" 262 mM_giveNumbers 0 := ⟨⟨⟨zin 767 (by decide +kernel) (by decide +kernel), zin 5 (by decide +kernel) (by decide +kernel), zin 770 (by decide +kernel) (by decide +kernel)⟩, (by decide +kernel), ⟨(by decide +kernel), (by decide +kernel), (by decide +kernel)⟩, by decide⟩, zin 769 (by decide +kernel) (by decide +kernel), zinS (q := (⟨"KeptItemsModel", "giveNumbers", "()V"⟩, 43)) 38 (by decide +kernel)⟩
theorem lM_241 : zLkV "KeptItemsModel" 241 mM_oldOf 1 := ⟨⟨⟨zin 771 (by decide +kernel) (by decide +kernel), zin 5 (by decide +kernel) (by decide +kernel), zin 774 (by decide +kernel) (by decide +kernel)⟩, (by decide +kernel), ⟨(by decide +kernel), (by decide +kernel), (by decide +kernel)⟩, by decide⟩, zin 773 (by decide +kernel) (by decide +kernel), zinS (q := (⟨"KeptItemsModel", "oldOf", "(I)I"⟩, 43)) 39 (by decide +kernel)⟩
theorem lM_265 : zLkV "KeptItemsModel" 265 mM_findValues 0 := ⟨⟨⟨zin 775 (by decide +kernel) (by decide +kernel), zin 5 (by decide +kernel) (by decide +kernel), zin 778 (by decide +kernel) (by decide +kernel)⟩, (by decide +kernel), ⟨(by decide +kernel), (by decide +kernel), (by decide +kernel)⟩, by decide⟩, zin 777 (by decide +kernel) (by decide +kernel), zinS (q := (⟨"KeptItemsModel", "findValues", "()V"⟩, 43)) 40 (by decide +kernel)⟩
theorem lM_222 : zLkV "KeptItemsModel" 222 mM_countInside 1 := ⟨⟨⟨zin 779 (by decide +kernel) (by decide +kernel), zin 5 (by decide +kernel) (by decide +kernel), zin 782 (by decide +kernel) (by decide +kernel)⟩, (by decide +kernel), ⟨(by decide +kernel), (by decide +kernel), (by decide +kernel)⟩, by decide⟩, zin 781 (by decide +kernel) (by decide +kernel), zinS (q := (⟨"KeptItemsModel", "countInside", "(I)I"⟩, 43)) 41 (by decide +kernel)⟩
theorem lM_225 : zLkV "KeptItemsModel" 225 mM_valueOf 3 := ⟨⟨⟨zin 783 (by decide +kernel) (by decide +kernel), zin 5 (by decide +kernel) (by decide +kernel), zin 786 (by decide +kernel) (by decide +kernel)⟩, (by decide +kernel), ⟨(by decide +kernel), (by decide +kernel), (by decide +kernel)⟩, by decide⟩, zin 785 (by decide +kernel) (by decide +kernel), zinS (q := (⟨"KeptItemsModel", "valueOf", "(III)I"⟩, 43)) 42 (by decide +kernel)⟩
theorem lM_200 : zLkV "KeptItemsModel" 200 mM_enter 2 := ⟨⟨⟨zin 787 (by decide +kernel) (by decide +kernel), zin 5 (by decide +kernel) (by decide +kernel), zin 790 (by decide +kernel) (by decide +kernel)⟩, (by decide +kernel), ⟨(by decide +kernel), (by decide +kernel), (by decide +kernel)⟩, by decide⟩, zin 789 (by decide +kernel) (by decide +kernel), zinS (q := (⟨"KeptItemsModel", "enter", "(ZI)V"⟩, 43)) 43 (by decide +kernel)⟩
theorem lM_204 : zLkV "KeptItemsModel" 204 mM_leave 1 := ⟨⟨⟨zin 791 (by decide +kernel) (by decide +kernel), zin 5 (by decide +kernel) (by decide +kernel), zin 794 (by decide +kernel) (by decide +kernel)⟩, (by decide +kernel), ⟨(by decide +kernel), (by decide +kernel), (by decide +kernel)⟩, by decide⟩, zin 793 (by decide +kernel) (by decide +kernel), zinS (q := (⟨"KeptItemsModel", "leave", "(Z)I"⟩, 43)) 44 (by decide +kernel)⟩
theorem lM_194 : zLkV "KeptItemsModel" 194 mM_total 0 := ⟨⟨⟨zin 795 (by decide +kernel) (by decide +kernel), zin 5 (by decide +kernel) (by decide +kernel), zin 798 (by decide +kernel) (by decide +kernel)⟩, (by decide +kernel), ⟨(by decide +kernel), (by decide +kernel), (by decide +kernel)⟩, by decide⟩, zin 797 (by decide +kernel) (by decide +kernel), zinS (q := (⟨"KeptItemsModel", "total", "()I"⟩, 43)) 45 (by decide +kernel)⟩
theorem lM_208 : zLkV "KeptItemsModel" 208 mM_take 1 := ⟨⟨⟨zin 799 (by decide +kernel) (by decide +kernel), zin 5 (by decide +kernel) (by decide +kernel), zin 802 (by decide +kernel) (by decide +kernel)⟩, (by decide +kernel), ⟨(by decide +kernel), (by decide +kernel), (by decide +kernel)⟩, by decide⟩, zin 801 (by decide +kernel) (by decide +kernel), zinS (q := (⟨"KeptItemsModel", "take", "(I)V"⟩, 43)) 46 (by decide +kernel)⟩
theorem lM_212 : zLkV "KeptItemsModel" 212 mM_operate 1 := ⟨⟨⟨zin 803 (by decide +kernel) (by decide +kernel), zin 5 (by decide +kernel) (by decide +kernel), zin 806 (by decide +kernel) (by decide +kernel)⟩, (by decide +kernel), ⟨(by decide +kernel), (by decide +kernel), (by decide +kernel)⟩, by decide⟩, zin 805 (by decide +kernel) (by decide +kernel), zinS (q := (⟨"KeptItemsModel", "operate", "(I)V"⟩, 43)) 47 (by decide +kernel)⟩
theorem lM_197 : zLkV "KeptItemsModel" 197 mM_restart 2 := ⟨⟨⟨zin 807 (by decide +kernel) (by decide +kernel), zin 5 (by decide +kernel) (by decide +kernel), zin 810 (by decide +kernel) (by decide +kernel)⟩, (by decide +kernel), ⟨(by decide +kernel), (by decide +kernel), (by decide +kernel)⟩, by decide⟩, zin 809 (by decide +kernel) (by decide +kernel), zinS (q := (⟨"KeptItemsModel", "restart", "(II)V"⟩, 43)) 48 (by decide +kernel)⟩
theorem lM_215 : zLkV "KeptItemsModel" 215 mM_numberValue 1 := ⟨⟨⟨zin 811 (by decide +kernel) (by decide +kernel), zin 5 (by decide +kernel) (by decide +kernel), zin 814 (by decide +kernel) (by decide +kernel)⟩, (by decide +kernel), ⟨(by decide +kernel), (by decide +kernel), (by decide +kernel)⟩, by decide⟩, zin 813 (by decide +kernel) (by decide +kernel), zinS (q := (⟨"KeptItemsModel", "numberValue", "(I)I"⟩, 43)) 49 (by decide +kernel)⟩
theorem lM_218 : zLkV "KeptItemsModel" 218 mM_named 2 := ⟨⟨⟨zin 815 (by decide +kernel) (by decide +kernel), zin 5 (by decide +kernel) (by decide +kernel), zin 818 (by decide +kernel) (by decide +kernel)⟩, (by decide +kernel), ⟨(by decide +kernel), (by decide +kernel), (by decide +kernel)⟩, by decide⟩, zin 817 (by decide +kernel) (by decide +kernel), zinS (q := (⟨"KeptItemsModel", "named", "(II)I"⟩, 43)) 50 (by decide +kernel)⟩
theorem lM_187 : zLkV "KeptItemsModel" 187 mM_sameLetters 2 := ⟨⟨⟨zin 819 (by decide +kernel) (by decide +kernel), zin 5 (by decide +kernel) (by decide +kernel), zin 822 (by decide +kernel) (by decide +kernel)⟩, (by decide +kernel), ⟨(by decide +kernel), (by decide +kernel), (by decide +kernel)⟩, by decide⟩, zin 821 (by decide +kernel) (by decide +kernel), zinS (q := (⟨"KeptItemsModel", "sameLetters", "(II)Z"⟩, 43)) 51 (by decide +kernel)⟩
theorem lW_56 : zLkV "KeptItemsLaw" 56 mM_length 0 := ⟨⟨⟨zin 823 (by decide +kernel) (by decide +kernel), zin 5 (by decide +kernel) (by decide +kernel), zin 826 (by decide +kernel) (by decide +kernel)⟩, (by decide +kernel), ⟨(by decide +kernel), (by decide +kernel), (by decide +kernel)⟩, by decide⟩, zin 824 (by decide +kernel) (by decide +kernel), zin 825 (by decide +kernel) (by decide +kernel)⟩
theorem lW_61 : zLkV "KeptItemsLaw" 61 mM_at 1 := ⟨⟨⟨zin 827 (by decide +kernel) (by decide +kernel), zin 5 (by decide +kernel) (by decide +kernel), zin 830 (by decide +kernel) (by decide +kernel)⟩, (by decide +kernel), ⟨(by decide +kernel), (by decide +kernel), (by decide +kernel)⟩, by decide⟩, zin 828 (by decide +kernel) (by decide +kernel), zin 829 (by decide +kernel) (by decide +kernel)⟩
theorem lW_65 : zLkV "KeptItemsLaw" 65 mM_tokens 0 := ⟨⟨⟨zin 831 (by decide +kernel) (by decide +kernel), zin 5 (by decide +kernel) (by decide +kernel), zin 834 (by decide +kernel) (by decide +kernel)⟩, (by decide +kernel), ⟨(by decide +kernel), (by decide +kernel), (by decide +kernel)⟩, by decide⟩, zin 832 (by decide +kernel) (by decide +kernel), zin 833 (by decide +kernel) (by decide +kernel)⟩
theorem lW_69 : zLkV "KeptItemsLaw" 69 mM_token 1 := ⟨⟨⟨zin 835 (by decide +kernel) (by decide +kernel), zin 5 (by decide +kernel) (by decide +kernel), zin 838 (by decide +kernel) (by decide +kernel)⟩, (by decide +kernel), ⟨(by decide +kernel), (by decide +kernel), (by decide +kernel)⟩, by decide⟩, zin 836 (by decide +kernel) (by decide +kernel), zin 837 (by decide +kernel) (by decide +kernel)⟩
theorem lW_73 : zLkV "KeptItemsLaw" 73 mM_fault 0 := ⟨⟨⟨zin 839 (by decide +kernel) (by decide +kernel), zin 5 (by decide +kernel) (by decide +kernel), zin 842 (by decide +kernel) (by decide +kernel)⟩, (by decide +kernel), ⟨(by decide +kernel), (by decide +kernel), (by decide +kernel)⟩, by decide⟩, zin 840 (by decide +kernel) (by decide +kernel), zin 841 (by decide +kernel) (by decide +kernel)⟩
theorem lW_77 : zLkV "KeptItemsLaw" 77 mM_items 0 := ⟨⟨⟨zin 843 (by decide +kernel) (by decide +kernel), zin 5 (by decide +kernel) (by decide +kernel), zin 846 (by decide +kernel) (by decide +kernel)⟩, (by decide +kernel), ⟨(by decide +kernel), (by decide +kernel), (by decide +kernel)⟩, by decide⟩, zin 844 (by decide +kernel) (by decide +kernel), zin 845 (by decide +kernel) (by decide +kernel)⟩
theorem lW_81 : zLkV "KeptItemsLaw" 81 mM_kept 0 := ⟨⟨⟨zin 847 (by decide +kernel) (by decide +kernel), zin 5 (by decide +kernel) (by decide +kernel), zin 850 (by decide +kernel) (by decide +kernel)⟩, (by decide +kernel), ⟨(by decide +kernel), (by decide +kernel), (by decide +kernel)⟩, by decide⟩, zin 848 (by decide +kernel) (by decide +kernel), zin 849 (by decide +kernel) (by decide +kernel)⟩
theorem lW_85 : zLkV "KeptItemsLaw" 85 mM_number 1 := ⟨⟨⟨zin 851 (by decide +kernel) (by decide +kernel), zin 5 (by decide +kernel) (by decide +kernel), zin 854 (by decide +kernel) (by decide +kernel)⟩, (by decide +kernel), ⟨(by decide +kernel), (by decide +kernel), (by decide +kernel)⟩, by decide⟩, zin 852 (by decide +kernel) (by decide +kernel), zin 853 (by decide +kernel) (by decide +kernel)⟩
theorem lM_268 : zLkV "KeptItemsModel" 268 mM_isItem 1 := ⟨⟨⟨zin 855 (by decide +kernel) (by decide +kernel), zin 5 (by decide +kernel) (by decide +kernel), zin 858 (by decide +kernel) (by decide +kernel)⟩, (by decide +kernel), ⟨(by decide +kernel), (by decide +kernel), (by decide +kernel)⟩, by decide⟩, zin 857 (by decide +kernel) (by decide +kernel), zinS (q := (⟨"KeptItemsModel", "isItem", "(I)Z"⟩, 43)) 52 (by decide +kernel)⟩
theorem lW_89 : zLkV "KeptItemsLaw" 89 mM_which 1 := ⟨⟨⟨zin 859 (by decide +kernel) (by decide +kernel), zin 5 (by decide +kernel) (by decide +kernel), zin 862 (by decide +kernel) (by decide +kernel)⟩, (by decide +kernel), ⟨(by decide +kernel), (by decide +kernel), (by decide +kernel)⟩, by decide⟩, zin 860 (by decide +kernel) (by decide +kernel), zin 861 (by decide +kernel) (by decide +kernel)⟩
theorem lW_92 : zLkV "KeptItemsLaw" 92 mM_begin 1 := ⟨⟨⟨zin 863 (by decide +kernel) (by decide +kernel), zin 5 (by decide +kernel) (by decide +kernel), zin 866 (by decide +kernel) (by decide +kernel)⟩, (by decide +kernel), ⟨(by decide +kernel), (by decide +kernel), (by decide +kernel)⟩, by decide⟩, zin 864 (by decide +kernel) (by decide +kernel), zin 865 (by decide +kernel) (by decide +kernel)⟩
theorem lW_95 : zLkV "KeptItemsLaw" 95 mM_end 1 := ⟨⟨⟨zin 867 (by decide +kernel) (by decide +kernel), zin 5 (by decide +kernel) (by decide +kernel), zin 870 (by decide +kernel) (by decide +kernel)⟩, (by decide +kernel), ⟨(by decide +kernel), (by decide +kernel), (by decide +kernel)⟩, by decide⟩, zin 868 (by decide +kernel) (by decide +kernel), zin 869 (by decide +kernel) (by decide +kernel)⟩
theorem lW_99 : zLkV "KeptItemsLaw" 99 mM_level 1 := ⟨⟨⟨zin 871 (by decide +kernel) (by decide +kernel), zin 5 (by decide +kernel) (by decide +kernel), zin 874 (by decide +kernel) (by decide +kernel)⟩, (by decide +kernel), ⟨(by decide +kernel), (by decide +kernel), (by decide +kernel)⟩, by decide⟩, zin 872 (by decide +kernel) (by decide +kernel), zin 873 (by decide +kernel) (by decide +kernel)⟩
theorem lW_102 : zLkV "KeptItemsLaw" 102 mM_value 1 := ⟨⟨⟨zin 875 (by decide +kernel) (by decide +kernel), zin 5 (by decide +kernel) (by decide +kernel), zin 878 (by decide +kernel) (by decide +kernel)⟩, (by decide +kernel), ⟨(by decide +kernel), (by decide +kernel), (by decide +kernel)⟩, by decide⟩, zin 876 (by decide +kernel) (by decide +kernel), zin 877 (by decide +kernel) (by decide +kernel)⟩
end
