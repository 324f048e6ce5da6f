section
-- ===== PART A: goes FIRST, ahead of the names: the tables' words, and 'selects' of the private methods out of them =====
/-- a private method of a class that the tables say can be made, by its rows of tables_1 -/
def lw_okq (q : MethodName × Nat) : Prop := (q.1.cls ≠ "java/lang/invoke/MethodHandle" ∧ q.1.cls ≠ "java/lang/invoke/VarHandle") ∧ Cond.instantiable q.1.cls q.2 ∈ tables_1 ∧ Cond.privateMethod q.1 ∈ tables_1 ∧ Cond.instanceMethod q.1 ∈ tables_1
theorem lw_p0 : lw_okq (⟨"java/lang/Throwable", "fillInStackTrace", "(I)Ljava/lang/Throwable;"⟩, 6) := ⟨⟨by decide +kernel, by decide +kernel⟩, List.mem_of_getElem? (i := 244) (by decide +kernel), List.mem_of_getElem? (i := 242) (by decide +kernel), List.mem_of_getElem? (i := 243) (by decide +kernel)⟩
theorem lw_p1 : lw_okq (⟨"KeptItems$Source", "passBlanks", "(I)I"⟩, 5) := ⟨⟨by decide +kernel, by decide +kernel⟩, List.mem_of_getElem? (i := 34) (by decide +kernel), List.mem_of_getElem? (i := 295) (by decide +kernel), List.mem_of_getElem? (i := 296) (by decide +kernel)⟩
theorem lw_p2 : lw_okq (⟨"KeptItems$Source", "tokenFrom", "(I)I"⟩, 5) := ⟨⟨by decide +kernel, by decide +kernel⟩, List.mem_of_getElem? (i := 34) (by decide +kernel), List.mem_of_getElem? (i := 299) (by decide +kernel), List.mem_of_getElem? (i := 300) (by decide +kernel)⟩
theorem lw_p3 : lw_okq (⟨"KeptItems$Source", "quotedFrom", "(I)I"⟩, 5) := ⟨⟨by decide +kernel, by decide +kernel⟩, List.mem_of_getElem? (i := 34) (by decide +kernel), List.mem_of_getElem? (i := 303) (by decide +kernel), List.mem_of_getElem? (i := 304) (by decide +kernel)⟩
theorem lw_p4 : lw_okq (⟨"KeptItems$Source", "behindRun", "(IZ)I"⟩, 5) := ⟨⟨by decide +kernel, by decide +kernel⟩, List.mem_of_getElem? (i := 34) (by decide +kernel), List.mem_of_getElem? (i := 313) (by decide +kernel), List.mem_of_getElem? (i := 314) (by decide +kernel)⟩
theorem lw_p5 : lw_okq (⟨"KeptItems$Reading", "readItem", "(I)V"⟩, 4) := ⟨⟨by decide +kernel, by decide +kernel⟩, List.mem_of_getElem? (i := 28) (by decide +kernel), List.mem_of_getElem? (i := 423) (by decide +kernel), List.mem_of_getElem? (i := 424) (by decide +kernel)⟩
theorem lw_p6 : lw_okq (⟨"KeptItems$Reading", "sees", "(C)Z"⟩, 4) := ⟨⟨by decide +kernel, by decide +kernel⟩, List.mem_of_getElem? (i := 28) (by decide +kernel), List.mem_of_getElem? (i := 427) (by decide +kernel), List.mem_of_getElem? (i := 428) (by decide +kernel)⟩
theorem lw_p7 : lw_okq (⟨"KeptItems$Reading", "readBlock", "(I)I"⟩, 4) := ⟨⟨by decide +kernel, by decide +kernel⟩, List.mem_of_getElem? (i := 28) (by decide +kernel), List.mem_of_getElem? (i := 431) (by decide +kernel), List.mem_of_getElem? (i := 432) (by decide +kernel)⟩
theorem lw_p8 : lw_okq (⟨"KeptItems$Reading", "opens", "(CI)Z"⟩, 4) := ⟨⟨by decide +kernel, by decide +kernel⟩, List.mem_of_getElem? (i := 28) (by decide +kernel), List.mem_of_getElem? (i := 435) (by decide +kernel), List.mem_of_getElem? (i := 436) (by decide +kernel)⟩
theorem lw_p9 : lw_okq (⟨"KeptItems$Reading", "needs", "(C)V"⟩, 4) := ⟨⟨by decide +kernel, by decide +kernel⟩, List.mem_of_getElem? (i := 28) (by decide +kernel), List.mem_of_getElem? (i := 439) (by decide +kernel), List.mem_of_getElem? (i := 440) (by decide +kernel)⟩
theorem lw_p10 : lw_okq (⟨"KeptItems$Reading", "takes", "(C)Z"⟩, 4) := ⟨⟨by decide +kernel, by decide +kernel⟩, List.mem_of_getElem? (i := 28) (by decide +kernel), List.mem_of_getElem? (i := 443) (by decide +kernel), List.mem_of_getElem? (i := 444) (by decide +kernel)⟩
theorem lw_p11 : lw_okq (⟨"KeptItems$Reading", "readSum", "(I)I"⟩, 4) := ⟨⟨by decide +kernel, by decide +kernel⟩, List.mem_of_getElem? (i := 28) (by decide +kernel), List.mem_of_getElem? (i := 447) (by decide +kernel), List.mem_of_getElem? (i := 448) (by decide +kernel)⟩
theorem lw_p12 : lw_okq (⟨"KeptItems$Reading", "readFactor", "(I)I"⟩, 4) := ⟨⟨by decide +kernel, by decide +kernel⟩, List.mem_of_getElem? (i := 28) (by decide +kernel), List.mem_of_getElem? (i := 451) (by decide +kernel), List.mem_of_getElem? (i := 452) (by decide +kernel)⟩
theorem lw_p13 : lw_okq (⟨"KeptItems$Reading", "readCall", "(II)I"⟩, 4) := ⟨⟨by decide +kernel, by decide +kernel⟩, List.mem_of_getElem? (i := 28) (by decide +kernel), List.mem_of_getElem? (i := 460) (by decide +kernel), List.mem_of_getElem? (i := 461) (by decide +kernel)⟩
theorem lw_p14 : lw_okq (⟨"KeptItems$Reading", "namedValue", "(I)I"⟩, 4) := ⟨⟨by decide +kernel, by decide +kernel⟩, List.mem_of_getElem? (i := 28) (by decide +kernel), List.mem_of_getElem? (i := 464) (by decide +kernel), List.mem_of_getElem? (i := 465) (by decide +kernel)⟩
theorem lw_p15 : lw_okq (⟨"KeptItems", "traceTokens", "(II)I"⟩, 7) := ⟨⟨by decide +kernel, by decide +kernel⟩, List.mem_of_getElem? (i := 20) (by decide +kernel), List.mem_of_getElem? (i := 472) (by decide +kernel), List.mem_of_getElem? (i := 473) (by decide +kernel)⟩
def lw_privs_1 : List (MethodName × Nat) := [(⟨"java/lang/Throwable", "fillInStackTrace", "(I)Ljava/lang/Throwable;"⟩, 6), (⟨"KeptItems$Source", "passBlanks", "(I)I"⟩, 5), (⟨"KeptItems$Source", "tokenFrom", "(I)I"⟩, 5), (⟨"KeptItems$Source", "quotedFrom", "(I)I"⟩, 5), (⟨"KeptItems$Source", "behindRun", "(IZ)I"⟩, 5), (⟨"KeptItems$Reading", "readItem", "(I)V"⟩, 4), (⟨"KeptItems$Reading", "sees", "(C)Z"⟩, 4), (⟨"KeptItems$Reading", "readBlock", "(I)I"⟩, 4), (⟨"KeptItems$Reading", "opens", "(CI)Z"⟩, 4), (⟨"KeptItems$Reading", "needs", "(C)V"⟩, 4), (⟨"KeptItems$Reading", "takes", "(C)Z"⟩, 4), (⟨"KeptItems$Reading", "readSum", "(I)I"⟩, 4), (⟨"KeptItems$Reading", "readFactor", "(I)I"⟩, 4), (⟨"KeptItems$Reading", "readCall", "(II)I"⟩, 4), (⟨"KeptItems$Reading", "namedValue", "(I)I"⟩, 4), (⟨"KeptItems", "traceTokens", "(II)I"⟩, 7)]
theorem lw_r1 : ∀ q ∈ lw_privs_1, lw_okq q := List.forall_mem_cons.mpr ⟨lw_p0, List.forall_mem_cons.mpr ⟨lw_p1, List.forall_mem_cons.mpr ⟨lw_p2, List.forall_mem_cons.mpr ⟨lw_p3, List.forall_mem_cons.mpr ⟨lw_p4, List.forall_mem_cons.mpr ⟨lw_p5, List.forall_mem_cons.mpr ⟨lw_p6, List.forall_mem_cons.mpr ⟨lw_p7, List.forall_mem_cons.mpr ⟨lw_p8, List.forall_mem_cons.mpr ⟨lw_p9, List.forall_mem_cons.mpr ⟨lw_p10, List.forall_mem_cons.mpr ⟨lw_p11, List.forall_mem_cons.mpr ⟨lw_p12, List.forall_mem_cons.mpr ⟨lw_p13, List.forall_mem_cons.mpr ⟨lw_p14, List.forall_mem_cons.mpr ⟨lw_p15, fun _ h => absurd h List.not_mem_nil⟩⟩⟩⟩⟩⟩⟩⟩⟩⟩⟩⟩⟩⟩⟩⟩
theorem lw_p16 : lw_okq (⟨"KeptItems", "numberItems", "()V"⟩, 7) := ⟨⟨by decide +kernel, by decide +kernel⟩, List.mem_of_getElem? (i := 20) (by decide +kernel), List.mem_of_getElem? (i := 483) (by decide +kernel), List.mem_of_getElem? (i := 484) (by decide +kernel)⟩
theorem lw_p17 : lw_okq (⟨"KeptItems", "oldItem", "(I)I"⟩, 7) := ⟨⟨by decide +kernel, by decide +kernel⟩, List.mem_of_getElem? (i := 20) (by decide +kernel), List.mem_of_getElem? (i := 487) (by decide +kernel), List.mem_of_getElem? (i := 488) (by decide +kernel)⟩
theorem lw_p18 : lw_okq (⟨"KeptItemsModel", "keepOld", "()V"⟩, 43) := ⟨⟨by decide +kernel, by decide +kernel⟩, List.mem_of_getElem? (i := 526) (by decide +kernel), List.mem_of_getElem? (i := 679) (by decide +kernel), List.mem_of_getElem? (i := 680) (by decide +kernel)⟩
theorem lw_p19 : lw_okq (⟨"KeptItemsModel", "change", "(II)V"⟩, 43) := ⟨⟨by decide +kernel, by decide +kernel⟩, List.mem_of_getElem? (i := 526) (by decide +kernel), List.mem_of_getElem? (i := 683) (by decide +kernel), List.mem_of_getElem? (i := 684) (by decide +kernel)⟩
theorem lw_p20 : lw_okq (⟨"KeptItemsModel", "findTokens", "()V"⟩, 43) := ⟨⟨by decide +kernel, by decide +kernel⟩, List.mem_of_getElem? (i := 526) (by decide +kernel), List.mem_of_getElem? (i := 687) (by decide +kernel), List.mem_of_getElem? (i := 688) (by decide +kernel)⟩
theorem lw_p21 : lw_okq (⟨"KeptItemsModel", "skip", "(I)I"⟩, 43) := ⟨⟨by decide +kernel, by decide +kernel⟩, List.mem_of_getElem? (i := 526) (by decide +kernel), List.mem_of_getElem? (i := 691) (by decide +kernel), List.mem_of_getElem? (i := 692) (by decide +kernel)⟩
theorem lw_p22 : lw_okq (⟨"KeptItemsModel", "addToken", "(III)V"⟩, 43) := ⟨⟨by decide +kernel, by decide +kernel⟩, List.mem_of_getElem? (i := 526) (by decide +kernel), List.mem_of_getElem? (i := 704) (by decide +kernel), List.mem_of_getElem? (i := 705) (by decide +kernel)⟩
theorem lw_p23 : lw_okq (⟨"KeptItemsModel", "read", "()V"⟩, 43) := ⟨⟨by decide +kernel, by decide +kernel⟩, List.mem_of_getElem? (i := 526) (by decide +kernel), List.mem_of_getElem? (i := 708) (by decide +kernel), List.mem_of_getElem? (i := 709) (by decide +kernel)⟩
theorem lw_p24 : lw_okq (⟨"KeptItemsModel", "readToken", "(I)Z"⟩, 43) := ⟨⟨by decide +kernel, by decide +kernel⟩, List.mem_of_getElem? (i := 526) (by decide +kernel), List.mem_of_getElem? (i := 712) (by decide +kernel), List.mem_of_getElem? (i := 713) (by decide +kernel)⟩
theorem lw_p25 : lw_okq (⟨"KeptItemsModel", "is", "(IC)Z"⟩, 43) := ⟨⟨by decide +kernel, by decide +kernel⟩, List.mem_of_getElem? (i := 526) (by decide +kernel), List.mem_of_getElem? (i := 716) (by decide +kernel), List.mem_of_getElem? (i := 717) (by decide +kernel)⟩
theorem lw_p26 : lw_okq (⟨"KeptItemsModel", "push", "(I)Z"⟩, 43) := ⟨⟨by decide +kernel, by decide +kernel⟩, List.mem_of_getElem? (i := 526) (by decide +kernel), List.mem_of_getElem? (i := 720) (by decide +kernel), List.mem_of_getElem? (i := 721) (by decide +kernel)⟩
theorem lw_p27 : lw_okq (⟨"KeptItemsModel", "whole", "()V"⟩, 43) := ⟨⟨by decide +kernel, by decide +kernel⟩, List.mem_of_getElem? (i := 526) (by decide +kernel), List.mem_of_getElem? (i := 724) (by decide +kernel), List.mem_of_getElem? (i := 725) (by decide +kernel)⟩
theorem lw_p28 : lw_okq (⟨"KeptItemsModel", "top", "()I"⟩, 43) := ⟨⟨by decide +kernel, by decide +kernel⟩, List.mem_of_getElem? (i := 526) (by decide +kernel), List.mem_of_getElem? (i := 728) (by decide +kernel), List.mem_of_getElem? (i := 729) (by decide +kernel)⟩
theorem lw_p29 : lw_okq (⟨"KeptItemsModel", "readItem", "(I)Z"⟩, 43) := ⟨⟨by decide +kernel, by decide +kernel⟩, List.mem_of_getElem? (i := 526) (by decide +kernel), List.mem_of_getElem? (i := 732) (by decide +kernel), List.mem_of_getElem? (i := 733) (by decide +kernel)⟩
theorem lw_p30 : lw_okq (⟨"KeptItemsModel", "start", "(IZ)V"⟩, 43) := ⟨⟨by decide +kernel, by decide +kernel⟩, List.mem_of_getElem? (i := 526) (by decide +kernel), List.mem_of_getElem? (i := 736) (by decide +kernel), List.mem_of_getElem? (i := 737) (by decide +kernel)⟩
theorem lw_p31 : lw_okq (⟨"KeptItemsModel", "finish", "(II)V"⟩, 43) := ⟨⟨by decide +kernel, by decide +kernel⟩, List.mem_of_getElem? (i := 526) (by decide +kernel), List.mem_of_getElem? (i := 740) (by decide +kernel), List.mem_of_getElem? (i := 741) (by decide +kernel)⟩
def lw_privs_2 : List (MethodName × Nat) := [(⟨"KeptItems", "numberItems", "()V"⟩, 7), (⟨"KeptItems", "oldItem", "(I)I"⟩, 7), (⟨"KeptItemsModel", "keepOld", "()V"⟩, 43), (⟨"KeptItemsModel", "change", "(II)V"⟩, 43), (⟨"KeptItemsModel", "findTokens", "()V"⟩, 43), (⟨"KeptItemsModel", "skip", "(I)I"⟩, 43), (⟨"KeptItemsModel", "addToken", "(III)V"⟩, 43), (⟨"KeptItemsModel", "read", "()V"⟩, 43), (⟨"KeptItemsModel", "readToken", "(I)Z"⟩, 43), (⟨"KeptItemsModel", "is", "(IC)Z"⟩, 43), (⟨"KeptItemsModel", "push", "(I)Z"⟩, 43), (⟨"KeptItemsModel", "whole", "()V"⟩, 43), (⟨"KeptItemsModel", "top", "()I"⟩, 43), (⟨"KeptItemsModel", "readItem", "(I)Z"⟩, 43), (⟨"KeptItemsModel", "start", "(IZ)V"⟩, 43), (⟨"KeptItemsModel", "finish", "(II)V"⟩, 43)]
theorem lw_r2 : ∀ q ∈ lw_privs_2, lw_okq q := List.forall_mem_cons.mpr ⟨lw_p16, List.forall_mem_cons.mpr ⟨lw_p17, List.forall_mem_cons.mpr ⟨lw_p18, List.forall_mem_cons.mpr ⟨lw_p19, List.forall_mem_cons.mpr ⟨lw_p20, List.forall_mem_cons.mpr ⟨lw_p21, List.forall_mem_cons.mpr ⟨lw_p22, List.forall_mem_cons.mpr ⟨lw_p23, List.forall_mem_cons.mpr ⟨lw_p24, List.forall_mem_cons.mpr ⟨lw_p25, List.forall_mem_cons.mpr ⟨lw_p26, List.forall_mem_cons.mpr ⟨lw_p27, List.forall_mem_cons.mpr ⟨lw_p28, List.forall_mem_cons.mpr ⟨lw_p29, List.forall_mem_cons.mpr ⟨lw_p30, List.forall_mem_cons.mpr ⟨lw_p31, fun _ h => absurd h List.not_mem_nil⟩⟩⟩⟩⟩⟩⟩⟩⟩⟩⟩⟩⟩⟩⟩⟩
theorem lw_p32 : lw_okq (⟨"KeptItemsModel", "readNamed", "(I)Z"⟩, 43) := ⟨⟨by decide +kernel, by decide +kernel⟩, List.mem_of_getElem? (i := 526) (by decide +kernel), List.mem_of_getElem? (i := 744) (by decide +kernel), List.mem_of_getElem? (i := 745) (by decide +kernel)⟩
theorem lw_p33 : lw_okq (⟨"KeptItemsModel", "readFactor", "(I)Z"⟩, 43) := ⟨⟨by decide +kernel, by decide +kernel⟩, List.mem_of_getElem? (i := 526) (by decide +kernel), List.mem_of_getElem? (i := 748) (by decide +kernel), List.mem_of_getElem? (i := 749) (by decide +kernel)⟩
theorem lw_p34 : lw_okq (⟨"KeptItemsModel", "close", "()Z"⟩, 43) := ⟨⟨by decide +kernel, by decide +kernel⟩, List.mem_of_getElem? (i := 526) (by decide +kernel), List.mem_of_getElem? (i := 752) (by decide +kernel), List.mem_of_getElem? (i := 753) (by decide +kernel)⟩
theorem lw_p35 : lw_okq (⟨"KeptItemsModel", "readBehind", "(I)Z"⟩, 43) := ⟨⟨by decide +kernel, by decide +kernel⟩, List.mem_of_getElem? (i := 526) (by decide +kernel), List.mem_of_getElem? (i := 756) (by decide +kernel), List.mem_of_getElem? (i := 757) (by decide +kernel)⟩
theorem lw_p36 : lw_okq (⟨"KeptItemsModel", "compareTokens", "(III)I"⟩, 43) := ⟨⟨by decide +kernel, by decide +kernel⟩, List.mem_of_getElem? (i := 526) (by decide +kernel), List.mem_of_getElem? (i := 760) (by decide +kernel), List.mem_of_getElem? (i := 761) (by decide +kernel)⟩
theorem lw_p37 : lw_okq (⟨"KeptItemsModel", "tokenAt", "(III)I"⟩, 43) := ⟨⟨by decide +kernel, by decide +kernel⟩, List.mem_of_getElem? (i := 526) (by decide +kernel), List.mem_of_getElem? (i := 764) (by decide +kernel), List.mem_of_getElem? (i := 765) (by decide +kernel)⟩
theorem lw_p38 : lw_okq (⟨"KeptItemsModel", "giveNumbers", "()V"⟩, 43) := ⟨⟨by decide +kernel, by decide +kernel⟩, List.mem_of_getElem? (i := 526) (by decide +kernel), List.mem_of_getElem? (i := 768) (by decide +kernel), List.mem_of_getElem? (i := 769) (by decide +kernel)⟩
theorem lw_p39 : lw_okq (⟨"KeptItemsModel", "oldOf", "(I)I"⟩, 43) := ⟨⟨by decide +kernel, by decide +kernel⟩, List.mem_of_getElem? (i := 526) (by decide +kernel), List.mem_of_getElem? (i := 772) (by decide +kernel), List.mem_of_getElem? (i := 773) (by decide +kernel)⟩
theorem lw_p40 : lw_okq (⟨"KeptItemsModel", "findValues", "()V"⟩, 43) := ⟨⟨by decide +kernel, by decide +kernel⟩, List.mem_of_getElem? (i := 526) (by decide +kernel), List.mem_of_getElem? (i := 776) (by decide +kernel), List.mem_of_getElem? (i := 777) (by decide +kernel)⟩
theorem lw_p41 : lw_okq (⟨"KeptItemsModel", "countInside", "(I)I"⟩, 43) := ⟨⟨by decide +kernel, by decide +kernel⟩, List.mem_of_getElem? (i := 526) (by decide +kernel), List.mem_of_getElem? (i := 780) (by decide +kernel), List.mem_of_getElem? (i := 781) (by decide +kernel)⟩
theorem lw_p42 : lw_okq (⟨"KeptItemsModel", "valueOf", "(III)I"⟩, 43) := ⟨⟨by decide +kernel, by decide +kernel⟩, List.mem_of_getElem? (i := 526) (by decide +kernel), List.mem_of_getElem? (i := 784) (by decide +kernel), List.mem_of_getElem? (i := 785) (by decide +kernel)⟩
theorem lw_p43 : lw_okq (⟨"KeptItemsModel", "enter", "(ZI)V"⟩, 43) := ⟨⟨by decide +kernel, by decide +kernel⟩, List.mem_of_getElem? (i := 526) (by decide +kernel), List.mem_of_getElem? (i := 788) (by decide +kernel), List.mem_of_getElem? (i := 789) (by decide +kernel)⟩
theorem lw_p44 : lw_okq (⟨"KeptItemsModel", "leave", "(Z)I"⟩, 43) := ⟨⟨by decide +kernel, by decide +kernel⟩, List.mem_of_getElem? (i := 526) (by decide +kernel), List.mem_of_getElem? (i := 792) (by decide +kernel), List.mem_of_getElem? (i := 793) (by decide +kernel)⟩
theorem lw_p45 : lw_okq (⟨"KeptItemsModel", "total", "()I"⟩, 43) := ⟨⟨by decide +kernel, by decide +kernel⟩, List.mem_of_getElem? (i := 526) (by decide +kernel), List.mem_of_getElem? (i := 796) (by decide +kernel), List.mem_of_getElem? (i := 797) (by decide +kernel)⟩
theorem lw_p46 : lw_okq (⟨"KeptItemsModel", "take", "(I)V"⟩, 43) := ⟨⟨by decide +kernel, by decide +kernel⟩, List.mem_of_getElem? (i := 526) (by decide +kernel), List.mem_of_getElem? (i := 800) (by decide +kernel), List.mem_of_getElem? (i := 801) (by decide +kernel)⟩
theorem lw_p47 : lw_okq (⟨"KeptItemsModel", "operate", "(I)V"⟩, 43) := ⟨⟨by decide +kernel, by decide +kernel⟩, List.mem_of_getElem? (i := 526) (by decide +kernel), List.mem_of_getElem? (i := 804) (by decide +kernel), List.mem_of_getElem? (i := 805) (by decide +kernel)⟩
def lw_privs_3 : List (MethodName × Nat) := [(⟨"KeptItemsModel", "readNamed", "(I)Z"⟩, 43), (⟨"KeptItemsModel", "readFactor", "(I)Z"⟩, 43), (⟨"KeptItemsModel", "close", "()Z"⟩, 43), (⟨"KeptItemsModel", "readBehind", "(I)Z"⟩, 43), (⟨"KeptItemsModel", "compareTokens", "(III)I"⟩, 43), (⟨"KeptItemsModel", "tokenAt", "(III)I"⟩, 43), (⟨"KeptItemsModel", "giveNumbers", "()V"⟩, 43), (⟨"KeptItemsModel", "oldOf", "(I)I"⟩, 43), (⟨"KeptItemsModel", "findValues", "()V"⟩, 43), (⟨"KeptItemsModel", "countInside", "(I)I"⟩, 43), (⟨"KeptItemsModel", "valueOf", "(III)I"⟩, 43), (⟨"KeptItemsModel", "enter", "(ZI)V"⟩, 43), (⟨"KeptItemsModel", "leave", "(Z)I"⟩, 43), (⟨"KeptItemsModel", "total", "()I"⟩, 43), (⟨"KeptItemsModel", "take", "(I)V"⟩, 43), (⟨"KeptItemsModel", "operate", "(I)V"⟩, 43)]
theorem lw_r3 : ∀ q ∈ lw_privs_3, lw_okq q := List.forall_mem_cons.mpr ⟨lw_p32, List.forall_mem_cons.mpr ⟨lw_p33, List.forall_mem_cons.mpr ⟨lw_p34, List.forall_mem_cons.mpr ⟨lw_p35, List.forall_mem_cons.mpr ⟨lw_p36, List.forall_mem_cons.mpr ⟨lw_p37, List.forall_mem_cons.mpr ⟨lw_p38, List.forall_mem_cons.mpr ⟨lw_p39, List.forall_mem_cons.mpr ⟨lw_p40, List.forall_mem_cons.mpr ⟨lw_p41, List.forall_mem_cons.mpr ⟨lw_p42, List.forall_mem_cons.mpr ⟨lw_p43, List.forall_mem_cons.mpr ⟨lw_p44, List.forall_mem_cons.mpr ⟨lw_p45, List.forall_mem_cons.mpr ⟨lw_p46, List.forall_mem_cons.mpr ⟨lw_p47, fun _ h => absurd h List.not_mem_nil⟩⟩⟩⟩⟩⟩⟩⟩⟩⟩⟩⟩⟩⟩⟩⟩
theorem lw_p48 : lw_okq (⟨"KeptItemsModel", "restart", "(II)V"⟩, 43) := ⟨⟨by decide +kernel, by decide +kernel⟩, List.mem_of_getElem? (i := 526) (by decide +kernel), List.mem_of_getElem? (i := 808) (by decide +kernel), List.mem_of_getElem? (i := 809) (by decide +kernel)⟩
theorem lw_p49 : lw_okq (⟨"KeptItemsModel", "numberValue", "(I)I"⟩, 43) := ⟨⟨by decide +kernel, by decide +kernel⟩, List.mem_of_getElem? (i := 526) (by decide +kernel), List.mem_of_getElem? (i := 812) (by decide +kernel), List.mem_of_getElem? (i := 813) (by decide +kernel)⟩
theorem lw_p50 : lw_okq (⟨"KeptItemsModel", "named", "(II)I"⟩, 43) := ⟨⟨by decide +kernel, by decide +kernel⟩, List.mem_of_getElem? (i := 526) (by decide +kernel), List.mem_of_getElem? (i := 816) (by decide +kernel), List.mem_of_getElem? (i := 817) (by decide +kernel)⟩
theorem lw_p51 : lw_okq (⟨"KeptItemsModel", "sameLetters", "(II)Z"⟩, 43) := ⟨⟨by decide +kernel, by decide +kernel⟩, List.mem_of_getElem? (i := 526) (by decide +kernel), List.mem_of_getElem? (i := 820) (by decide +kernel), List.mem_of_getElem? (i := 821) (by decide +kernel)⟩
theorem lw_p52 : lw_okq (⟨"KeptItemsModel", "isItem", "(I)Z"⟩, 43) := ⟨⟨by decide +kernel, by decide +kernel⟩, List.mem_of_getElem? (i := 526) (by decide +kernel), List.mem_of_getElem? (i := 856) (by decide +kernel), List.mem_of_getElem? (i := 857) (by decide +kernel)⟩
def lw_privs_4 : List (MethodName × Nat) := [(⟨"KeptItemsModel", "restart", "(II)V"⟩, 43), (⟨"KeptItemsModel", "numberValue", "(I)I"⟩, 43), (⟨"KeptItemsModel", "named", "(II)I"⟩, 43), (⟨"KeptItemsModel", "sameLetters", "(II)Z"⟩, 43), (⟨"KeptItemsModel", "isItem", "(I)Z"⟩, 43)]
theorem lw_r4 : ∀ q ∈ lw_privs_4, lw_okq q := List.forall_mem_cons.mpr ⟨lw_p48, List.forall_mem_cons.mpr ⟨lw_p49, List.forall_mem_cons.mpr ⟨lw_p50, List.forall_mem_cons.mpr ⟨lw_p51, List.forall_mem_cons.mpr ⟨lw_p52, fun _ h => absurd h List.not_mem_nil⟩⟩⟩⟩⟩
def lw_privs : List (MethodName × Nat) := lw_privs_1 ++ (lw_privs_2 ++ (lw_privs_3 ++ (lw_privs_4)))
def lw_tbl : List Cond := k2_sels lw_privs ++ tables_1
theorem lw_privs_ok : ∀ q ∈ lw_privs, lw_okq q := by
  show ∀ q ∈ lw_privs_1 ++ (lw_privs_2 ++ (lw_privs_3 ++ (lw_privs_4))), lw_okq q
  exact List.forall_mem_append.mpr ⟨lw_r1, List.forall_mem_append.mpr ⟨lw_r2, List.forall_mem_append.mpr ⟨lw_r3, lw_r4⟩⟩⟩
-- ===== end of PART A; then your names; then what follows =====
end
section
/- names: methods, classes, the world's shape, words (printed by program) -/
abbrev zY : Type := MethodName × ByteArray × Nat × Option FieldType
def mK_init : zY := (⟨"KeptItems", "<init>", "()V"⟩, prog_1_method_1_code, 1, (Option.none : Option Jvm.ClassFile.FieldType))
def mK_type : zY := (⟨"KeptItems", "type", "(C)Z"⟩, prog_1_method_2_code, 3, (Option.some Jvm.ClassFile.FieldType.boolean))
def mK_wipe : zY := (⟨"KeptItems", "wipe", "()I"⟩, prog_1_method_3_code, 2, (Option.some Jvm.ClassFile.FieldType.int))
def mK_edit : zY := (⟨"KeptItems", "edit", "(II)I"⟩, prog_1_method_4_code, 6, (Option.some Jvm.ClassFile.FieldType.int))
def mK_length : zY := (⟨"KeptItems", "length", "()I"⟩, prog_1_method_5_code, 1, (Option.some Jvm.ClassFile.FieldType.int))
def mK_at : zY := (⟨"KeptItems", "at", "(I)C"⟩, prog_1_method_6_code, 2, (Option.some Jvm.ClassFile.FieldType.char))
def mK_tokens : zY := (⟨"KeptItems", "tokens", "()I"⟩, prog_1_method_7_code, 1, (Option.some Jvm.ClassFile.FieldType.int))
def mK_token : zY := (⟨"KeptItems", "token", "(I)I"⟩, prog_1_method_8_code, 2, (Option.some Jvm.ClassFile.FieldType.int))
def mK_fault : zY := (⟨"KeptItems", "fault", "()I"⟩, prog_1_method_9_code, 1, (Option.some Jvm.ClassFile.FieldType.int))
def mK_items : zY := (⟨"KeptItems", "items", "()I"⟩, prog_1_method_10_code, 1, (Option.some Jvm.ClassFile.FieldType.int))
def mK_kept : zY := (⟨"KeptItems", "kept", "()I"⟩, prog_1_method_11_code, 1, (Option.some Jvm.ClassFile.FieldType.int))
def mK_number : zY := (⟨"KeptItems", "number", "(I)I"⟩, prog_1_method_12_code, 2, (Option.some Jvm.ClassFile.FieldType.int))
def mK_which : zY := (⟨"KeptItems", "which", "(I)I"⟩, prog_1_method_13_code, 2, (Option.some Jvm.ClassFile.FieldType.int))
def mK_begin : zY := (⟨"KeptItems", "begin", "(I)I"⟩, prog_1_method_14_code, 2, (Option.some Jvm.ClassFile.FieldType.int))
def mK_end : zY := (⟨"KeptItems", "end", "(I)I"⟩, prog_1_method_15_code, 2, (Option.some Jvm.ClassFile.FieldType.int))
def mK_level : zY := (⟨"KeptItems", "level", "(I)I"⟩, prog_1_method_16_code, 2, (Option.some Jvm.ClassFile.FieldType.int))
def mK_value : zY := (⟨"KeptItems", "value", "(I)I"⟩, prog_1_method_17_code, 2, (Option.some Jvm.ClassFile.FieldType.int))
def mK_traceTokens : zY := (⟨"KeptItems", "traceTokens", "(II)I"⟩, prog_1_method_18_code, 8, (Option.some Jvm.ClassFile.FieldType.int))
def mK_numberItems : zY := (⟨"KeptItems", "numberItems", "()V"⟩, prog_1_method_19_code, 3, (Option.none : Option Jvm.ClassFile.FieldType))
def mK_oldItem : zY := (⟨"KeptItems", "oldItem", "(I)I"⟩, prog_1_method_20_code, 6, (Option.some Jvm.ClassFile.FieldType.int))
def mM_init : zY := (⟨"KeptItemsModel", "<init>", "()V"⟩, prog_6_method_1_code, 1, (Option.none : Option Jvm.ClassFile.FieldType))
def mM_thrown : zY := (⟨"KeptItemsModel", "thrown", "()I"⟩, prog_6_method_2_code, 1, (Option.some Jvm.ClassFile.FieldType.int))
def mM_type : zY := (⟨"KeptItemsModel", "type", "(C)Z"⟩, prog_6_method_3_code, 2, (Option.some Jvm.ClassFile.FieldType.boolean))
def mM_wipe : zY := (⟨"KeptItemsModel", "wipe", "()I"⟩, prog_6_method_4_code, 2, (Option.some Jvm.ClassFile.FieldType.int))
def mM_change : zY := (⟨"KeptItemsModel", "change", "(II)V"⟩, prog_6_method_5_code, 5, (Option.none : Option Jvm.ClassFile.FieldType))
def mM_isLetter : zY := (⟨"KeptItemsModel", "isLetter", "(C)Z"⟩, prog_6_method_6_code, 1, (Option.some Jvm.ClassFile.FieldType.boolean))
def mM_isDigit : zY := (⟨"KeptItemsModel", "isDigit", "(C)Z"⟩, prog_6_method_7_code, 1, (Option.some Jvm.ClassFile.FieldType.boolean))
def mM_isSign : zY := (⟨"KeptItemsModel", "isSign", "(C)Z"⟩, prog_6_method_8_code, 1, (Option.some Jvm.ClassFile.FieldType.boolean))
def mM_skip : zY := (⟨"KeptItemsModel", "skip", "(I)I"⟩, prog_6_method_9_code, 4, (Option.some Jvm.ClassFile.FieldType.int))
def mM_addToken : zY := (⟨"KeptItemsModel", "addToken", "(III)V"⟩, prog_6_method_10_code, 4, (Option.none : Option Jvm.ClassFile.FieldType))
def mM_findTokens : zY := (⟨"KeptItemsModel", "findTokens", "()V"⟩, prog_6_method_11_code, 5, (Option.none : Option Jvm.ClassFile.FieldType))
def mM_is : zY := (⟨"KeptItemsModel", "is", "(IC)Z"⟩, prog_6_method_12_code, 3, (Option.some Jvm.ClassFile.FieldType.boolean))
def mM_top : zY := (⟨"KeptItemsModel", "top", "()I"⟩, prog_6_method_13_code, 1, (Option.some Jvm.ClassFile.FieldType.int))
def mM_push : zY := (⟨"KeptItemsModel", "push", "(I)Z"⟩, prog_6_method_14_code, 2, (Option.some Jvm.ClassFile.FieldType.boolean))
def mM_whole : zY := (⟨"KeptItemsModel", "whole", "()V"⟩, prog_6_method_15_code, 1, (Option.none : Option Jvm.ClassFile.FieldType))
def mM_start : zY := (⟨"KeptItemsModel", "start", "(IZ)V"⟩, prog_6_method_16_code, 3, (Option.none : Option Jvm.ClassFile.FieldType))
def mM_finish : zY := (⟨"KeptItemsModel", "finish", "(II)V"⟩, prog_6_method_17_code, 3, (Option.none : Option Jvm.ClassFile.FieldType))
def mM_readItem : zY := (⟨"KeptItemsModel", "readItem", "(I)Z"⟩, prog_6_method_18_code, 2, (Option.some Jvm.ClassFile.FieldType.boolean))
def mM_readNamed : zY := (⟨"KeptItemsModel", "readNamed", "(I)Z"⟩, prog_6_method_19_code, 2, (Option.some Jvm.ClassFile.FieldType.boolean))
def mM_readFactor : zY := (⟨"KeptItemsModel", "readFactor", "(I)Z"⟩, prog_6_method_20_code, 2, (Option.some Jvm.ClassFile.FieldType.boolean))
def mM_close : zY := (⟨"KeptItemsModel", "close", "()Z"⟩, prog_6_method_21_code, 2, (Option.some Jvm.ClassFile.FieldType.boolean))
def mM_readBehind : zY := (⟨"KeptItemsModel", "readBehind", "(I)Z"⟩, prog_6_method_22_code, 4, (Option.some Jvm.ClassFile.FieldType.boolean))
def mM_readToken : zY := (⟨"KeptItemsModel", "readToken", "(I)Z"⟩, prog_6_method_23_code, 2, (Option.some Jvm.ClassFile.FieldType.boolean))
def mM_read : zY := (⟨"KeptItemsModel", "read", "()V"⟩, prog_6_method_24_code, 3, (Option.none : Option Jvm.ClassFile.FieldType))
def mM_numberValue : zY := (⟨"KeptItemsModel", "numberValue", "(I)I"⟩, prog_6_method_25_code, 4, (Option.some Jvm.ClassFile.FieldType.int))
def mM_sameLetters : zY := (⟨"KeptItemsModel", "sameLetters", "(II)Z"⟩, prog_6_method_26_code, 5, (Option.some Jvm.ClassFile.FieldType.boolean))
def mM_named : zY := (⟨"KeptItemsModel", "named", "(II)I"⟩, prog_6_method_27_code, 5, (Option.some Jvm.ClassFile.FieldType.int))
def mM_enter : zY := (⟨"KeptItemsModel", "enter", "(ZI)V"⟩, prog_6_method_28_code, 3, (Option.none : Option Jvm.ClassFile.FieldType))
def mM_take : zY := (⟨"KeptItemsModel", "take", "(I)V"⟩, prog_6_method_29_code, 2, (Option.none : Option Jvm.ClassFile.FieldType))
def mM_total : zY := (⟨"KeptItemsModel", "total", "()I"⟩, prog_6_method_30_code, 1, (Option.some Jvm.ClassFile.FieldType.int))
def mM_restart : zY := (⟨"KeptItemsModel", "restart", "(II)V"⟩, prog_6_method_31_code, 3, (Option.none : Option Jvm.ClassFile.FieldType))
def mM_leave : zY := (⟨"KeptItemsModel", "leave", "(Z)I"⟩, prog_6_method_32_code, 3, (Option.some Jvm.ClassFile.FieldType.int))
def mM_operate : zY := (⟨"KeptItemsModel", "operate", "(I)V"⟩, prog_6_method_33_code, 2, (Option.none : Option Jvm.ClassFile.FieldType))
def mM_valueOf : zY := (⟨"KeptItemsModel", "valueOf", "(III)I"⟩, prog_6_method_34_code, 7, (Option.some Jvm.ClassFile.FieldType.int))
def mM_countInside : zY := (⟨"KeptItemsModel", "countInside", "(I)I"⟩, prog_6_method_35_code, 4, (Option.some Jvm.ClassFile.FieldType.int))
def mM_findValues : zY := (⟨"KeptItemsModel", "findValues", "()V"⟩, prog_6_method_36_code, 2, (Option.none : Option Jvm.ClassFile.FieldType))
def mM_keepOld : zY := (⟨"KeptItemsModel", "keepOld", "()V"⟩, prog_6_method_37_code, 2, (Option.none : Option Jvm.ClassFile.FieldType))
def mM_tokenAt : zY := (⟨"KeptItemsModel", "tokenAt", "(III)I"⟩, prog_6_method_38_code, 5, (Option.some Jvm.ClassFile.FieldType.int))
def mM_compareTokens : zY := (⟨"KeptItemsModel", "compareTokens", "(III)I"⟩, prog_6_method_39_code, 9, (Option.some Jvm.ClassFile.FieldType.int))
def mM_oldOf : zY := (⟨"KeptItemsModel", "oldOf", "(I)I"⟩, prog_6_method_40_code, 5, (Option.some Jvm.ClassFile.FieldType.int))
def mM_giveNumbers : zY := (⟨"KeptItemsModel", "giveNumbers", "()V"⟩, prog_6_method_41_code, 3, (Option.none : Option Jvm.ClassFile.FieldType))
def mM_edit : zY := (⟨"KeptItemsModel", "edit", "(II)I"⟩, prog_6_method_42_code, 5, (Option.some Jvm.ClassFile.FieldType.int))
def mM_length : zY := (⟨"KeptItemsModel", "length", "()I"⟩, prog_6_method_43_code, 1, (Option.some Jvm.ClassFile.FieldType.int))
def mM_at : zY := (⟨"KeptItemsModel", "at", "(I)C"⟩, prog_6_method_44_code, 2, (Option.some Jvm.ClassFile.FieldType.char))
def mM_tokens : zY := (⟨"KeptItemsModel", "tokens", "()I"⟩, prog_6_method_45_code, 1, (Option.some Jvm.ClassFile.FieldType.int))
def mM_token : zY := (⟨"KeptItemsModel", "token", "(I)I"⟩, prog_6_method_46_code, 2, (Option.some Jvm.ClassFile.FieldType.int))
def mM_fault : zY := (⟨"KeptItemsModel", "fault", "()I"⟩, prog_6_method_47_code, 1, (Option.some Jvm.ClassFile.FieldType.int))
def mM_items : zY := (⟨"KeptItemsModel", "items", "()I"⟩, prog_6_method_48_code, 1, (Option.some Jvm.ClassFile.FieldType.int))
def mM_kept : zY := (⟨"KeptItemsModel", "kept", "()I"⟩, prog_6_method_49_code, 1, (Option.some Jvm.ClassFile.FieldType.int))
def mM_isItem : zY := (⟨"KeptItemsModel", "isItem", "(I)Z"⟩, prog_6_method_50_code, 2, (Option.some Jvm.ClassFile.FieldType.boolean))
def mM_number : zY := (⟨"KeptItemsModel", "number", "(I)I"⟩, prog_6_method_51_code, 2, (Option.some Jvm.ClassFile.FieldType.int))
def mM_which : zY := (⟨"KeptItemsModel", "which", "(I)I"⟩, prog_6_method_52_code, 4, (Option.some Jvm.ClassFile.FieldType.int))
def mM_begin : zY := (⟨"KeptItemsModel", "begin", "(I)I"⟩, prog_6_method_53_code, 2, (Option.some Jvm.ClassFile.FieldType.int))
def mM_end : zY := (⟨"KeptItemsModel", "end", "(I)I"⟩, prog_6_method_54_code, 2, (Option.some Jvm.ClassFile.FieldType.int))
def mM_level : zY := (⟨"KeptItemsModel", "level", "(I)I"⟩, prog_6_method_55_code, 2, (Option.some Jvm.ClassFile.FieldType.int))
def mM_value : zY := (⟨"KeptItemsModel", "value", "(I)I"⟩, prog_6_method_56_code, 2, (Option.some Jvm.ClassFile.FieldType.int))
def mR_init : zY := (⟨"KeptItems$Reading", "<init>", "()V"⟩, prog_2_method_1_code, 1, (Option.none : Option Jvm.ClassFile.FieldType))
def mR_readTokens : zY := (⟨"KeptItems$Reading", "readTokens", "()V"⟩, prog_2_method_2_code, 3, (Option.none : Option Jvm.ClassFile.FieldType))
def mR_faultPlace : zY := (⟨"KeptItems$Reading", "faultPlace", "()I"⟩, prog_2_method_3_code, 1, (Option.some Jvm.ClassFile.FieldType.int))
def mR_sees : zY := (⟨"KeptItems$Reading", "sees", "(C)Z"⟩, prog_2_method_4_code, 2, (Option.some Jvm.ClassFile.FieldType.boolean))
def mR_takes : zY := (⟨"KeptItems$Reading", "takes", "(C)Z"⟩, prog_2_method_5_code, 3, (Option.some Jvm.ClassFile.FieldType.boolean))
def mR_needs : zY := (⟨"KeptItems$Reading", "needs", "(C)V"⟩, prog_2_method_6_code, 2, (Option.none : Option Jvm.ClassFile.FieldType))
def mR_opens : zY := (⟨"KeptItems$Reading", "opens", "(CI)Z"⟩, prog_2_method_7_code, 4, (Option.some Jvm.ClassFile.FieldType.boolean))
def mR_readItem : zY := (⟨"KeptItems$Reading", "readItem", "(I)V"⟩, prog_2_method_8_code, 4, (Option.none : Option Jvm.ClassFile.FieldType))
def mR_readBlock : zY := (⟨"KeptItems$Reading", "readBlock", "(I)I"⟩, prog_2_method_9_code, 3, (Option.some Jvm.ClassFile.FieldType.int))
def mR_readSum : zY := (⟨"KeptItems$Reading", "readSum", "(I)I"⟩, prog_2_method_10_code, 5, (Option.some Jvm.ClassFile.FieldType.int))
def mR_readFactor : zY := (⟨"KeptItems$Reading", "readFactor", "(I)I"⟩, prog_2_method_11_code, 4, (Option.some Jvm.ClassFile.FieldType.int))
def mR_readCall : zY := (⟨"KeptItems$Reading", "readCall", "(II)I"⟩, prog_2_method_12_code, 5, (Option.some Jvm.ClassFile.FieldType.int))
def mR_namedValue : zY := (⟨"KeptItems$Reading", "namedValue", "(I)I"⟩, prog_2_method_13_code, 5, (Option.some Jvm.ClassFile.FieldType.int))
def mS_init : zY := (⟨"KeptItems$Source", "<init>", "()V"⟩, prog_3_method_1_code, 1, (Option.none : Option Jvm.ClassFile.FieldType))
def mS_fill : zY := (⟨"KeptItems$Source", "fill", "(LKeptItems$Source;II[CI)V"⟩, prog_3_method_2_code, 7, (Option.none : Option Jvm.ClassFile.FieldType))
def mS_findTokens : zY := (⟨"KeptItems$Source", "findTokens", "()V"⟩, prog_3_method_3_code, 2, (Option.none : Option Jvm.ClassFile.FieldType))
def mS_passBlanks : zY := (⟨"KeptItems$Source", "passBlanks", "(I)I"⟩, prog_3_method_4_code, 5, (Option.some Jvm.ClassFile.FieldType.int))
def mS_tokenFrom : zY := (⟨"KeptItems$Source", "tokenFrom", "(I)I"⟩, prog_3_method_5_code, 3, (Option.some Jvm.ClassFile.FieldType.int))
def mS_markOf : zY := (⟨"KeptItems$Source", "markOf", "(IC)C"⟩, prog_3_method_6_code, 2, (Option.some Jvm.ClassFile.FieldType.char))
def mS_quotedFrom : zY := (⟨"KeptItems$Source", "quotedFrom", "(I)I"⟩, prog_3_method_7_code, 3, (Option.some Jvm.ClassFile.FieldType.int))
def mS_behindRun : zY := (⟨"KeptItems$Source", "behindRun", "(IZ)I"⟩, prog_3_method_8_code, 4, (Option.some Jvm.ClassFile.FieldType.int))
def mS_isLetter : zY := (⟨"KeptItems$Source", "isLetter", "(C)Z"⟩, prog_3_method_9_code, 1, (Option.some Jvm.ClassFile.FieldType.boolean))
def mS_isDigit : zY := (⟨"KeptItems$Source", "isDigit", "(C)Z"⟩, prog_3_method_10_code, 1, (Option.some Jvm.ClassFile.FieldType.boolean))
def mS_packed : zY := (⟨"KeptItems$Source", "packed", "(III)I"⟩, prog_3_method_11_code, 3, (Option.some Jvm.ClassFile.FieldType.int))
def mS_placeOf : zY := (⟨"KeptItems$Source", "placeOf", "(I)I"⟩, prog_3_method_12_code, 2, (Option.some Jvm.ClassFile.FieldType.int))
def mS_lengthOf : zY := (⟨"KeptItems$Source", "lengthOf", "(I)I"⟩, prog_3_method_13_code, 2, (Option.some Jvm.ClassFile.FieldType.int))
def mS_placeBehind : zY := (⟨"KeptItems$Source", "placeBehind", "(I)I"⟩, prog_3_method_14_code, 2, (Option.some Jvm.ClassFile.FieldType.int))
def mS_movedToken : zY := (⟨"KeptItems$Source", "movedToken", "(IIII)I"⟩, prog_3_method_15_code, 5, (Option.some Jvm.ClassFile.FieldType.int))
def mS_areSame : zY := (⟨"KeptItems$Source", "areSame", "(II)Z"⟩, prog_3_method_16_code, 7, (Option.some Jvm.ClassFile.FieldType.boolean))
def mS_digitsValue : zY := (⟨"KeptItems$Source", "digitsValue", "(I)I"⟩, prog_3_method_17_code, 6, (Option.some Jvm.ClassFile.FieldType.int))
def mT_init : zY := (⟨"KeptItems$Tree", "<init>", "()V"⟩, prog_4_method_1_code, 1, (Option.none : Option Jvm.ClassFile.FieldType))
def mT_has : zY := (⟨"KeptItems$Tree", "has", "(I)Z"⟩, prog_4_method_2_code, 2, (Option.some Jvm.ClassFile.FieldType.boolean))
def mT_itemOfTokens : zY := (⟨"KeptItems$Tree", "itemOfTokens", "(II)I"⟩, prog_4_method_3_code, 4, (Option.some Jvm.ClassFile.FieldType.int))
def mT_itemNumbered : zY := (⟨"KeptItems$Tree", "itemNumbered", "(I)I"⟩, prog_4_method_4_code, 3, (Option.some Jvm.ClassFile.FieldType.int))
def mJ_indexOf1 : zY := (⟨"java/lang/String", "indexOf", "(I)I"⟩, prog_13_method_79_code, 2, (Option.some Jvm.ClassFile.FieldType.int))
def mJ_indexOf2 : zY := (⟨"java/lang/String", "indexOf", "(II)I"⟩, prog_13_method_80_code, 3, (Option.some Jvm.ClassFile.FieldType.int))
def mJ_isLatin1 : zY := (⟨"java/lang/String", "isLatin1", "()Z"⟩, prog_13_method_154_code, 1, (Option.some Jvm.ClassFile.FieldType.boolean))
def mJ_length : zY := (⟨"java/lang/String", "length", "()I"⟩, prog_13_method_54_code, 1, (Option.some Jvm.ClassFile.FieldType.int))
def mJ_coder : zY := (⟨"java/lang/String", "coder", "()B"⟩, prog_13_method_152_code, 1, (Option.some Jvm.ClassFile.FieldType.byte))
def mJ_lindexOf : zY := (⟨"java/lang/StringLatin1", "indexOf", "([BIII)I"⟩, prog_14_method_22_code, 4, (Option.some Jvm.ClassFile.FieldType.int))
def mJ_canEncode : zY := (⟨"java/lang/StringLatin1", "canEncode", "(I)Z"⟩, prog_14_method_4_code, 1, (Option.some Jvm.ClassFile.FieldType.boolean))
def mJ_indexOfChar : zY := (⟨"java/lang/StringLatin1", "indexOfChar", "([BIII)I"⟩, prog_14_method_23_code, 6, (Option.some Jvm.ClassFile.FieldType.int))
def mJ_fill : zY := (⟨"java/util/Arrays", "fill", "([II)V"⟩, prog_18_method_103_code, 4, (Option.none : Option Jvm.ClassFile.FieldType))
def mW_law : zY := (⟨"KeptItemsLaw", "law", "([I)Z"⟩, code, 7, some .boolean)
def mW_edit : zY := (⟨"KeptItemsLaw", "edit", "(LKeptItems;II[J)I"⟩, method_3_code, 5, some .int)
def mW_token : zY := (⟨"KeptItemsLaw", "token", "(LKeptItems;I[J)I"⟩, method_4_code, 4, some .int)
def mW_begin : zY := (⟨"KeptItemsLaw", "begin", "(LKeptItems;I[J)I"⟩, method_5_code, 4, some .int)
def mW_end : zY := (⟨"KeptItemsLaw", "end", "(LKeptItems;I[J)I"⟩, method_6_code, 4, some .int)
def mW_value : zY := (⟨"KeptItemsLaw", "value", "(LKeptItems;I[J)I"⟩, method_7_code, 4, some .int)
def zF_K : u_T := fun k => match k with
  | 0 => ("KeptItems", "row", "[C", true)
  | 1 => ("KeptItems", "rowSize", "I", false)
  | 2 => ("KeptItems", "now", "LKeptItems$Reading;", false)
  | 3 => ("KeptItems", "before", "LKeptItems$Reading;", false)
  | 4 => ("KeptItems", "origins", "[I", true)
  | 5 => ("KeptItems", "keptItems", "I", false)
  | _ => ("KeptItems", "numbersGiven", "I", false)
def zt_K : Nat → FieldType := fun k => match k with
  | 0 => .array .char
  | 1 => .int
  | 2 => .object "KeptItems$Reading"
  | 3 => .object "KeptItems$Reading"
  | 4 => .array .int
  | 5 => .int
  | _ => .int
theorem zt_K_ok : ∀ k, k < 7 → parseFieldDescriptor (zF_K k).2.2.1 = some (zt_K k) := by decide +kernel
theorem zn_K_ok : ∀ a, a < 7 → ∀ b, b < 7 → a ≠ b → (zF_K a).2.1 ≠ (zF_K b).2.1 := by decide +kernel
def zF_R : u_T := fun k => match k with
  | 0 => ("KeptItems$Reading", "source", "LKeptItems$Source;", true)
  | 1 => ("KeptItems$Reading", "tree", "LKeptItems$Tree;", true)
  | 2 => ("KeptItems$Reading", "next", "I", false)
  | _ => ("KeptItems$Reading", "stopped", "Z", false)
def zt_R : Nat → FieldType := fun k => match k with
  | 0 => .object "KeptItems$Source"
  | 1 => .object "KeptItems$Tree"
  | 2 => .int
  | _ => .boolean
theorem zt_R_ok : ∀ k, k < 4 → parseFieldDescriptor (zF_R k).2.2.1 = some (zt_R k) := by decide +kernel
theorem zn_R_ok : ∀ a, a < 4 → ∀ b, b < 4 → a ≠ b → (zF_R a).2.1 ≠ (zF_R b).2.1 := by decide +kernel
def zF_S : u_T := fun k => match k with
  | 0 => ("KeptItems$Source", "chars", "[C", true)
  | 1 => ("KeptItems$Source", "size", "I", false)
  | 2 => ("KeptItems$Source", "found", "[I", true)
  | 3 => ("KeptItems$Source", "marks", "[C", true)
  | _ => ("KeptItems$Source", "count", "I", false)
def zt_S : Nat → FieldType := fun k => match k with
  | 0 => .array .char
  | 1 => .int
  | 2 => .array .int
  | 3 => .array .char
  | _ => .int
theorem zt_S_ok : ∀ k, k < 5 → parseFieldDescriptor (zF_S k).2.2.1 = some (zt_S k) := by decide +kernel
theorem zn_S_ok : ∀ a, a < 5 → ∀ b, b < 5 → a ≠ b → (zF_S a).2.1 ≠ (zF_S b).2.1 := by decide +kernel
def zF_T : u_T := fun k => match k with
  | 0 => ("KeptItems$Tree", "firsts", "[I", true)
  | 1 => ("KeptItems$Tree", "lasts", "[I", true)
  | 2 => ("KeptItems$Tree", "levels", "[I", true)
  | 3 => ("KeptItems$Tree", "values", "[I", true)
  | 4 => ("KeptItems$Tree", "numbers", "[I", true)
  | _ => ("KeptItems$Tree", "count", "I", false)
def zt_T : Nat → FieldType := fun k => match k with
  | 0 => .array .int
  | 1 => .array .int
  | 2 => .array .int
  | 3 => .array .int
  | 4 => .array .int
  | _ => .int
theorem zt_T_ok : ∀ k, k < 6 → parseFieldDescriptor (zF_T k).2.2.1 = some (zt_T k) := by decide +kernel
theorem zn_T_ok : ∀ a, a < 6 → ∀ b, b < 6 → a ≠ b → (zF_T a).2.1 ≠ (zF_T b).2.1 := by decide +kernel
def zF_M : u_T := fun k => match k with
  | 0 => ("KeptItemsModel", "thrown", "I", false)
  | 1 => ("KeptItemsModel", "size", "I", false)
  | 2 => ("KeptItemsModel", "text", "[C", false)
  | 3 => ("KeptItemsModel", "typed", "I", false)
  | 4 => ("KeptItemsModel", "row", "[C", false)
  | 5 => ("KeptItemsModel", "tokens", "I", false)
  | 6 => ("KeptItemsModel", "place", "[I", false)
  | 7 => ("KeptItemsModel", "many", "[I", false)
  | 8 => ("KeptItemsModel", "kind", "[I", false)
  | 9 => ("KeptItemsModel", "oldTokens", "I", false)
  | 10 => ("KeptItemsModel", "oldPlace", "[I", false)
  | 11 => ("KeptItemsModel", "oldMany", "[I", false)
  | 12 => ("KeptItemsModel", "oldKind", "[I", false)
  | 13 => ("KeptItemsModel", "image", "[I", false)
  | 14 => ("KeptItemsModel", "items", "I", false)
  | 15 => ("KeptItemsModel", "begun", "I", false)
  | 16 => ("KeptItemsModel", "first", "[I", false)
  | 17 => ("KeptItemsModel", "last", "[I", false)
  | 18 => ("KeptItemsModel", "levels", "[I", false)
  | 19 => ("KeptItemsModel", "braced", "[Z", false)
  | 20 => ("KeptItemsModel", "defines", "[Z", false)
  | 21 => ("KeptItemsModel", "numbers", "[I", false)
  | 22 => ("KeptItemsModel", "values", "[I", false)
  | 23 => ("KeptItemsModel", "oldItems", "I", false)
  | 24 => ("KeptItemsModel", "oldFirst", "[I", false)
  | 25 => ("KeptItemsModel", "oldLast", "[I", false)
  | 26 => ("KeptItemsModel", "oldNumbers", "[I", false)
  | 27 => ("KeptItemsModel", "fresh", "I", false)
  | 28 => ("KeptItemsModel", "stayed", "I", false)
  | 29 => ("KeptItemsModel", "fault", "I", false)
  | 30 => ("KeptItemsModel", "open", "I", false)
  | 31 => ("KeptItemsModel", "opened", "[I", false)
  | 32 => ("KeptItemsModel", "state", "I", false)
  | 33 => ("KeptItemsModel", "blocks", "I", false)
  | 34 => ("KeptItemsModel", "block", "[I", false)
  | 35 => ("KeptItemsModel", "item", "I", false)
  | 36 => ("KeptItemsModel", "deep", "I", false)
  | 37 => ("KeptItemsModel", "sum", "[I", false)
  | 38 => ("KeptItemsModel", "sign", "[I", false)
  | 39 => ("KeptItemsModel", "term", "[I", false)
  | 40 => ("KeptItemsModel", "minus", "[I", false)
  | 41 => ("KeptItemsModel", "list", "[I", false)
  | _ => ("KeptItemsModel", "isList", "[Z", false)
def zt_M : Nat → FieldType := fun k => match k with
  | 0 => .int
  | 1 => .int
  | 2 => .array .char
  | 3 => .int
  | 4 => .array .char
  | 5 => .int
  | 6 => .array .int
  | 7 => .array .int
  | 8 => .array .int
  | 9 => .int
  | 10 => .array .int
  | 11 => .array .int
  | 12 => .array .int
  | 13 => .array .int
  | 14 => .int
  | 15 => .int
  | 16 => .array .int
  | 17 => .array .int
  | 18 => .array .int
  | 19 => .array .boolean
  | 20 => .array .boolean
  | 21 => .array .int
  | 22 => .array .int
  | 23 => .int
  | 24 => .array .int
  | 25 => .array .int
  | 26 => .array .int
  | 27 => .int
  | 28 => .int
  | 29 => .int
  | 30 => .int
  | 31 => .array .int
  | 32 => .int
  | 33 => .int
  | 34 => .array .int
  | 35 => .int
  | 36 => .int
  | 37 => .array .int
  | 38 => .array .int
  | 39 => .array .int
  | 40 => .array .int
  | 41 => .array .int
  | _ => .array .boolean
theorem zt_M_ok : ∀ k, k < 43 → parseFieldDescriptor (zF_M k).2.2.1 = some (zt_M k) := by decide +kernel
theorem zn_M_ok : ∀ a, a < 43 → ∀ b, b < 43 → a ≠ b → (zF_M a).2.1 ≠ (zF_M b).2.1 := by decide +kernel
def zcl : List vw_C := [("KeptItems", zF_K, 7), ("KeptItems$Reading", zF_R, 4), ("KeptItems$Source", zF_S, 5), ("KeptItems$Tree", zF_T, 6), ("KeptItemsModel", zF_M, 43)]
def zrf : Nat → List Bool := fun ci => match ci with
  | 0 => [true, false, true, true, true, false, false]
  | 1 => [true, true, false, false]
  | 2 => [true, false, true, true, false]
  | 3 => [true, true, true, true, true, false]
  | 4 => [false, false, true, false, true, false, true, true, true, false, true, true, true, true, false, false, true, true, true, true, true, true, true, false, true, true, true, false, false, false, false, true, false, false, true, false, false, true, true, true, true, true, true]
  | _ => []
def zsh : List ((Nat × Nat) ⊕ Nat) := [.inr 0, .inl (1, 40), .inr 1, .inr 2, .inr 3, .inl (1, 160), .inl (0, 160), .inl (1, 160), .inl (0, 160), .inl (0, 160), .inl (0, 160), .inl (0, 160), .inl (0, 160), .inr 1, .inr 2, .inr 3, .inl (1, 160), .inl (0, 160), .inl (1, 160), .inl (0, 160), .inl (0, 160), .inl (0, 160), .inl (0, 160), .inl (0, 160), .inl (0, 160), .inr 4, .inl (1, 160), .inl (1, 40), .inl (0, 160), .inl (0, 160), .inl (0, 160), .inl (0, 160), .inl (0, 160), .inl (0, 160), .inl (0, 160), .inl (0, 160), .inl (0, 160), .inl (0, 160), .inl (2, 160), .inl (2, 160), .inl (0, 160), .inl (0, 160), .inl (0, 160), .inl (0, 160), .inl (0, 160), .inl (0, 13), .inl (0, 13), .inl (0, 16), .inl (0, 16), .inl (0, 16), .inl (0, 16), .inl (0, 16), .inl (2, 16), .inl (3, 1)]
/-- where the references point; n the reading now, b the one before -/
def zP0 (n b : Nat) : Nat → Nat → Nat := fun o k => match o, k with
  | 0, 0 => 1
  | 0, 2 => n
  | 0, 3 => b
  | 0, 4 => 24
  | 2, 0 => 3
  | 2, 1 => 4
  | 3, 0 => 5
  | 3, 2 => 6
  | 3, 3 => 7
  | 4, 0 => 8
  | 4, 1 => 9
  | 4, 2 => 10
  | 4, 3 => 11
  | 4, 4 => 12
  | 13, 0 => 14
  | 13, 1 => 15
  | 14, 0 => 16
  | 14, 2 => 17
  | 14, 3 => 18
  | 15, 0 => 19
  | 15, 1 => 20
  | 15, 2 => 21
  | 15, 3 => 22
  | 15, 4 => 23
  | 25, 2 => 26
  | 25, 4 => 27
  | 25, 6 => 28
  | 25, 7 => 29
  | 25, 8 => 30
  | 25, 10 => 31
  | 25, 11 => 32
  | 25, 12 => 33
  | 25, 13 => 34
  | 25, 16 => 35
  | 25, 17 => 36
  | 25, 18 => 37
  | 25, 19 => 38
  | 25, 20 => 39
  | 25, 21 => 40
  | 25, 22 => 41
  | 25, 24 => 42
  | 25, 25 => 43
  | 25, 26 => 44
  | 25, 31 => 45
  | 25, 34 => 46
  | 25, 37 => 47
  | 25, 38 => 48
  | 25, 39 => 49
  | 25, 40 => 50
  | 25, 41 => 51
  | 25, 42 => 52
  | _, _ => 0
def zT : List Jvm.Cond := lw_tbl.filter goodWord
theorem zT_good (w : Jvm.Cond) (h : w ∈ zT) : (w.onTables && w.keeps) = true ∨ ∃ ty, w = .arrayClass ty := good_of_word (List.mem_filter.mp h).2
theorem zin {w : Jvm.Cond} (i : Nat) (h : tables_1[i]? = some w) (g : goodWord w = true) : w ∈ zT := List.mem_filter.mpr ⟨List.mem_append_right _ (List.mem_of_getElem? h), g⟩
theorem zinS {q : MethodName × Nat} (i : Nat) (h : lw_privs[i]? = some q) : Jvm.Cond.selects q.1.cls q.1 q.1 ∈ zT := List.mem_filter.mpr ⟨List.mem_append_left _ (List.mem_map.mpr ⟨q, List.mem_of_getElem? h, rfl⟩), rfl⟩
theorem zy_K_0 : u_lay "KeptItems" zF_K 0 ∈ zT := zin 122 (by decide +kernel) (by decide +kernel)
theorem zy_K_1 : u_lay "KeptItems" zF_K 1 ∈ zT := zin 124 (by decide +kernel) (by decide +kernel)
theorem zy_K_2 : u_lay "KeptItems" zF_K 2 ∈ zT := zin 126 (by decide +kernel) (by decide +kernel)
theorem zy_K_3 : u_lay "KeptItems" zF_K 3 ∈ zT := zin 128 (by decide +kernel) (by decide +kernel)
theorem zy_K_4 : u_lay "KeptItems" zF_K 4 ∈ zT := zin 130 (by decide +kernel) (by decide +kernel)
theorem zy_K_5 : u_lay "KeptItems" zF_K 5 ∈ zT := zin 132 (by decide +kernel) (by decide +kernel)
theorem zy_K_6 : u_lay "KeptItems" zF_K 6 ∈ zT := zin 134 (by decide +kernel) (by decide +kernel)
theorem zy_K : ∀ w ∈ u_ws "KeptItems" zF_K 7, w ∈ zT := by
  intro w hw
  obtain ⟨k, hk, rfl⟩ := List.mem_map.mp hw
  have hk := List.mem_range.mp hk
  match k, hk with
  | 0, _ => exact zy_K_0
  | 1, _ => exact zy_K_1
  | 2, _ => exact zy_K_2
  | 3, _ => exact zy_K_3
  | 4, _ => exact zy_K_4
  | 5, _ => exact zy_K_5
  | 6, _ => exact zy_K_6
  | k + 7, hk => exact absurd hk (by omega)
theorem zy_R_0 : u_lay "KeptItems$Reading" zF_R 0 ∈ zT := zin 106 (by decide +kernel) (by decide +kernel)
theorem zy_R_1 : u_lay "KeptItems$Reading" zF_R 1 ∈ zT := zin 108 (by decide +kernel) (by decide +kernel)
theorem zy_R_2 : u_lay "KeptItems$Reading" zF_R 2 ∈ zT := zin 110 (by decide +kernel) (by decide +kernel)
theorem zy_R_3 : u_lay "KeptItems$Reading" zF_R 3 ∈ zT := zin 112 (by decide +kernel) (by decide +kernel)
theorem zy_R : ∀ w ∈ u_ws "KeptItems$Reading" zF_R 4, w ∈ zT := by
  intro w hw
  obtain ⟨k, hk, rfl⟩ := List.mem_map.mp hw
  have hk := List.mem_range.mp hk
  match k, hk with
  | 0, _ => exact zy_R_0
  | 1, _ => exact zy_R_1
  | 2, _ => exact zy_R_2
  | 3, _ => exact zy_R_3
  | k + 4, hk => exact absurd hk (by omega)
theorem zy_S_0 : u_lay "KeptItems$Source" zF_S 0 ∈ zT := zin 51 (by decide +kernel) (by decide +kernel)
theorem zy_S_1 : u_lay "KeptItems$Source" zF_S 1 ∈ zT := zin 53 (by decide +kernel) (by decide +kernel)
theorem zy_S_2 : u_lay "KeptItems$Source" zF_S 2 ∈ zT := zin 55 (by decide +kernel) (by decide +kernel)
theorem zy_S_3 : u_lay "KeptItems$Source" zF_S 3 ∈ zT := zin 57 (by decide +kernel) (by decide +kernel)
theorem zy_S_4 : u_lay "KeptItems$Source" zF_S 4 ∈ zT := zin 59 (by decide +kernel) (by decide +kernel)
theorem zy_S : ∀ w ∈ u_ws "KeptItems$Source" zF_S 5, w ∈ zT := by
  intro w hw
  obtain ⟨k, hk, rfl⟩ := List.mem_map.mp hw
  have hk := List.mem_range.mp hk
  match k, hk with
  | 0, _ => exact zy_S_0
  | 1, _ => exact zy_S_1
  | 2, _ => exact zy_S_2
  | 3, _ => exact zy_S_3
  | 4, _ => exact zy_S_4
  | k + 5, hk => exact absurd hk (by omega)
theorem zy_T_0 : u_lay "KeptItems$Tree" zF_T 0 ∈ zT := zin 87 (by decide +kernel) (by decide +kernel)
theorem zy_T_1 : u_lay "KeptItems$Tree" zF_T 1 ∈ zT := zin 89 (by decide +kernel) (by decide +kernel)
theorem zy_T_2 : u_lay "KeptItems$Tree" zF_T 2 ∈ zT := zin 91 (by decide +kernel) (by decide +kernel)
theorem zy_T_3 : u_lay "KeptItems$Tree" zF_T 3 ∈ zT := zin 93 (by decide +kernel) (by decide +kernel)
theorem zy_T_4 : u_lay "KeptItems$Tree" zF_T 4 ∈ zT := zin 95 (by decide +kernel) (by decide +kernel)
theorem zy_T_5 : u_lay "KeptItems$Tree" zF_T 5 ∈ zT := zin 97 (by decide +kernel) (by decide +kernel)
theorem zy_T : ∀ w ∈ u_ws "KeptItems$Tree" zF_T 6, w ∈ zT := by
  intro w hw
  obtain ⟨k, hk, rfl⟩ := List.mem_map.mp hw
  have hk := List.mem_range.mp hk
  match k, hk with
  | 0, _ => exact zy_T_0
  | 1, _ => exact zy_T_1
  | 2, _ => exact zy_T_2
  | 3, _ => exact zy_T_3
  | 4, _ => exact zy_T_4
  | 5, _ => exact zy_T_5
  | k + 6, hk => exact absurd hk (by omega)
theorem zy_M_0 : u_lay "KeptItemsModel" zF_M 0 ∈ zT := zin 574 (by decide +kernel) (by decide +kernel)
theorem zy_M_1 : u_lay "KeptItemsModel" zF_M 1 ∈ zT := zin 576 (by decide +kernel) (by decide +kernel)
theorem zy_M_2 : u_lay "KeptItemsModel" zF_M 2 ∈ zT := zin 578 (by decide +kernel) (by decide +kernel)
theorem zy_M_3 : u_lay "KeptItemsModel" zF_M 3 ∈ zT := zin 580 (by decide +kernel) (by decide +kernel)
theorem zy_M_4 : u_lay "KeptItemsModel" zF_M 4 ∈ zT := zin 582 (by decide +kernel) (by decide +kernel)
theorem zy_M_5 : u_lay "KeptItemsModel" zF_M 5 ∈ zT := zin 584 (by decide +kernel) (by decide +kernel)
theorem zy_M_6 : u_lay "KeptItemsModel" zF_M 6 ∈ zT := zin 586 (by decide +kernel) (by decide +kernel)
theorem zy_M_7 : u_lay "KeptItemsModel" zF_M 7 ∈ zT := zin 588 (by decide +kernel) (by decide +kernel)
theorem zy_M_8 : u_lay "KeptItemsModel" zF_M 8 ∈ zT := zin 590 (by decide +kernel) (by decide +kernel)
theorem zy_M_9 : u_lay "KeptItemsModel" zF_M 9 ∈ zT := zin 592 (by decide +kernel) (by decide +kernel)
theorem zy_M_10 : u_lay "KeptItemsModel" zF_M 10 ∈ zT := zin 594 (by decide +kernel) (by decide +kernel)
theorem zy_M_11 : u_lay "KeptItemsModel" zF_M 11 ∈ zT := zin 596 (by decide +kernel) (by decide +kernel)
theorem zy_M_12 : u_lay "KeptItemsModel" zF_M 12 ∈ zT := zin 598 (by decide +kernel) (by decide +kernel)
theorem zy_M_13 : u_lay "KeptItemsModel" zF_M 13 ∈ zT := zin 600 (by decide +kernel) (by decide +kernel)
theorem zy_M_14 : u_lay "KeptItemsModel" zF_M 14 ∈ zT := zin 602 (by decide +kernel) (by decide +kernel)
theorem zy_M_15 : u_lay "KeptItemsModel" zF_M 15 ∈ zT := zin 604 (by decide +kernel) (by decide +kernel)
theorem zy_M_16 : u_lay "KeptItemsModel" zF_M 16 ∈ zT := zin 606 (by decide +kernel) (by decide +kernel)
theorem zy_M_17 : u_lay "KeptItemsModel" zF_M 17 ∈ zT := zin 608 (by decide +kernel) (by decide +kernel)
theorem zy_M_18 : u_lay "KeptItemsModel" zF_M 18 ∈ zT := zin 610 (by decide +kernel) (by decide +kernel)
theorem zy_M_19 : u_lay "KeptItemsModel" zF_M 19 ∈ zT := zin 612 (by decide +kernel) (by decide +kernel)
theorem zy_M_20 : u_lay "KeptItemsModel" zF_M 20 ∈ zT := zin 614 (by decide +kernel) (by decide +kernel)
theorem zy_M_21 : u_lay "KeptItemsModel" zF_M 21 ∈ zT := zin 616 (by decide +kernel) (by decide +kernel)
theorem zy_M_22 : u_lay "KeptItemsModel" zF_M 22 ∈ zT := zin 618 (by decide +kernel) (by decide +kernel)
theorem zy_M_23 : u_lay "KeptItemsModel" zF_M 23 ∈ zT := zin 620 (by decide +kernel) (by decide +kernel)
theorem zy_M_24 : u_lay "KeptItemsModel" zF_M 24 ∈ zT := zin 622 (by decide +kernel) (by decide +kernel)
theorem zy_M_25 : u_lay "KeptItemsModel" zF_M 25 ∈ zT := zin 624 (by decide +kernel) (by decide +kernel)
theorem zy_M_26 : u_lay "KeptItemsModel" zF_M 26 ∈ zT := zin 626 (by decide +kernel) (by decide +kernel)
theorem zy_M_27 : u_lay "KeptItemsModel" zF_M 27 ∈ zT := zin 628 (by decide +kernel) (by decide +kernel)
theorem zy_M_28 : u_lay "KeptItemsModel" zF_M 28 ∈ zT := zin 630 (by decide +kernel) (by decide +kernel)
theorem zy_M_29 : u_lay "KeptItemsModel" zF_M 29 ∈ zT := zin 632 (by decide +kernel) (by decide +kernel)
theorem zy_M_30 : u_lay "KeptItemsModel" zF_M 30 ∈ zT := zin 634 (by decide +kernel) (by decide +kernel)
theorem zy_M_31 : u_lay "KeptItemsModel" zF_M 31 ∈ zT := zin 636 (by decide +kernel) (by decide +kernel)
theorem zy_M_32 : u_lay "KeptItemsModel" zF_M 32 ∈ zT := zin 638 (by decide +kernel) (by decide +kernel)
theorem zy_M_33 : u_lay "KeptItemsModel" zF_M 33 ∈ zT := zin 640 (by decide +kernel) (by decide +kernel)
theorem zy_M_34 : u_lay "KeptItemsModel" zF_M 34 ∈ zT := zin 642 (by decide +kernel) (by decide +kernel)
theorem zy_M_35 : u_lay "KeptItemsModel" zF_M 35 ∈ zT := zin 644 (by decide +kernel) (by decide +kernel)
theorem zy_M_36 : u_lay "KeptItemsModel" zF_M 36 ∈ zT := zin 646 (by decide +kernel) (by decide +kernel)
theorem zy_M_37 : u_lay "KeptItemsModel" zF_M 37 ∈ zT := zin 648 (by decide +kernel) (by decide +kernel)
theorem zy_M_38 : u_lay "KeptItemsModel" zF_M 38 ∈ zT := zin 650 (by decide +kernel) (by decide +kernel)
theorem zy_M_39 : u_lay "KeptItemsModel" zF_M 39 ∈ zT := zin 652 (by decide +kernel) (by decide +kernel)
theorem zy_M_40 : u_lay "KeptItemsModel" zF_M 40 ∈ zT := zin 654 (by decide +kernel) (by decide +kernel)
theorem zy_M_41 : u_lay "KeptItemsModel" zF_M 41 ∈ zT := zin 656 (by decide +kernel) (by decide +kernel)
theorem zy_M_42 : u_lay "KeptItemsModel" zF_M 42 ∈ zT := zin 658 (by decide +kernel) (by decide +kernel)
theorem zy_M : ∀ w ∈ u_ws "KeptItemsModel" zF_M 43, w ∈ zT := by
  intro w hw
  obtain ⟨k, hk, rfl⟩ := List.mem_map.mp hw
  have hk := List.mem_range.mp hk
  match k, hk with
  | 0, _ => exact zy_M_0
  | 1, _ => exact zy_M_1
  | 2, _ => exact zy_M_2
  | 3, _ => exact zy_M_3
  | 4, _ => exact zy_M_4
  | 5, _ => exact zy_M_5
  | 6, _ => exact zy_M_6
  | 7, _ => exact zy_M_7
  | 8, _ => exact zy_M_8
  | 9, _ => exact zy_M_9
  | 10, _ => exact zy_M_10
  | 11, _ => exact zy_M_11
  | 12, _ => exact zy_M_12
  | 13, _ => exact zy_M_13
  | 14, _ => exact zy_M_14
  | 15, _ => exact zy_M_15
  | 16, _ => exact zy_M_16
  | 17, _ => exact zy_M_17
  | 18, _ => exact zy_M_18
  | 19, _ => exact zy_M_19
  | 20, _ => exact zy_M_20
  | 21, _ => exact zy_M_21
  | 22, _ => exact zy_M_22
  | 23, _ => exact zy_M_23
  | 24, _ => exact zy_M_24
  | 25, _ => exact zy_M_25
  | 26, _ => exact zy_M_26
  | 27, _ => exact zy_M_27
  | 28, _ => exact zy_M_28
  | 29, _ => exact zy_M_29
  | 30, _ => exact zy_M_30
  | 31, _ => exact zy_M_31
  | 32, _ => exact zy_M_32
  | 33, _ => exact zy_M_33
  | 34, _ => exact zy_M_34
  | 35, _ => exact zy_M_35
  | 36, _ => exact zy_M_36
  | 37, _ => exact zy_M_37
  | 38, _ => exact zy_M_38
  | 39, _ => exact zy_M_39
  | 40, _ => exact zy_M_40
  | 41, _ => exact zy_M_41
  | 42, _ => exact zy_M_42
  | k + 43, hk => exact absurd hk (by omega)
theorem zcl_in {ci : Nat} {C : String} {T : u_T} {N : Nat} (h : zcl[ci]? = some (C, T, N)) : ∀ w ∈ u_ws C T N, w ∈ zT := by
  match ci, h with
  | 0, h => cases h; exact zy_K
  | 1, h => cases h; exact zy_R
  | 2, h => cases h; exact zy_S
  | 3, h => cases h; exact zy_T
  | 4, h => cases h; exact zy_M
  | k + 5, h => simp [zcl] at h
theorem zcl_ty {ci : Nat} {C : String} {T : u_T} {N : Nat} (h : zcl[ci]? = some (C, T, N)) : ∃ ty0 : Nat → FieldType, (∀ k, k < N → parseFieldDescriptor (T k).2.2.1 = some (ty0 k)) ∧ ∀ a, a < N → ∀ b, b < N → a ≠ b → (T a).2.1 ≠ (T b).2.1 := by
  match ci, h with
  | 0, h => cases h; exact ⟨zt_K, zt_K_ok, zn_K_ok⟩
  | 1, h => cases h; exact ⟨zt_R, zt_R_ok, zn_R_ok⟩
  | 2, h => cases h; exact ⟨zt_S, zt_S_ok, zn_S_ok⟩
  | 3, h => cases h; exact ⟨zt_T, zt_T_ok, zn_T_ok⟩
  | 4, h => cases h; exact ⟨zt_M, zt_M_ok, zn_M_ok⟩
  | k + 5, h => simp [zcl] at h
theorem zsh_all : zsh.all (fun q => match q with | .inl (t, n) => decide (t < 4) && decide (n < 200) | .inr _ => true) = true := by decide
theorem zsh_t {o t n : Nat} (h : zsh[o]? = some (.inl (t, n))) : t < 4 := by
  have := List.all_eq_true.mp zsh_all _ (List.mem_of_getElem? h)
  simp at this; exact this.1
theorem zsh_len {o t n : Nat} (h : zsh[o]? = some (.inl (t, n))) : n < 200 := by
  have := List.all_eq_true.mp zsh_all _ (List.mem_of_getElem? h)
  simp at this; exact this.2
theorem zsh_l3 : (zsh.take 53).all (fun q => match q with | .inl (t, _) => decide (t ≠ 3) | .inr _ => true) = true := by decide
theorem zsh_l3q {q n : Nat} (h : zsh[q]? = some (.inl (3, n))) : q = 53 := by
  have hq := (List.getElem?_eq_some_iff.mp h).1
  have hl : zsh.length = 54 := by decide
  by_cases hlt : q < 53
  · have h2 : (zsh.take 53)[q]? = some (.inl (3, n)) := by rw [List.getElem?_take, if_pos hlt, h]
    have := List.all_eq_true.mp zsh_l3 _ (List.mem_of_getElem? h2)
    simp at this
  · omega
theorem zsh_l {q n o : Nat} (h : zsh[q]? = some (.inl (3, n))) (h2 : zsh[o]? = some (.inl (3, 1))) : q = o := (zsh_l3q h).trans (zsh_l3q h2).symm
theorem zcp_nat : Jvm.Cond.native arraycopyName ∈ zT := zin 289 (by decide +kernel) (by decide +kernel)
theorem zcp_st : Jvm.Cond.static arraycopyName ∈ zT := zin 288 (by decide +kernel) (by decide +kernel)
theorem zcp_ini : Jvm.Cond.initialized "java/lang/System" ∈ zT := zin 11 (by decide +kernel) (by decide +kernel)
theorem zmx_st : Jvm.Cond.static Lib.Math.max.name ∈ zT := zin 349 (by decide +kernel) (by decide +kernel)
theorem zmn_st : Jvm.Cond.static Lib.Math.min.name ∈ zT := zin 352 (by decide +kernel) (by decide +kernel)
theorem zmx_ini : Jvm.Cond.initialized "java/lang/Math" ∈ zT := zin 14 (by decide +kernel) (by decide +kernel)
theorem zmx_co : Jvm.Cond.code Lib.Math.max.name Lib.Math.max.code 2 (some .int) ∈ zT := zin 350 (by decide +kernel) (by decide +kernel)
theorem zmn_co : Jvm.Cond.code Lib.Math.min.name Lib.Math.min.code 2 (some .int) ∈ zT := zin 353 (by decide +kernel) (by decide +kernel)
theorem zcp_words : nativeFrameWords "java/lang/System" "arraycopy" 5 + 11 + 8 ≤ 64 := by decide +kernel
def zso : String := "KeptItems$Source"
def zsi : Nat := 67
def zstx : String := "=;+-*(){},"
def zsn : Nat := 10
def zsb : List Int32 := [61, 59, 43, 45, 42, 40, 41, 123, 125, 44]
end
section
/- A small machine over places: ints in (place, slot), references in (place, slot), one long. -/
abbrev zM : Type := (Nat → Nat → Int32) × (Nat → Nat → Nat) × Int64
abbrev zQ : Type := Nat → (Nat → Value) → List Value → zM → Prop
abbrev zX : Type := Nat → zY → Nat → (Nat → Value) → List Value → zM → zQ → Prop
def zu (L : Nat → Value) (k : Nat) (v : Value) : Nat → Value := fun i => bif Nat.beq i k then v else L i
def zI (M : zM) (o k : Nat) (x : Int32) : zM := (fun a => if a = o then upd (M.1 o) k x else M.1 a, M.2.1, M.2.2)
def zP (M : zM) (o k p : Nat) : zM := (M.1, (fun a i => if a = o ∧ i = k then p else M.2.1 a i), M.2.2)
def zJ (M : zM) (x : Int64) : zM := (M.1, M.2.1, x)
def zCp (M : zM) (o o' sp dp n : Nat) : zM := (fun a => if a = o' then va_cpy (M.1 o) (M.1 o') sp dp n else M.1 a, M.2.1, M.2.2)
def zconst : Instr → Option (Int32 × Nat)
  | .iconst n => some (Int32.ofInt n, 1)
  | .bipush n => some ((Int8.ofInt n).toInt32, 2)
  | .sipush n => some ((Int16.ofInt n).toInt32, 3)
  | _ => none
def zil : Instr → Option (Nat × Nat)
  | .iload_n k => some (k.val, 1)
  | .iload i => some (i, 2)
  | _ => none
def zal : Instr → Option (Nat × Nat)
  | .aload_n k => some (k.val, 1)
  | .aload i => some (i, 2)
  | _ => none
def zis : Instr → Option (Nat × Nat)
  | .istore_n k => some (k.val, 1)
  | .istore i => some (i, 2)
  | _ => none
def zas : Instr → Option (Nat × Nat)
  | .astore_n k => some (k.val, 1)
  | .astore i => some (i, 2)
  | _ => none
def zbin : Instr → Int32 → Int32 → Option Int32
  | .iadd, x, y => some (x + y)
  | .isub, x, y => some (x - y)
  | .imul, x, y => some (x * y)
  | .iand, x, y => some (x &&& y)
  | .ishr, x, y => some (x >>> (y &&& 31))
  | .idiv, x, y => if y = 0 then none else some (x / y)
  | .irem, x, y => if y = 0 then none else some (x - x / y * y)
  | _, _, _ => none
def zun : Instr → Int32 → Option Int32
  | .ineg, x => some (-x)
  | .i2c, x => some (x.toUInt32 % 65536).toInt32
  | .i2b, x => some x.toInt8.toInt32
  | _, _ => none
def zstk : Instr → List Value → Option (List Value)
  | .dup, a :: r => if a.category = 1 then some (a :: a :: r) else none
  | .pop, a :: r => if a.category = 1 then some r else none
  | .dup_x1, a :: b :: r => if a.category = 1 ∧ b.category = 1 then some (a :: b :: a :: r) else none
  | .dup_x2, a :: b :: e :: r => if a.category = 1 ∧ b.category = 1 ∧ e.category = 1 then some (a :: b :: e :: a :: r) else none
  | .dup2, a :: b :: r => if a.category = 1 ∧ b.category = 1 then some (a :: b :: a :: b :: r) else none
  | _, _ => none
def zcond : Jvm.ClassFile.Cond → Int32 → Int32 → Prop
  | .eq, x, y => x = y
  | .ne, x, y => ¬ x = y
  | .lt, x, y => x < y
  | .ge, x, y => y ≤ x
  | .gt, x, y => y < x
  | .le, x, y => x ≤ y
def zld : Instr → Option Nat
  | .iaload => some 0
  | .caload => some 1
  | .baload => some 2
  | _ => none
def zst : Instr → Option Nat
  | .iastore => some 0
  | .castore => some 1
  | .bastore => some 2
  | _ => none
def ztt : Nat → FieldType
  | 0 => .int
  | 1 => .char
  | 2 => .boolean
  | _ => .long
def znr (t : Nat) (x : Int32) : Int32 := if t = 0 then x else vp_nar (ztt t) x
/-- a field's link: class number, slot, is it a reference -/
def zFld (own : String) (idx ci k : Nat) (r : Bool) : Prop := ∃ (C : String) (T : u_T) (N : Nat), zcl[ci]? = some (C, T, N) ∧ k < N ∧ Jvm.Cond.fieldLink own idx (T k).1 (T k).2.1 (T k).2.2.1 ∈ zT ∧ (zrf ci)[k]? = some r
/-- a field that may be written: its type -/
def zFlw (ci k : Nat) (ty : FieldType) : Prop := ∃ (C : String) (T : u_T) (N : Nat), zcl[ci]? = some (C, T, N) ∧ (T k).2.2.2 = false ∧ parseFieldDescriptor (T k).2.2.1 = some ty
/-- a call's link -/
def zLk (own : String) (idx : Nat) (y : zY) (n : Nat) : Prop := (Jvm.Cond.methodLink own idx y.1 ∈ zT ∧ Jvm.Cond.initialized y.1.cls ∈ zT ∧ Jvm.Cond.code y.1 y.2.1 y.2.2.1 y.2.2.2 ∈ zT) ∧ plainName y.1.cls = true ∧ (y.1.cls ≠ "java/lang/invoke/MethodHandle" ∧ y.1.cls ≠ "java/lang/invoke/VarHandle" ∧ (parseMethodDescriptor y.1.desc).map (fun d => d.parameters.length) = some n) ∧ y.2.2.1 ≤ 40
def zLkS (own : String) (idx : Nat) (y : zY) (n : Nat) : Prop := zLk own idx y n ∧ Jvm.Cond.static y.1 ∈ zT
def zLkV (own : String) (idx : Nat) (y : zY) (n : Nat) : Prop := zLk own idx y n ∧ Jvm.Cond.instanceMethod y.1 ∈ zT ∧ Jvm.Cond.selects y.1.cls y.1 y.1 ∈ zT
def zarg (As : List Value) : Nat → Value := fun i => As.getD i .null
def zpush : Option Int32 → List Value → List Value
  | none, r => r
  | some x, r => .int x :: r
/-- the frame of y stands at its return, with this answer -/
def zEnd (y : zY) (pc : Nat) (st : List Value) : Option Int32 → Prop
  | none => decode y.2.1 pc = .ok (.return_, 1) ∧ st = [] ∧ y.2.2.2 = none
  | some x => decode y.2.1 pc = .ok (.ireturn, 1) ∧ st = [.int x] ∧ ∃ ty, y.2.2.2 = some ty ∧ narrow ty (.int x) = .int x
def zcat (st : List Value) : Nat := (st.map fun v => v.category).sum
/-- the receiver: an object of the world, or the string of signs -/
def zrec (o : Nat) (C : String) : Prop := (∃ (ci : Nat) (T : u_T) (N : Nat), zsh[o]? = some (.inr ci) ∧ zcl[ci]? = some (C, T, N)) ∨ (o = 1001 ∧ C = "java/lang/String")
section
variable (X : zX) (Lx : Nat) (xs : Nat → Int32)
def zr_done : Prop := ∀ d y pc L st M (Q : zQ), Q pc L st M → X d y pc L st M Q
def zr_const : Prop := ∀ d y pc L st M Q ins len v, decode y.2.1 pc = .ok (ins, len) → zconst ins = some (v, len) → X d y (pc + len) L (.int v :: st) M Q → X d y pc L st M Q
def zr_il : Prop := ∀ d y pc L st M Q ins len i x, decode y.2.1 pc = .ok (ins, len) → zil ins = some (i, len) → L i = .int x → X d y (pc + len) L (.int x :: st) M Q → X d y pc L st M Q
def zr_al : Prop := ∀ d y pc L st M Q ins len i x, decode y.2.1 pc = .ok (ins, len) → zal ins = some (i, len) → L i = .ref x → X d y (pc + len) L (.ref x :: st) M Q → X d y pc L st M Q
def zr_is : Prop := ∀ d y pc L st M Q ins len i x, decode y.2.1 pc = .ok (ins, len) → zis ins = some (i, len) → i < y.2.2.1 → X d y (pc + len) (zu L i (.int x)) st M Q → X d y pc L (.int x :: st) M Q
def zr_as : Prop := ∀ d y pc L st M Q ins len i x, decode y.2.1 pc = .ok (ins, len) → zas ins = some (i, len) → i < y.2.2.1 → X d y (pc + len) (zu L i (.ref x)) st M Q → X d y pc L (.ref x :: st) M Q
def zr_inc : Prop := ∀ d y pc L st M Q i n x, decode y.2.1 pc = .ok (.iinc i n, 3) → L i = .int x → X d y (pc + 3) (zu L i (.int (x + Int32.ofInt n))) st M Q → X d y pc L st M Q
def zr_bin : Prop := ∀ d y pc L st M Q ins a b v, decode y.2.1 pc = .ok (ins, 1) → zbin ins a b = some v → X d y (pc + 1) L (.int v :: st) M Q → X d y pc L (.int b :: .int a :: st) M Q
def zr_un : Prop := ∀ d y pc L st M Q ins a v, decode y.2.1 pc = .ok (ins, 1) → zun ins a = some v → X d y (pc + 1) L (.int v :: st) M Q → X d y pc L (.int a :: st) M Q
def zr_stk : Prop := ∀ d y pc L st st' M Q ins, decode y.2.1 pc = .ok (ins, 1) → zstk ins st = some st' → X d y (pc + 1) L st' M Q → X d y pc L st M Q
def zr_icmp : Prop := ∀ d y pc L st M Q op off (tgt : Nat) a b, decode y.2.1 pc = .ok (.if_icmp op off, 3) → (pc : Int) + off = (tgt : Int) → (zcond op a b → X d y tgt L st M Q) → (¬ zcond op a b → X d y (pc + 3) L st M Q) → X d y pc L (.int b :: .int a :: st) M Q
def zr_if : Prop := ∀ d y pc L st M Q op off (tgt : Nat) a, decode y.2.1 pc = .ok (.ifCond op off, 3) → (pc : Int) + off = (tgt : Int) → (zcond op a 0 → X d y tgt L st M Q) → (¬ zcond op a 0 → X d y (pc + 3) L st M Q) → X d y pc L (.int a :: st) M Q
def zr_goto : Prop := ∀ d y pc L st M Q off (tgt : Nat), decode y.2.1 pc = .ok (.goto off, 3) → (pc : Int) + off = (tgt : Int) → X d y tgt L st M Q → X d y pc L st M Q
def zr_tin : Prop := ∀ d y pc L st M Q dflt lo hi offs len off (tgt : Nat) (a : Int32), decode y.2.1 pc = .ok (.tableswitch dflt lo hi offs, len) → ¬ a.toInt < lo → ¬ hi < a.toInt → offs[(a.toInt - lo).toNat]? = some off → (pc : Int) + off = (tgt : Int) → X d y tgt L st M Q → X d y pc L (.int a :: st) M Q
def zr_tout : Prop := ∀ d y pc L st M Q dflt lo hi offs len (tgt : Nat) (a : Int32), decode y.2.1 pc = .ok (.tableswitch dflt lo hi offs, len) → (a.toInt < lo ∨ hi < a.toInt) → (pc : Int) + dflt = (tgt : Int) → X d y tgt L st M Q → X d y pc L (.int a :: st) M Q
def zr_geti : Prop := ∀ d y pc L st M Q idx o ci k, decode y.2.1 pc = .ok (.getfield idx, 3) → zFld y.1.cls idx ci k false → zsh[o]? = some (.inr ci) → X d y (pc + 3) L (.int (M.1 o k) :: st) M Q → X d y pc L (.ref o :: st) M Q
def zr_getr : Prop := ∀ d y pc L st M Q idx o ci k, decode y.2.1 pc = .ok (.getfield idx, 3) → zFld y.1.cls idx ci k true → zsh[o]? = some (.inr ci) → X d y (pc + 3) L (.ref (M.2.1 o k) :: st) M Q → X d y pc L (.ref o :: st) M Q
def zr_puti : Prop := ∀ d y pc L st M Q idx o ci k x ty, decode y.2.1 pc = .ok (.putfield idx, 3) → zFld y.1.cls idx ci k false → zFlw ci k ty → zsh[o]? = some (.inr ci) → narrow ty (.int x) = .int x → fits ty (.int x) = true → X d y (pc + 3) L st (zI M o k x) Q → X d y pc L (.int x :: .ref o :: st) M Q
def zr_putr : Prop := ∀ d y pc L st M Q idx o ci k x C, decode y.2.1 pc = .ok (.putfield idx, 3) → zFld y.1.cls idx ci k true → zFlw ci k (.object C) → zsh[o]? = some (.inr ci) → X d y (pc + 3) L st (zP M o k x) Q → X d y pc L (.ref x :: .ref o :: st) M Q
def zr_ald : Prop := ∀ d y pc L st M Q ins t o n i, decode y.2.1 pc = .ok (ins, 1) → zld ins = some t → zsh[o]? = some (.inl (t, n)) → vp_in i n → X d y (pc + 1) L (.int (M.1 o i.toNatClampNeg) :: st) M Q → X d y pc L (.int i :: .ref o :: st) M Q
def zr_ast : Prop := ∀ d y pc L st M Q ins t o n i x, decode y.2.1 pc = .ok (ins, 1) → zst ins = some t → zsh[o]? = some (.inl (t, n)) → vp_in i n → X d y (pc + 1) L st (zI M o i.toNatClampNeg (znr t x)) Q → X d y pc L (.int x :: .int i :: .ref o :: st) M Q
def zr_alen : Prop := ∀ d y pc L st M Q t o n, decode y.2.1 pc = .ok (.arraylength, 1) → zsh[o]? = some (.inl (t, n)) → X d y (pc + 1) L (.int (nI n) :: st) M Q → X d y pc L (.ref o :: st) M Q
def zr_lald : Prop := ∀ d y pc L st M Q o i, decode y.2.1 pc = .ok (.laload, 1) → zsh[o]? = some (.inl (3, 1)) → vp_in i 1 → X d y (pc + 1) L (.long M.2.2 :: st) M Q → X d y pc L (.int i :: .ref o :: st) M Q
def zr_last : Prop := ∀ d y pc L st M Q o i x, decode y.2.1 pc = .ok (.lastore, 1) → zsh[o]? = some (.inl (3, 1)) → vp_in i 1 → X d y (pc + 1) L st (zJ M x) Q → X d y pc L (.long x :: .int i :: .ref o :: st) M Q
def zr_i2l : Prop := ∀ d y pc L st M Q (x : Int32), decode y.2.1 pc = .ok (.i2l, 1) → X d y (pc + 1) L (.long x.toInt64 :: st) M Q → X d y pc L (.int x :: st) M Q
def zr_lcmp : Prop := ∀ d y pc L st M Q (a b : Int64), decode y.2.1 pc = .ok (.lcmp, 1) → X d y (pc + 1) L (.int (lg_cmp a b) :: st) M Q → X d y pc L (.long b :: .long a :: st) M Q
def zr_sld : Prop := ∀ d y pc L st M Q i, decode y.2.1 pc = .ok (.iaload, 1) → vp_in i Lx → X d y (pc + 1) L (.int (xs i.toNatClampNeg) :: st) M Q → X d y pc L (.int i :: .ref 1000 :: st) M Q
def zr_slen : Prop := ∀ d y pc L st M Q, decode y.2.1 pc = .ok (.arraylength, 1) → X d y (pc + 1) L (.int (nI Lx) :: st) M Q → X d y pc L (.ref 1000 :: st) M Q
def zr_copy : Prop := ∀ d y pc L st M Q idx t o n o' n' sp dp k, decode y.2.1 pc = .ok (.invokestatic idx, 3) → Jvm.Cond.methodLink y.1.cls idx arraycopyName ∈ zT → zsh[o]? = some (.inl (t, n)) → zsh[o']? = some (.inl (t, n')) → (t = 0 ∨ t = 1) → sp + k ≤ n → dp + k ≤ n' → (∀ i, i < k → fits (ztt t) (.int (M.1 o (sp + i))) = true) → zcat st ≤ 8 → X (d + 1) y (pc + 3) L st (zCp M o o' sp dp k) Q → X (d + 1) y pc L (.int (nI k) :: .int (nI dp) :: .ref o' :: .int (nI sp) :: .ref o :: st) M Q
def zr_max : Prop := ∀ d y pc L st M Q idx a b, decode y.2.1 pc = .ok (.invokestatic idx, 3) → Jvm.Cond.methodLink y.1.cls idx Lib.Math.max.name ∈ zT → zcat st ≤ 8 → X (d + 1) y (pc + 3) L (.int (if a < b then b else a) :: st) M Q → X (d + 1) y pc L (.int b :: .int a :: st) M Q
def zr_min : Prop := ∀ d y pc L st M Q idx a b, decode y.2.1 pc = .ok (.invokestatic idx, 3) → Jvm.Cond.methodLink y.1.cls idx Lib.Math.min.name ∈ zT → zcat st ≤ 8 → X (d + 1) y (pc + 3) L (.int (if b < a then b else a) :: st) M Q → X (d + 1) y pc L (.int b :: .int a :: st) M Q
def zr_ldcS : Prop := ∀ d y pc L st M Q, decode y.2.1 pc = .ok (.ldc zsi, 2) → y.1.cls = zso → X d y (pc + 2) L (.ref 1001 :: st) M Q → X d y pc L st M Q
def zr_sval : Prop := ∀ d y pc L st M Q idx, decode y.2.1 pc = .ok (.getfield idx, 3) → Jvm.Cond.fieldLink y.1.cls idx "java/lang/String" "value" "[B" ∈ zT → X d y (pc + 3) L (.ref 1002 :: st) M Q → X d y pc L (.ref 1001 :: st) M Q
def zr_scod : Prop := ∀ d y pc L st M Q idx, decode y.2.1 pc = .ok (.getfield idx, 3) → Jvm.Cond.fieldLink y.1.cls idx "java/lang/String" "coder" "B" ∈ zT → X d y (pc + 3) L (.int 0 :: st) M Q → X d y pc L (.ref 1001 :: st) M Q
def zr_scmp : Prop := ∀ d y pc L st M Q idx, decode y.2.1 pc = .ok (.getstatic idx, 3) → Jvm.Cond.fieldLink y.1.cls idx "java/lang/String" "COMPACT_STRINGS" "Z" ∈ zT → X d y (pc + 3) L (.int 1 :: st) M Q → X d y pc L st M Q
def zr_sbld : Prop := ∀ d y pc L st M Q i, decode y.2.1 pc = .ok (.baload, 1) → vp_in i zsn → X d y (pc + 1) L (.int (zsb.getD i.toNatClampNeg 0) :: st) M Q → X d y pc L (.int i :: .ref 1002 :: st) M Q
def zr_sblen : Prop := ∀ d y pc L st M Q, decode y.2.1 pc = .ok (.arraylength, 1) → X d y (pc + 1) L (.int (nI zsn) :: st) M Q → X d y pc L (.ref 1002 :: st) M Q
def zr_callS : Prop := ∀ d y pc L st M Q idx (k : zY) (As : List Value) (R : Option Int32 → zM → Prop), decode y.2.1 pc = .ok (.invokestatic idx, 3) → zLkS y.1.cls idx k As.length → (∀ v ∈ As, v.category = 1) → As.length ≤ k.2.2.1 → zcat st ≤ 8 → X d k 0 (zarg As) [] M (fun pc' _ st' M' => ∃ o, zEnd k pc' st' o ∧ R o M') → (∀ o M', R o M' → X (d + 1) y (pc + 3) L (zpush o st) M' Q) → X (d + 1) y pc L (As.reverse ++ st) M Q
def zr_callV : Prop := ∀ d y pc L st M Q idx (k : zY) (b : Nat) (As : List Value) (R : Option Int32 → zM → Prop), decode y.2.1 pc = .ok (.invokevirtual idx, 3) → zLkV y.1.cls idx k As.length → zrec b k.1.cls → (∀ v ∈ As, v.category = 1) → As.length + 1 ≤ k.2.2.1 → zcat st ≤ 8 → X d k 0 (zarg (.ref b :: As)) [] M (fun pc' _ st' M' => ∃ o, zEnd k pc' st' o ∧ R o M') → (∀ o M', R o M' → X (d + 1) y (pc + 3) L (zpush o st) M' Q) → X (d + 1) y pc L (As.reverse ++ .ref b :: st) M Q
end
def zRules (Lx : Nat) (xs : Nat → Int32) (X : zX) : Prop := zr_done X ∧ zr_const X ∧ zr_il X ∧ zr_al X ∧ zr_is X ∧ zr_as X ∧ zr_inc X ∧ zr_bin X ∧ zr_un X ∧ zr_stk X ∧ zr_icmp X ∧ zr_if X ∧ zr_goto X ∧ zr_tin X ∧ zr_tout X ∧ zr_geti X ∧ zr_getr X ∧ zr_puti X ∧ zr_putr X ∧ zr_ald X ∧ zr_ast X ∧ zr_alen X ∧ zr_lald X ∧ zr_last X ∧ zr_i2l X ∧ zr_lcmp X ∧ zr_sld X Lx xs ∧ zr_slen X Lx ∧ zr_copy X ∧ zr_max X ∧ zr_min X ∧ zr_ldcS X ∧ zr_sval X ∧ zr_scod X ∧ zr_scmp X ∧ zr_sbld X ∧ zr_sblen X ∧ zr_callS X ∧ zr_callV X
def Ev (Lx : Nat) (xs : Nat → Int32) : zX := fun d y pc L st M Q => ∀ X : zX, zRules Lx xs X → X d y pc L st M Q
section
variable {Lx : Nat} {xs : Nat → Int32}
theorem ev_done {d : Nat} {y : zY} {pc : Nat} {L : Nat → Value} {st : List Value} {M : zM} {Q : zQ} (h0 : Q pc L st M) : Ev Lx xs d y pc L st M Q := fun X h => h.1 _ _ _ _ _ _ _ h0
theorem ev_const {d : Nat} {y : zY} {pc : Nat} {L : Nat → Value} {st : List Value} {M : zM} {Q : zQ} {ins : Instr} {len : Nat} {v : Int32} (h0 : decode y.2.1 pc = .ok (ins, len)) (h1 : zconst ins = some (v, len)) (h2 : Ev Lx xs d y (pc + len) L (.int v :: st) M Q) : Ev Lx xs d y pc L st M Q := fun X h => h.2.1 _ _ _ _ _ _ _ _ _ _ h0 h1 (h2 X h)
theorem ev_il {d : Nat} {y : zY} {pc : Nat} {L : Nat → Value} {st : List Value} {M : zM} {Q : zQ} {ins : Instr} {len : Nat} {i : Nat} {x : Int32} (h0 : decode y.2.1 pc = .ok (ins, len)) (h1 : zil ins = some (i, len)) (h2 : L i = .int x) (h3 : Ev Lx xs d y (pc + len) L (.int x :: st) M Q) : Ev Lx xs d y pc L st M Q := fun X h => h.2.2.1 _ _ _ _ _ _ _ _ _ _ _ h0 h1 h2 (h3 X h)
theorem ev_al {d : Nat} {y : zY} {pc : Nat} {L : Nat → Value} {st : List Value} {M : zM} {Q : zQ} {ins : Instr} {len : Nat} {i : Nat} {x : Nat} (h0 : decode y.2.1 pc = .ok (ins, len)) (h1 : zal ins = some (i, len)) (h2 : L i = .ref x) (h3 : Ev Lx xs d y (pc + len) L (.ref x :: st) M Q) : Ev Lx xs d y pc L st M Q := fun X h => h.2.2.2.1 _ _ _ _ _ _ _ _ _ _ _ h0 h1 h2 (h3 X h)
theorem ev_is {d : Nat} {y : zY} {pc : Nat} {L : Nat → Value} {st : List Value} {M : zM} {Q : zQ} {ins : Instr} {len : Nat} {i : Nat} {x : Int32} (h0 : decode y.2.1 pc = .ok (ins, len)) (h1 : zis ins = some (i, len)) (h2 : i < y.2.2.1) (h3 : Ev Lx xs d y (pc + len) (zu L i (.int x)) st M Q) : Ev Lx xs d y pc L (.int x :: st) M Q := fun X h => h.2.2.2.2.1 _ _ _ _ _ _ _ _ _ _ _ h0 h1 h2 (h3 X h)
theorem ev_as {d : Nat} {y : zY} {pc : Nat} {L : Nat → Value} {st : List Value} {M : zM} {Q : zQ} {ins : Instr} {len : Nat} {i : Nat} {x : Nat} (h0 : decode y.2.1 pc = .ok (ins, len)) (h1 : zas ins = some (i, len)) (h2 : i < y.2.2.1) (h3 : Ev Lx xs d y (pc + len) (zu L i (.ref x)) st M Q) : Ev Lx xs d y pc L (.ref x :: st) M Q := fun X h => h.2.2.2.2.2.1 _ _ _ _ _ _ _ _ _ _ _ h0 h1 h2 (h3 X h)
theorem ev_inc {d : Nat} {y : zY} {pc : Nat} {L : Nat → Value} {st : List Value} {M : zM} {Q : zQ} {i : Nat} {n : Int} {x : Int32} (h0 : decode y.2.1 pc = .ok (.iinc i n, 3)) (h1 : L i = .int x) (h2 : Ev Lx xs d y (pc + 3) (zu L i (.int (x + Int32.ofInt n))) st M Q) : Ev Lx xs d y pc L st M Q := fun X h => h.2.2.2.2.2.2.1 _ _ _ _ _ _ _ _ _ _ h0 h1 (h2 X h)
theorem ev_bin {d : Nat} {y : zY} {pc : Nat} {L : Nat → Value} {st : List Value} {M : zM} {Q : zQ} {ins : Instr} {a : Int32} {b : Int32} {v : Int32} (h0 : decode y.2.1 pc = .ok (ins, 1)) (h1 : zbin ins a b = some v) (h2 : Ev Lx xs d y (pc + 1) L (.int v :: st) M Q) : Ev Lx xs d y pc L (.int b :: .int a :: st) M Q := fun X h => h.2.2.2.2.2.2.2.1 _ _ _ _ _ _ _ _ _ _ _ h0 h1 (h2 X h)
theorem ev_un {d : Nat} {y : zY} {pc : Nat} {L : Nat → Value} {st : List Value} {M : zM} {Q : zQ} {ins : Instr} {a : Int32} {v : Int32} (h0 : decode y.2.1 pc = .ok (ins, 1)) (h1 : zun ins a = some v) (h2 : Ev Lx xs d y (pc + 1) L (.int v :: st) M Q) : Ev Lx xs d y pc L (.int a :: st) M Q := fun X h => h.2.2.2.2.2.2.2.2.1 _ _ _ _ _ _ _ _ _ _ h0 h1 (h2 X h)
theorem ev_stk {d : Nat} {y : zY} {pc : Nat} {L : Nat → Value} {st : List Value} {st' : List Value} {M : zM} {Q : zQ} {ins : Instr} (h0 : decode y.2.1 pc = .ok (ins, 1)) (h1 : zstk ins st = some st') (h2 : Ev Lx xs d y (pc + 1) L st' M Q) : Ev Lx xs d y pc L st M Q := fun X h => h.2.2.2.2.2.2.2.2.2.1 _ _ _ _ _ _ _ _ _ h0 h1 (h2 X h)
theorem ev_icmp {d : Nat} {y : zY} {pc : Nat} {L : Nat → Value} {st : List Value} {M : zM} {Q : zQ} {op : Jvm.ClassFile.Cond} {off : Int} {tgt : Nat} {a : Int32} {b : Int32} (h0 : decode y.2.1 pc = .ok (.if_icmp op off, 3)) (h1 : (pc : Int) + off = (tgt : Int)) (h2 : (zcond op a b → Ev Lx xs d y tgt L st M Q)) (h3 : (¬ zcond op a b → Ev Lx xs d y (pc + 3) L st M Q)) : Ev Lx xs d y pc L (.int b :: .int a :: st) M Q := fun X h => h.2.2.2.2.2.2.2.2.2.2.1 _ _ _ _ _ _ _ _ _ _ _ _ h0 h1 (fun hh => h2 hh X h) (fun hh => h3 hh X h)
theorem ev_if {d : Nat} {y : zY} {pc : Nat} {L : Nat → Value} {st : List Value} {M : zM} {Q : zQ} {op : Jvm.ClassFile.Cond} {off : Int} {tgt : Nat} {a : Int32} (h0 : decode y.2.1 pc = .ok (.ifCond op off, 3)) (h1 : (pc : Int) + off = (tgt : Int)) (h2 : (zcond op a 0 → Ev Lx xs d y tgt L st M Q)) (h3 : (¬ zcond op a 0 → Ev Lx xs d y (pc + 3) L st M Q)) : Ev Lx xs d y pc L (.int a :: st) M Q := fun X h => h.2.2.2.2.2.2.2.2.2.2.2.1 _ _ _ _ _ _ _ _ _ _ _ h0 h1 (fun hh => h2 hh X h) (fun hh => h3 hh X h)
theorem ev_goto {d : Nat} {y : zY} {pc : Nat} {L : Nat → Value} {st : List Value} {M : zM} {Q : zQ} {off : Int} {tgt : Nat} (h0 : decode y.2.1 pc = .ok (.goto off, 3)) (h1 : (pc : Int) + off = (tgt : Int)) (h2 : Ev Lx xs d y tgt L st M Q) : Ev Lx xs d y pc L st M Q := fun X h => h.2.2.2.2.2.2.2.2.2.2.2.2.1 _ _ _ _ _ _ _ _ _ h0 h1 (h2 X h)
theorem ev_tin {d : Nat} {y : zY} {pc : Nat} {L : Nat → Value} {st : List Value} {M : zM} {Q : zQ} {dflt : Int} {lo : Int} {hi : Int} {offs : Array Int} {len : Nat} {off : Int} {tgt : Nat} {a : Int32} (h0 : decode y.2.1 pc = .ok (.tableswitch dflt lo hi offs, len)) (h1 : ¬ a.toInt < lo) (h2 : ¬ hi < a.toInt) (h3 : offs[(a.toInt - lo).toNat]? = some off) (h4 : (pc : Int) + off = (tgt : Int)) (h5 : Ev Lx xs d y tgt L st M Q) : Ev Lx xs d y pc L (.int a :: st) M Q := fun X h => h.2.2.2.2.2.2.2.2.2.2.2.2.2.1 _ _ _ _ _ _ _ _ _ _ _ _ _ _ _ h0 h1 h2 h3 h4 (h5 X h)
theorem ev_tout {d : Nat} {y : zY} {pc : Nat} {L : Nat → Value} {st : List Value} {M : zM} {Q : zQ} {dflt : Int} {lo : Int} {hi : Int} {offs : Array Int} {len : Nat} {tgt : Nat} {a : Int32} (h0 : decode y.2.1 pc = .ok (.tableswitch dflt lo hi offs, len)) (h1 : (a.toInt < lo ∨ hi < a.toInt)) (h2 : (pc : Int) + dflt = (tgt : Int)) (h3 : Ev Lx xs d y tgt L st M Q) : Ev Lx xs d y pc L (.int a :: st) M Q := fun X h => h.2.2.2.2.2.2.2.2.2.2.2.2.2.2.1 _ _ _ _ _ _ _ _ _ _ _ _ _ _ h0 h1 h2 (h3 X h)
theorem ev_geti {d : Nat} {y : zY} {pc : Nat} {L : Nat → Value} {st : List Value} {M : zM} {Q : zQ} {idx : Nat} {o : Nat} {ci : Nat} {k : Nat} (h0 : decode y.2.1 pc = .ok (.getfield idx, 3)) (h1 : zFld y.1.cls idx ci k false) (h2 : zsh[o]? = some (.inr ci)) (h3 : Ev Lx xs d y (pc + 3) L (.int (M.1 o k) :: st) M Q) : Ev Lx xs d y pc L (.ref o :: st) M Q := fun X h => h.2.2.2.2.2.2.2.2.2.2.2.2.2.2.2.1 _ _ _ _ _ _ _ _ _ _ _ h0 h1 h2 (h3 X h)
theorem ev_getr {d : Nat} {y : zY} {pc : Nat} {L : Nat → Value} {st : List Value} {M : zM} {Q : zQ} {idx : Nat} {o : Nat} {ci : Nat} {k : Nat} (h0 : decode y.2.1 pc = .ok (.getfield idx, 3)) (h1 : zFld y.1.cls idx ci k true) (h2 : zsh[o]? = some (.inr ci)) (h3 : Ev Lx xs d y (pc + 3) L (.ref (M.2.1 o k) :: st) M Q) : Ev Lx xs d y pc L (.ref o :: st) M Q := fun X h => h.2.2.2.2.2.2.2.2.2.2.2.2.2.2.2.2.1 _ _ _ _ _ _ _ _ _ _ _ h0 h1 h2 (h3 X h)
theorem ev_puti {d : Nat} {y : zY} {pc : Nat} {L : Nat → Value} {st : List Value} {M : zM} {Q : zQ} {idx : Nat} {o : Nat} {ci : Nat} {k : Nat} {x : Int32} {ty : FieldType} (h0 : decode y.2.1 pc = .ok (.putfield idx, 3)) (h1 : zFld y.1.cls idx ci k false) (h2 : zFlw ci k ty) (h3 : zsh[o]? = some (.inr ci)) (h4 : narrow ty (.int x) = .int x) (h5 : fits ty (.int x) = true) (h6 : Ev Lx xs d y (pc + 3) L st (zI M o k x) Q) : Ev Lx xs d y pc L (.int x :: .ref o :: st) M Q := fun X h => h.2.2.2.2.2.2.2.2.2.2.2.2.2.2.2.2.2.1 _ _ _ _ _ _ _ _ _ _ _ _ _ h0 h1 h2 h3 h4 h5 (h6 X h)
theorem ev_putr {d : Nat} {y : zY} {pc : Nat} {L : Nat → Value} {st : List Value} {M : zM} {Q : zQ} {idx : Nat} {o : Nat} {ci : Nat} {k : Nat} {x : Nat} {C : String} (h0 : decode y.2.1 pc = .ok (.putfield idx, 3)) (h1 : zFld y.1.cls idx ci k true) (h2 : zFlw ci k (.object C)) (h3 : zsh[o]? = some (.inr ci)) (h4 : Ev Lx xs d y (pc + 3) L st (zP M o k x) Q) : Ev Lx xs d y pc L (.ref x :: .ref o :: st) M Q := fun X h => h.2.2.2.2.2.2.2.2.2.2.2.2.2.2.2.2.2.2.1 _ _ _ _ _ _ _ _ _ _ _ _ _ h0 h1 h2 h3 (h4 X h)
theorem ev_ald {d : Nat} {y : zY} {pc : Nat} {L : Nat → Value} {st : List Value} {M : zM} {Q : zQ} {ins : Instr} {t : Nat} {o : Nat} {n : Nat} {i : Int32} (h0 : decode y.2.1 pc = .ok (ins, 1)) (h1 : zld ins = some t) (h2 : zsh[o]? = some (.inl (t, n))) (h3 : vp_in i n) (h4 : Ev Lx xs d y (pc + 1) L (.int (M.1 o i.toNatClampNeg) :: st) M Q) : Ev Lx xs d y pc L (.int i :: .ref o :: st) M Q := fun X h => h.2.2.2.2.2.2.2.2.2.2.2.2.2.2.2.2.2.2.2.1 _ _ _ _ _ _ _ _ _ _ _ _ h0 h1 h2 h3 (h4 X h)
theorem ev_ast {d : Nat} {y : zY} {pc : Nat} {L : Nat → Value} {st : List Value} {M : zM} {Q : zQ} {ins : Instr} {t : Nat} {o : Nat} {n : Nat} {i : Int32} {x : Int32} (h0 : decode y.2.1 pc = .ok (ins, 1)) (h1 : zst ins = some t) (h2 : zsh[o]? = some (.inl (t, n))) (h3 : vp_in i n) (h4 : Ev Lx xs d y (pc + 1) L st (zI M o i.toNatClampNeg (znr t x)) Q) : Ev Lx xs d y pc L (.int x :: .int i :: .ref o :: st) M Q := fun X h => h.2.2.2.2.2.2.2.2.2.2.2.2.2.2.2.2.2.2.2.2.1 _ _ _ _ _ _ _ _ _ _ _ _ _ h0 h1 h2 h3 (h4 X h)
theorem ev_alen {d : Nat} {y : zY} {pc : Nat} {L : Nat → Value} {st : List Value} {M : zM} {Q : zQ} {t : Nat} {o : Nat} {n : Nat} (h0 : decode y.2.1 pc = .ok (.arraylength, 1)) (h1 : zsh[o]? = some (.inl (t, n))) (h2 : Ev Lx xs d y (pc + 1) L (.int (nI n) :: st) M Q) : Ev Lx xs d y pc L (.ref o :: st) M Q := fun X h => h.2.2.2.2.2.2.2.2.2.2.2.2.2.2.2.2.2.2.2.2.2.1 _ _ _ _ _ _ _ _ _ _ h0 h1 (h2 X h)
theorem ev_lald {d : Nat} {y : zY} {pc : Nat} {L : Nat → Value} {st : List Value} {M : zM} {Q : zQ} {o : Nat} {i : Int32} (h0 : decode y.2.1 pc = .ok (.laload, 1)) (h1 : zsh[o]? = some (.inl (3, 1))) (h2 : vp_in i 1) (h3 : Ev Lx xs d y (pc + 1) L (.long M.2.2 :: st) M Q) : Ev Lx xs d y pc L (.int i :: .ref o :: st) M Q := fun X h => h.2.2.2.2.2.2.2.2.2.2.2.2.2.2.2.2.2.2.2.2.2.2.1 _ _ _ _ _ _ _ _ _ h0 h1 h2 (h3 X h)
theorem ev_last {d : Nat} {y : zY} {pc : Nat} {L : Nat → Value} {st : List Value} {M : zM} {Q : zQ} {o : Nat} {i : Int32} {x : Int64} (h0 : decode y.2.1 pc = .ok (.lastore, 1)) (h1 : zsh[o]? = some (.inl (3, 1))) (h2 : vp_in i 1) (h3 : Ev Lx xs d y (pc + 1) L st (zJ M x) Q) : Ev Lx xs d y pc L (.long x :: .int i :: .ref o :: st) M Q := fun X h => h.2.2.2.2.2.2.2.2.2.2.2.2.2.2.2.2.2.2.2.2.2.2.2.1 _ _ _ _ _ _ _ _ _ _ h0 h1 h2 (h3 X h)
theorem ev_i2l {d : Nat} {y : zY} {pc : Nat} {L : Nat → Value} {st : List Value} {M : zM} {Q : zQ} {x : Int32} (h0 : decode y.2.1 pc = .ok (.i2l, 1)) (h1 : Ev Lx xs d y (pc + 1) L (.long x.toInt64 :: st) M Q) : Ev Lx xs d y pc L (.int x :: st) M Q := fun X h => h.2.2.2.2.2.2.2.2.2.2.2.2.2.2.2.2.2.2.2.2.2.2.2.2.1 _ _ _ _ _ _ _ _ h0 (h1 X h)
theorem ev_lcmp {d : Nat} {y : zY} {pc : Nat} {L : Nat → Value} {st : List Value} {M : zM} {Q : zQ} {a b : Int64} (h0 : decode y.2.1 pc = .ok (.lcmp, 1)) (h1 : Ev Lx xs d y (pc + 1) L (.int (lg_cmp a b) :: st) M Q) : Ev Lx xs d y pc L (.long b :: .long a :: st) M Q := fun X h => h.2.2.2.2.2.2.2.2.2.2.2.2.2.2.2.2.2.2.2.2.2.2.2.2.2.1 _ _ _ _ _ _ _ _ _ h0 (h1 X h)
theorem ev_sld {d : Nat} {y : zY} {pc : Nat} {L : Nat → Value} {st : List Value} {M : zM} {Q : zQ} {i : Int32} (h0 : decode y.2.1 pc = .ok (.iaload, 1)) (h1 : vp_in i Lx) (h2 : Ev Lx xs d y (pc + 1) L (.int (xs i.toNatClampNeg) :: st) M Q) : Ev Lx xs d y pc L (.int i :: .ref 1000 :: st) M Q := fun X h => h.2.2.2.2.2.2.2.2.2.2.2.2.2.2.2.2.2.2.2.2.2.2.2.2.2.2.1 _ _ _ _ _ _ _ _ h0 h1 (h2 X h)
theorem ev_slen {d : Nat} {y : zY} {pc : Nat} {L : Nat → Value} {st : List Value} {M : zM} {Q : zQ} (h0 : decode y.2.1 pc = .ok (.arraylength, 1)) (h1 : Ev Lx xs d y (pc + 1) L (.int (nI Lx) :: st) M Q) : Ev Lx xs d y pc L (.ref 1000 :: st) M Q := fun X h => h.2.2.2.2.2.2.2.2.2.2.2.2.2.2.2.2.2.2.2.2.2.2.2.2.2.2.2.1 _ _ _ _ _ _ _ h0 (h1 X h)
theorem ev_copy {d : Nat} {y : zY} {pc : Nat} {L : Nat → Value} {st : List Value} {M : zM} {Q : zQ} {idx : Nat} {t : Nat} {o : Nat} {n : Nat} {o' : Nat} {n' : Nat} {sp : Nat} {dp : Nat} {k : Nat} (h0 : decode y.2.1 pc = .ok (.invokestatic idx, 3)) (h1 : Jvm.Cond.methodLink y.1.cls idx arraycopyName ∈ zT) (h2 : zsh[o]? = some (.inl (t, n))) (h3 : zsh[o']? = some (.inl (t, n'))) (h4 : (t = 0 ∨ t = 1)) (h5 : sp + k ≤ n) (h6 : dp + k ≤ n') (h7 : (∀ i, i < k → fits (ztt t) (.int (M.1 o (sp + i))) = true)) (h8 : zcat st ≤ 8) (h9 : Ev Lx xs (d + 1) y (pc + 3) L st (zCp M o o' sp dp k) Q) : Ev Lx xs (d + 1) y pc L (.int (nI k) :: .int (nI dp) :: .ref o' :: .int (nI sp) :: .ref o :: st) M Q := fun X h => h.2.2.2.2.2.2.2.2.2.2.2.2.2.2.2.2.2.2.2.2.2.2.2.2.2.2.2.2.1 _ _ _ _ _ _ _ _ _ _ _ _ _ _ _ _ h0 h1 h2 h3 h4 h5 h6 h7 h8 (h9 X h)
theorem ev_max {d : Nat} {y : zY} {pc : Nat} {L : Nat → Value} {st : List Value} {M : zM} {Q : zQ} {idx : Nat} {a : Int32} {b : Int32} (h0 : decode y.2.1 pc = .ok (.invokestatic idx, 3)) (h1 : Jvm.Cond.methodLink y.1.cls idx Lib.Math.max.name ∈ zT) (h2 : zcat st ≤ 8) (h3 : Ev Lx xs (d + 1) y (pc + 3) L (.int (if a < b then b else a) :: st) M Q) : Ev Lx xs (d + 1) y pc L (.int b :: .int a :: st) M Q := fun X h => h.2.2.2.2.2.2.2.2.2.2.2.2.2.2.2.2.2.2.2.2.2.2.2.2.2.2.2.2.2.1 _ _ _ _ _ _ _ _ _ _ h0 h1 h2 (h3 X h)
theorem ev_min {d : Nat} {y : zY} {pc : Nat} {L : Nat → Value} {st : List Value} {M : zM} {Q : zQ} {idx : Nat} {a : Int32} {b : Int32} (h0 : decode y.2.1 pc = .ok (.invokestatic idx, 3)) (h1 : Jvm.Cond.methodLink y.1.cls idx Lib.Math.min.name ∈ zT) (h2 : zcat st ≤ 8) (h3 : Ev Lx xs (d + 1) y (pc + 3) L (.int (if b < a then b else a) :: st) M Q) : Ev Lx xs (d + 1) y pc L (.int b :: .int a :: st) M Q := fun X h => h.2.2.2.2.2.2.2.2.2.2.2.2.2.2.2.2.2.2.2.2.2.2.2.2.2.2.2.2.2.2.1 _ _ _ _ _ _ _ _ _ _ h0 h1 h2 (h3 X h)
theorem ev_ldcS {d : Nat} {y : zY} {pc : Nat} {L : Nat → Value} {st : List Value} {M : zM} {Q : zQ} (h0 : decode y.2.1 pc = .ok (.ldc zsi, 2)) (h1 : y.1.cls = zso) (h2 : Ev Lx xs d y (pc + 2) L (.ref 1001 :: st) M Q) : Ev Lx xs d y pc L st M Q := fun X h => h.2.2.2.2.2.2.2.2.2.2.2.2.2.2.2.2.2.2.2.2.2.2.2.2.2.2.2.2.2.2.2.1 _ _ _ _ _ _ _ h0 h1 (h2 X h)
theorem ev_sval {d : Nat} {y : zY} {pc : Nat} {L : Nat → Value} {st : List Value} {M : zM} {Q : zQ} {idx : Nat} (h0 : decode y.2.1 pc = .ok (.getfield idx, 3)) (h1 : Jvm.Cond.fieldLink y.1.cls idx "java/lang/String" "value" "[B" ∈ zT) (h2 : Ev Lx xs d y (pc + 3) L (.ref 1002 :: st) M Q) : Ev Lx xs d y pc L (.ref 1001 :: st) M Q := fun X h => h.2.2.2.2.2.2.2.2.2.2.2.2.2.2.2.2.2.2.2.2.2.2.2.2.2.2.2.2.2.2.2.2.1 _ _ _ _ _ _ _ _ h0 h1 (h2 X h)
theorem ev_scod {d : Nat} {y : zY} {pc : Nat} {L : Nat → Value} {st : List Value} {M : zM} {Q : zQ} {idx : Nat} (h0 : decode y.2.1 pc = .ok (.getfield idx, 3)) (h1 : Jvm.Cond.fieldLink y.1.cls idx "java/lang/String" "coder" "B" ∈ zT) (h2 : Ev Lx xs d y (pc + 3) L (.int 0 :: st) M Q) : Ev Lx xs d y pc L (.ref 1001 :: st) M Q := fun X h => h.2.2.2.2.2.2.2.2.2.2.2.2.2.2.2.2.2.2.2.2.2.2.2.2.2.2.2.2.2.2.2.2.2.1 _ _ _ _ _ _ _ _ h0 h1 (h2 X h)
theorem ev_scmp {d : Nat} {y : zY} {pc : Nat} {L : Nat → Value} {st : List Value} {M : zM} {Q : zQ} {idx : Nat} (h0 : decode y.2.1 pc = .ok (.getstatic idx, 3)) (h1 : Jvm.Cond.fieldLink y.1.cls idx "java/lang/String" "COMPACT_STRINGS" "Z" ∈ zT) (h2 : Ev Lx xs d y (pc + 3) L (.int 1 :: st) M Q) : Ev Lx xs d y pc L st M Q := fun X h => h.2.2.2.2.2.2.2.2.2.2.2.2.2.2.2.2.2.2.2.2.2.2.2.2.2.2.2.2.2.2.2.2.2.2.1 _ _ _ _ _ _ _ _ h0 h1 (h2 X h)
theorem ev_sbld {d : Nat} {y : zY} {pc : Nat} {L : Nat → Value} {st : List Value} {M : zM} {Q : zQ} {i : Int32} (h0 : decode y.2.1 pc = .ok (.baload, 1)) (h1 : vp_in i zsn) (h2 : Ev Lx xs d y (pc + 1) L (.int (zsb.getD i.toNatClampNeg 0) :: st) M Q) : Ev Lx xs d y pc L (.int i :: .ref 1002 :: st) M Q := fun X h => h.2.2.2.2.2.2.2.2.2.2.2.2.2.2.2.2.2.2.2.2.2.2.2.2.2.2.2.2.2.2.2.2.2.2.2.1 _ _ _ _ _ _ _ _ h0 h1 (h2 X h)
theorem ev_sblen {d : Nat} {y : zY} {pc : Nat} {L : Nat → Value} {st : List Value} {M : zM} {Q : zQ} (h0 : decode y.2.1 pc = .ok (.arraylength, 1)) (h1 : Ev Lx xs d y (pc + 1) L (.int (nI zsn) :: st) M Q) : Ev Lx xs d y pc L (.ref 1002 :: st) M Q := fun X h => h.2.2.2.2.2.2.2.2.2.2.2.2.2.2.2.2.2.2.2.2.2.2.2.2.2.2.2.2.2.2.2.2.2.2.2.2.1 _ _ _ _ _ _ _ h0 (h1 X h)
theorem ev_callS {d : Nat} {y : zY} {pc : Nat} {L : Nat → Value} {st : List Value} {M : zM} {Q : zQ} {idx : Nat} {k : zY} {As : List Value} {R : Option Int32 → zM → Prop} (h0 : decode y.2.1 pc = .ok (.invokestatic idx, 3)) (h1 : zLkS y.1.cls idx k As.length) (h2 : (∀ v ∈ As, v.category = 1)) (h3 : As.length ≤ k.2.2.1) (h4 : zcat st ≤ 8) (h5 : Ev Lx xs d k 0 (zarg As) [] M (fun pc' _ st' M' => ∃ o, zEnd k pc' st' o ∧ R o M')) (h6 : (∀ o M', R o M' → Ev Lx xs (d + 1) y (pc + 3) L (zpush o st) M' Q)) : Ev Lx xs (d + 1) y pc L (As.reverse ++ st) M Q := fun X h => h.2.2.2.2.2.2.2.2.2.2.2.2.2.2.2.2.2.2.2.2.2.2.2.2.2.2.2.2.2.2.2.2.2.2.2.2.2.1 _ _ _ _ _ _ _ _ _ _ _ h0 h1 h2 h3 h4 (h5 X h) (fun o M' hh => h6 o M' hh X h)
theorem ev_callV {d : Nat} {y : zY} {pc : Nat} {L : Nat → Value} {st : List Value} {M : zM} {Q : zQ} {idx : Nat} {k : zY} {b : Nat} {As : List Value} {R : Option Int32 → zM → Prop} (h0 : decode y.2.1 pc = .ok (.invokevirtual idx, 3)) (h1 : zLkV y.1.cls idx k As.length) (h2 : zrec b k.1.cls) (h3 : (∀ v ∈ As, v.category = 1)) (h4 : As.length + 1 ≤ k.2.2.1) (h5 : zcat st ≤ 8) (h6 : Ev Lx xs d k 0 (zarg (.ref b :: As)) [] M (fun pc' _ st' M' => ∃ o, zEnd k pc' st' o ∧ R o M')) (h7 : (∀ o M', R o M' → Ev Lx xs (d + 1) y (pc + 3) L (zpush o st) M' Q)) : Ev Lx xs (d + 1) y pc L (As.reverse ++ .ref b :: st) M Q := fun X h => h.2.2.2.2.2.2.2.2.2.2.2.2.2.2.2.2.2.2.2.2.2.2.2.2.2.2.2.2.2.2.2.2.2.2.2.2.2.2 _ _ _ _ _ _ _ _ _ _ _ _ h0 h1 h2 h3 h4 h5 (h6 X h) (fun o M' hh => h7 o M' hh X h)
end
end
section
/- the small machine's steps are the machine's -/
def zv (ad : Nat → Nat) : Value → Value
  | .ref p => .ref (ad p)
  | v => v
theorem zv_cat (ad : Nat → Nat) (v : Value) : (zv ad v).category = v.category := by cases v <;> rfl
theorem zcat_map (ad : Nat → Nat) (st : List Value) : ((st.map (zv ad)).map fun v => v.category).sum = zcat st := by
  unfold zcat; rw [List.map_map]; congr 1; apply List.map_congr_left; intro v _; exact zv_cat ad v
def zE (dA : Nat → ClassId) (ad : Nat → Nat) (M : zM) (q : Nat) : ((Nat × Nat) ⊕ Nat) → va_E
  | .inl (t, n) => .inl (dA t, n, if t = 3 then .inr (.inl (fun j => if j = 0 then M.2.2 else 0)) else .inl (M.1 q))
  | .inr ci => .inr (ci, (List.range (zrf ci).length).map (fun k => if (zrf ci).getD k false = true then Value.ref (ad (M.2.1 q k)) else .int (M.1 q k)))
def zw (dA : Nat → ClassId) (ad : Nat → Nat) (M : zM) : va_W := zsh.mapIdx (fun q sh => (ad q, zE dA ad M q sh))
def ztys (dA : Nat → ClassId) : List (ClassId × FieldType) := [(dA 0, .int), (dA 1, .char), (dA 2, .boolean), (dA 3, .long)]
theorem zw_at {dA : Nat → ClassId} {ad : Nat → Nat} {M : zM} {q : Nat} {sh : (Nat × Nat) ⊕ Nat} (h : zsh[q]? = some sh) : (zw dA ad M)[q]? = some (ad q, zE dA ad M q sh) := by
  unfold zw; rw [List.getElem?_mapIdx, h]; rfl
theorem zw_set {dA : Nat → ClassId} {ad : Nat → Nat} {M M' : zM} {o : Nat} {sh : (Nat × Nat) ⊕ Nat} {c : va_E} (h : zsh[o]? = some sh) (hc : zE dA ad M' o sh = c) (ho : ∀ q sh, q ≠ o → zE dA ad M' q sh = zE dA ad M q sh) : (zw dA ad M).set o (ad o, c) = zw dA ad M' := by
  apply List.ext_getElem?
  intro q
  rw [List.getElem?_set]
  by_cases hq : o = q
  · subst hq
    have hlt : o < (zw dA ad M).length := by
      unfold zw; rw [List.length_mapIdx]; exact (List.getElem?_eq_some_iff.mp h).1
    rw [if_pos rfl, if_pos hlt, zw_at h, hc]
  · rw [if_neg hq]
    unfold zw
    rw [List.getElem?_mapIdx, List.getElem?_mapIdx]
    cases zsh[q]? with
    | none => rfl
    | some sh' => simp only [Option.map_some]; rw [ho q sh' (Ne.symm hq)]
theorem zE_I {dA : Nat → ClassId} {ad : Nat → Nat} {M : zM} {o k : Nat} {x : Int32} (q : Nat) (sh : (Nat × Nat) ⊕ Nat) (h : q ≠ o) : zE dA ad (zI M o k x) q sh = zE dA ad M q sh := by
  cases sh <;> simp [zE, zI, h]
theorem zE_P {dA : Nat → ClassId} {ad : Nat → Nat} {M : zM} {o k x : Nat} (q : Nat) (sh : (Nat × Nat) ⊕ Nat) (h : q ≠ o) : zE dA ad (zP M o k x) q sh = zE dA ad M q sh := by
  cases sh <;> simp [zE, zP, h]
theorem zE_C {dA : Nat → ClassId} {ad : Nat → Nat} {M : zM} {o o' sp dp n : Nat} (q : Nat) (sh : (Nat × Nat) ⊕ Nat) (h : q ≠ o') : zE dA ad (zCp M o o' sp dp n) q sh = zE dA ad M q sh := by
  cases sh <;> simp [zE, zCp, h]
theorem zw_I {dA : Nat → ClassId} {ad : Nat → Nat} {M : zM} {o t n k : Nat} {x : Int32} (h : zsh[o]? = some (.inl (t, n))) (ht : t ≠ 3) : (zw dA ad M).set o (ad o, .inl (dA t, n, .inl (upd (M.1 o) k x))) = zw dA ad (zI M o k x) :=
  zw_set h (by simp [zE, zI, ht]) (fun q sh hq => zE_I q sh hq)
theorem zw_C {dA : Nat → ClassId} {ad : Nat → Nat} {M : zM} {o o' t n sp dp k : Nat} (h : zsh[o']? = some (.inl (t, n))) (ht : t ≠ 3) : (zw dA ad M).set o' (ad o', .inl (dA t, n, .inl (va_cpy (M.1 o) (M.1 o') sp dp k))) = zw dA ad (zCp M o o' sp dp k) :=
  zw_set h (by simp [zE, zCp, ht]) (fun q sh hq => zE_C q sh hq)
theorem zw_FI {dA : Nat → ClassId} {ad : Nat → Nat} {M : zM} {o ci k : Nat} {x : Int32} {fs : List Value} (h : zsh[o]? = some (.inr ci)) (hk : (zrf ci)[k]? = some false) (hf : zE dA ad M o (.inr ci) = .inr (ci, fs)) : (zw dA ad M).set o (ad o, .inr (ci, fs.set k (.int x))) = zw dA ad (zI M o k x) := by
  refine zw_set h ?_ (fun q sh hq => zE_I q sh hq)
  simp only [zE, Sum.inr.injEq, Prod.mk.injEq, true_and] at hf ⊢
  subst hf
  apply List.ext_getElem?
  intro i
  rw [List.getElem?_set]
  by_cases hi : k = i
  · subst hi
    have hlt := (List.getElem?_eq_some_iff.mp hk).1
    have hg : (zrf ci)[k] = false := (List.getElem?_eq_some_iff.mp hk).2
    simp [zI, List.getElem?_range, hlt, hk, hg, upd, List.getD_eq_getElem?_getD]
  · rw [if_neg hi]
    simp only [List.getElem?_map]
    by_cases hr : i < (zrf ci).length
    · rw [List.getElem?_range hr]
      simp only [Option.map_some, zI, if_true, upd]
      rw [if_neg (Ne.symm hi)]
    · rw [List.getElem?_eq_none (by simpa using hr)]; rfl
theorem zw_FP {dA : Nat → ClassId} {ad : Nat → Nat} {M : zM} {o ci k x : Nat} {fs : List Value} (h : zsh[o]? = some (.inr ci)) (hk : (zrf ci)[k]? = some true) (hf : zE dA ad M o (.inr ci) = .inr (ci, fs)) : (zw dA ad M).set o (ad o, .inr (ci, fs.set k (.ref (ad x)))) = zw dA ad (zP M o k x) := by
  refine zw_set h ?_ (fun q sh hq => zE_P q sh hq)
  simp only [zE, Sum.inr.injEq, Prod.mk.injEq, true_and] at hf ⊢
  subst hf
  apply List.ext_getElem?
  intro i
  rw [List.getElem?_set]
  by_cases hi : k = i
  · subst hi
    have hlt := (List.getElem?_eq_some_iff.mp hk).1
    have hg : (zrf ci)[k] = true := (List.getElem?_eq_some_iff.mp hk).2
    simp [zP, List.getElem?_range, hlt, hk, hg, List.getD_eq_getElem?_getD]
  · rw [if_neg hi]
    simp only [List.getElem?_map]
    by_cases hr : i < (zrf ci).length
    · rw [List.getElem?_range hr]
      simp only [Option.map_some, zP, true_and]
      rw [if_neg (Ne.symm hi)]
    · rw [List.getElem?_eq_none (by simpa using hr)]; rfl
theorem zE_J {dA : Nat → ClassId} {ad : Nat → Nat} {M : zM} {x : Int64} (q : Nat) (sh : (Nat × Nat) ⊕ Nat) (h : ∀ n, sh ≠ .inl (3, n)) : zE dA ad (zJ M x) q sh = zE dA ad M q sh := by
  rcases sh with ⟨t, n⟩ | ci
  · have ht : t ≠ 3 := fun ht => h n (by rw [ht])
    simp [zE, zJ, ht]
  · simp [zE, zJ]
theorem zw_J {dA : Nat → ClassId} {ad : Nat → Nat} {M : zM} {o : Nat} {x : Int64} (h : zsh[o]? = some (.inl (3, 1))) (ho : ∀ q n, zsh[q]? = some (.inl (3, n)) → q = o) : (zw dA ad M).set o (ad o, .inl (dA 3, 1, .inr (.inl (vp_updL (fun j => if j = 0 then M.2.2 else 0) 0 x)))) = zw dA ad (zJ M x) := by
  apply List.ext_getElem?
  intro q
  rw [List.getElem?_set]
  by_cases hq : o = q
  · subst hq
    have hlt : o < (zw dA ad M).length := by
      unfold zw; rw [List.length_mapIdx]; exact (List.getElem?_eq_some_iff.mp h).1
    rw [if_pos rfl, if_pos hlt, zw_at h]
    congr 2
    simp only [zE, zJ, if_true]
    have hf : vp_updL (fun j => if j = 0 then M.2.2 else 0) 0 x = fun j => if j = 0 then x else 0 := by
      funext j
      unfold vp_updL
      split
      · rfl
      · rename_i hj; exact if_neg hj
    rw [hf]
  · rw [if_neg hq]
    unfold zw
    rw [List.getElem?_mapIdx, List.getElem?_mapIdx]
    cases hs : zsh[q]? with
    | none => rfl
    | some sh' => simp only [Option.map_some]; rw [zE_J q sh' (fun n hn => hq (ho q n (hn ▸ hs)).symm)]
/- locals -/
def zlf (ad : Nat → Nat) (L : Nat → Value) (i : Nat) : Option (Nat × Value) := match L i with
  | .int x => some (i, .int x)
  | .ref x => some (i, .ref (ad x))
  | _ => none
def zlv (ad : Nat → Nat) (n : Nat) (L : Nat → Value) : List (Nat × Value) := (List.range n).filterMap (zlf ad L)
def zl (ad : Nat → Nat) (ls : Array Slot) (n : Nat) (L : Nat → Value) : Prop := lv_has ls n (zlv ad n L) ∧ ∀ i, n ≤ i → L i = .null
theorem zlv_int {ad : Nat → Nat} {n i : Nat} {L : Nat → Value} {x : Int32} (hi : i < n) (h : L i = .int x) : (i, Value.int x) ∈ zlv ad n L :=
  List.mem_filterMap.mpr ⟨i, List.mem_range.mpr hi, by simp [zlf, h]⟩
theorem zlv_ref {ad : Nat → Nat} {n i : Nat} {L : Nat → Value} {x : Nat} (hi : i < n) (h : L i = .ref x) : (i, Value.ref (ad x)) ∈ zlv ad n L :=
  List.mem_filterMap.mpr ⟨i, List.mem_range.mpr hi, by simp [zlf, h]⟩
theorem zlv_mem {ad : Nat → Nat} {n : Nat} {L : Nat → Value} {q : Nat × Value} (h : q ∈ zlv ad n L) : q.1 < n ∧ zlf ad L q.1 = some q ∧ q.2.category = 1 := by
  obtain ⟨i, hi, hq⟩ := List.mem_filterMap.mp h
  have hq2 := hq
  unfold zlf at hq
  split at hq <;> simp at hq <;> subst hq <;> exact ⟨List.mem_range.mp hi, hq2, rfl⟩
theorem zl_lt {ad : Nat → Nat} {ls : Array Slot} {n i : Nat} {L : Nat → Value} (h : zl ad ls n L) (hi : L i ≠ .null) : i < n :=
  Nat.lt_of_not_le (fun hn => hi (h.2 i hn))
theorem zl_int {ad : Nat → Nat} {ls : Array Slot} {n i : Nat} {L : Nat → Value} {x : Int32} (h : zl ad ls n L) (hL : L i = .int x) : ls[i]? = some (.val (.int x)) :=
  h.1.2.2 _ (zlv_int (zl_lt h (by rw [hL]; intro hh; cases hh)) hL)
theorem zl_ref {ad : Nat → Nat} {ls : Array Slot} {n i : Nat} {L : Nat → Value} {x : Nat} (h : zl ad ls n L) (hL : L i = .ref x) : ls[i]? = some (.val (.ref (ad x))) :=
  h.1.2.2 _ (zlv_ref (zl_lt h (by rw [hL]; intro hh; cases hh)) hL)
theorem zu_same (L : Nat → Value) (k : Nat) (v : Value) : zu L k v k = v := by simp [zu]
theorem zu_ne {L : Nat → Value} {k i : Nat} {v : Value} (h : i ≠ k) : zu L k v i = L i := by
  have hb : Nat.beq i k = false := by
    cases hc : Nat.beq i k with
    | false => rfl
    | true => exact absurd (Nat.eq_of_beq_eq_true hc) h
  unfold zu; rw [hb]; rfl
theorem zl_set {ad : Nat → Nat} {ls ls' : Array Slot} {n i : Nat} {L : Nat → Value} {v w : Value} (h : zl ad ls n L) (hi : i < n) (hv : zlf ad (zu L i v) i = some (i, w)) (h' : lv_has ls' n ((i, w) :: (zlv ad n L).filter (fun q => !(q.1 == i) && !(q.1 + 1 == i && q.2.category == 2)))) : zl ad ls' n (zu L i v) := by
  refine ⟨⟨h'.1, h'.2.1, fun q hq => ?_⟩, fun j hj => ?_⟩
  · obtain ⟨h1, h2, h3⟩ := zlv_mem hq
    apply h'.2.2
    by_cases hqi : q.1 = i
    · rw [hqi] at h2; rw [hv] at h2; cases h2; exact List.mem_cons_self
    · apply List.mem_cons_of_mem
      refine List.mem_filter.mpr ⟨List.mem_filterMap.mpr ⟨q.1, List.mem_range.mpr h1, ?_⟩, ?_⟩
      · rw [← h2]; unfold zlf; rw [zu_ne hqi]
      · rw [h3]; simp [hqi]
  · rw [zu_ne (by omega)]; exact h.2 j hj
theorem lv_args_mem : ∀ (vs : List Value) (i0 : Nat), (∀ v ∈ vs, v.category = 1) → ∀ (i : Nat) (v : Value), vs[i]? = some v → (i0 + i, v) ∈ lv_args i0 vs
  | [], _, _, i, v, h => by simp at h
  | a :: vs, i0, hc, i, v, h => by
    have ha := hc a List.mem_cons_self
    unfold lv_args
    rw [if_neg (by rw [ha]; decide)]
    cases i with
    | zero => simp at h; subst h; exact List.mem_cons_self
    | succ i =>
      apply List.mem_cons_of_mem
      have := lv_args_mem vs (i0 + 1) (fun v hv => hc v (List.mem_cons_of_mem _ hv)) i v (by simpa using h)
      rw [show i0 + (i + 1) = i0 + 1 + i by omega]; exact this
theorem lg_sl_len : ∀ (vs : List Value), (∀ v ∈ vs, v.category = 1) → (lg_sl vs).length = vs.length
  | [], _ => rfl
  | a :: vs, hc => by
    have ha := hc a List.mem_cons_self
    have := lg_sl_len vs (fun v hv => hc v (List.mem_cons_of_mem _ hv))
    unfold lg_sl at this ⊢
    rw [List.flatMap_cons, List.length_append, this, if_neg (by rw [ha]; decide)]
    simp; omega
theorem zl_entry {ad : Nat → Nat} {n : Nat} (As : List Value) (hc : ∀ v ∈ As, v.category = 1) (hn : As.length ≤ n) : zl ad ((lg_sl (As.map (zv ad)) ++ List.replicate (n - (lg_sl (As.map (zv ad))).length) Slot.unset).toArray) n (zarg As) := by
  have hc' : ∀ v ∈ As.map (zv ad), v.category = 1 := by
    intro v hv
    obtain ⟨w, hw, rfl⟩ := List.mem_map.mp hv
    rw [zv_cat]; exact hc w hw
  have h := lv_entry (As.map (zv ad)) (n := n) (by rw [lg_sl_len _ hc']; simpa using hn)
  refine ⟨⟨h.1, h.2.1, fun q hq => ?_⟩, fun i hi => ?_⟩
  · obtain ⟨h1, h2, h3⟩ := zlv_mem hq
    apply h.2.2
    have : (0 + q.1, q.2) ∈ lv_args 0 (As.map (zv ad)) := by
      apply lv_args_mem _ _ hc'
      rw [List.getElem?_map]
      unfold zlf zarg at h2
      rw [List.getD_eq_getElem?_getD] at h2
      cases hA : As[q.1]? with
      | none => rw [hA] at h2; simp at h2
      | some v =>
        rw [hA] at h2
        cases v <;> simp at h2 <;> (rw [← h2]; rfl)
    simpa using this
  · unfold zarg
    rw [List.getD_eq_getElem?_getD, List.getElem?_eq_none (by omega)]; rfl
end
section
def zA (B0 : Nat) : Nat → Prop := fun q => B0 ≤ q
def zEnv (ad : Nat → Nat) (B0 Lx : Nat) (xs : Nat → Int32) (s : State) (H : Heap) : Prop := B0 ≤ H.size ∧ ad 1000 < B0 ∧ va_X (ad 1000) Lx xs s H ∧ vk_S 1 [zsn] [zsb] (fun _ => ad 1001) (fun _ => ad 1002) (zA B0) s H ∧ vk_R zso zsi zstx (ad 1001) s ∧ va_Z "java/lang/String" "COMPACT_STRINGS" "Z" (.int 1) (zA B0) s H
def zCtx (ad : Nat → Nat) (B0 Lx : Nat) (xs : Nat → Int32) (d : Nat) (y : zY) (p : Program) (s : State) (m : MethodId) (args : Array Value) (c : Code) (R : Room) (cells slots : Nat) : Prop := p.tables.exec = Jvm.exec ∧ c.code = y.2.1 ∧ c.maxLocals = y.2.2.1 ∧ s.vm.findClass y.1.cls = some m.cls ∧ (∀ w ∈ zT, w.before args s = true) ∧ (d ≤ R.frames ∧ 64 * d ≤ R.locals ∧ cells ≤ R.cells ∧ slots ≤ R.slots) ∧ zEnv ad B0 Lx xs s s.heap
def zWd (dC : Nat → ClassId) (dI : Nat → Nat → Nat) (dA : Nat → ClassId) (ad : Nat → Nat) (B0 : Nat) (s : State) (H : Heap) (M : zM) (locs : List Loc) : Prop := va_K (dC, dI) zcl (ztys dA) s ∧ va_P (dC, dI) zcl (zw dA ad M) H ∧ va_D (zA B0) (zw dA ad M) ∧ va_S (zA B0) s.heap H locs
def WX (l : Launch) (dC : Nat → ClassId) (dI : Nat → Nat → Nat) (dA : Nat → ClassId) (ad : Nat → Nat) (B0 Lx : Nat) (xs : Nat → Int32) : zX := fun d y pc L st M Q => ∀ (p : Program) (e : Env) (s : State) (m : MethodId) (args : Array Value) (below : List Frame) (meth : Method) (c : Code) (R : Room) (H : Heap) (locs : List Loc) (cells slots : Nat) (Q' : State → Prop) (ls : Array Slot), zCtx ad B0 Lx xs d y p s m args c R cells slots → zl ad ls y.2.2.1 L → zWd dC dI dA ad B0 s H M locs → (∀ (pc' : Nat) (L' : Nat → Value) (st' : List Value) (M' : zM) (H' : Heap) (locs' : List Loc) (ls' : Array Slot), Q pc' L' st' M' → zl ad ls' y.2.2.1 L' → zWd dC dI dA ad B0 s H' M' locs' → W p l e R s m args below meth c H' locs' cells slots Q' (F0 m pc' ls' (st'.map (zv ad)))) → W p l e R s m args below meth c H locs cells slots Q' (F0 m pc ls (st.map (zv ad)))
theorem zEnv.next {ad : Nat → Nat} {B0 Lx : Nat} {xs : Nat → Int32} {s U : State} {H : Heap} {locs : List Loc} (h : zEnv ad B0 Lx xs s s.heap) (hS : va_S (zA B0) s.heap H locs) (hU : U.heap = H) (hW : s.WarmedH U.vm) : zEnv ad B0 Lx xs U U.heap := by
  obtain ⟨h1, h2, h3, h4, h5, h6⟩ := h
  subst hU
  have hk : ∀ a : Nat, a < s.heap.size → ¬ zA B0 a → U.heap[a]? = s.heap[a]? := fun a ha hn => hS.2.1 a ha hn
  exact ⟨Nat.le_trans h1 hS.1, h2, va_X.moved hW.alike (h3.kept (hk _ (Nat.lt_of_lt_of_le h2 h1) (Nat.not_le_of_lt h2))), vk_S.moved hW.alike (h4.kept hk), vk_R.warm hW h5, va_Z.moved hW.alike (h6.kept hk)⟩
section
variable {l : Launch} {dC : Nat → ClassId} {dI : Nat → Nat → Nat} {dA : Nat → ClassId} {ad : Nat → Nat} {B0 Lx : Nat} {xs : Nat → Int32}
theorem sn_done : zr_done (WX l dC dI dA ad B0 Lx xs) := by
  intro d y pc L st M Q h p e s m args below meth c R H locs cells slots Q' ls C hl hw hq
  exact hq _ _ _ _ _ _ _ h hl hw
theorem sn_const : zr_const (WX l dC dI dA ad B0 Lx xs) := by
  intro d y pc L st M Q ins len v hd hc hk p e s m args below meth c R H locs cells slots Q' ls C hl hw hq
  have hk := hk p e s m args below meth c R H locs cells slots Q' ls C hl hw hq
  unfold zconst at hc
  split at hc
  · cases hc; exact lv_iconst C.1 C.2.1 hd rfl hk
  · cases hc; exact lv_bipush C.1 C.2.1 hd rfl hk
  · cases hc; exact lv_sipush C.1 C.2.1 hd rfl hk
  · cases hc
theorem sn_il : zr_il (WX l dC dI dA ad B0 Lx xs) := by
  intro d y pc L st M Q ins len i x hd hc hL hk p e s m args below meth c R H locs cells slots Q' ls C hl hw hq
  have hk := hk p e s m args below meth c R H locs cells slots Q' ls C hl hw hq
  unfold zil at hc
  split at hc
  · cases hc; exact lv_iload_n C.1 C.2.1 hd rfl (zl_int hl hL) hk
  · cases hc; exact lv_iload C.1 C.2.1 hd (zl_int hl hL) hk
  · cases hc
theorem sn_al : zr_al (WX l dC dI dA ad B0 Lx xs) := by
  intro d y pc L st M Q ins len i x hd hc hL hk p e s m args below meth c R H locs cells slots Q' ls C hl hw hq
  have hk := hk p e s m args below meth c R H locs cells slots Q' ls C hl hw hq
  unfold zal at hc
  split at hc
  · cases hc; exact lv_aload_n C.1 C.2.1 hd rfl (zl_ref hl hL) hk
  · cases hc; exact lv_aload C.1 C.2.1 hd (zl_ref hl hL) hk
  · cases hc
theorem sn_is : zr_is (WX l dC dI dA ad B0 Lx xs) := by
  intro d y pc L st M Q ins len i x hd hc hi hk p e s m args below meth c R H locs cells slots Q' ls C hl hw hq
  have hk := fun ls' h' => hk p e s m args below meth c R H locs cells slots Q' ls' C h' hw hq
  unfold zis at hc
  split at hc
  · cases hc; exact lv_istore_n C.1 C.2.1 hd rfl hl.1 hi rfl (fun ls' h' => hk ls' (zl_set hl hi (by simp [zlf, zu_same]) h'))
  · cases hc; exact lv_istore C.1 C.2.1 hd hl.1 hi rfl (fun ls' h' => hk ls' (zl_set hl hi (by simp [zlf, zu_same]) h'))
  · cases hc
theorem sn_as : zr_as (WX l dC dI dA ad B0 Lx xs) := by
  intro d y pc L st M Q ins len i x hd hc hi hk p e s m args below meth c R H locs cells slots Q' ls C hl hw hq
  have hk := fun ls' h' => hk p e s m args below meth c R H locs cells slots Q' ls' C h' hw hq
  unfold zas at hc
  split at hc
  · cases hc; exact lv_astore_n C.1 C.2.1 hd rfl hl.1 hi rfl (fun ls' h' => hk ls' (zl_set hl hi (by simp [zlf, zu_same]) h'))
  · cases hc; exact lv_astore C.1 C.2.1 hd hl.1 hi rfl (fun ls' h' => hk ls' (zl_set hl hi (by simp [zlf, zu_same]) h'))
  · cases hc
theorem sn_inc : zr_inc (WX l dC dI dA ad B0 Lx xs) := by
  intro d y pc L st M Q i n x hd hL hk p e s m args below meth c R H locs cells slots Q' ls C hl hw hq
  have hk := fun ls' h' => hk p e s m args below meth c R H locs cells slots Q' ls' C h' hw hq
  have hi : i < y.2.2.1 := zl_lt hl (by rw [hL]; intro hh; cases hh)
  obtain ⟨k, hkk⟩ := List.mem_iff_getElem?.mp (zlv_int (ad := ad) hi hL)
  exact lv_iinc C.1 C.2.1 hd hl.1 hkk rfl hi rfl (fun ls' h' => hk ls' (zl_set hl hi (by simp [zlf, zu_same]) h'))
theorem sn_bin : zr_bin (WX l dC dI dA ad B0 Lx xs) := by
  intro d y pc L st M Q ins a b v hd hc hk p e s m args below meth c R H locs cells slots Q' ls C hl hw hq
  have hk := hk p e s m args below meth c R H locs cells slots Q' ls C hl hw hq
  unfold zbin at hc
  split at hc
  · cases hc; exact lv_iadd C.1 C.2.1 hd hk
  · cases hc; exact lv_isub C.1 C.2.1 hd hk
  · cases hc; exact lv_imul C.1 C.2.1 hd hk
  · cases hc; exact lv_iand C.1 C.2.1 hd hk
  · cases hc; exact lv_ishr C.1 C.2.1 hd hk
  · split at hc
    · cases hc
    · rename_i hne; cases hc; exact lv_idiv C.1 C.2.1 hd hne hk
  · split at hc
    · cases hc
    · rename_i hne; cases hc; exact lv_irem C.1 C.2.1 hd hne hk
  · cases hc
theorem sn_un : zr_un (WX l dC dI dA ad B0 Lx xs) := by
  intro d y pc L st M Q ins a v hd hc hk p e s m args below meth c R H locs cells slots Q' ls C hl hw hq
  have hk := hk p e s m args below meth c R H locs cells slots Q' ls C hl hw hq
  unfold zun at hc
  split at hc
  · cases hc; exact lv_ineg C.1 C.2.1 hd hk
  · cases hc; exact lv_i2c C.1 C.2.1 hd rfl hk
  · cases hc; exact lv_i2b C.1 C.2.1 hd rfl hk
  · cases hc
theorem sn_stk : zr_stk (WX l dC dI dA ad B0 Lx xs) := by
  intro d y pc L st st' M Q ins hd hc hk p e s m args below meth c R H locs cells slots Q' ls C hl hw hq
  have hk := hk p e s m args below meth c R H locs cells slots Q' ls C hl hw hq
  unfold zstk at hc
  split at hc
  · split at hc
    · rename_i h1; cases hc; exact lv_dup C.1 C.2.1 hd ((zv_cat _ _).trans h1) hk
    · cases hc
  · split at hc
    · rename_i h1; cases hc; exact lv_pop C.1 C.2.1 hd ((zv_cat _ _).trans h1) hk
    · cases hc
  · split at hc
    · rename_i h1; cases hc; exact lv_dup_x1 C.1 C.2.1 hd ((zv_cat _ _).trans h1.1) ((zv_cat _ _).trans h1.2) hk
    · cases hc
  · split at hc
    · rename_i h1; cases hc; exact lv_dup_x2 C.1 C.2.1 hd ((zv_cat _ _).trans h1.1) ((zv_cat _ _).trans h1.2.1) ((zv_cat _ _).trans h1.2.2) hk
    · cases hc
  · split at hc
    · rename_i h1; cases hc; exact lv_dup2_11 C.1 C.2.1 hd ((zv_cat _ _).trans h1.1) ((zv_cat _ _).trans h1.2) hk
    · cases hc
  · cases hc
theorem sn_icmp : zr_icmp (WX l dC dI dA ad B0 Lx xs) := by
  intro d y pc L st M Q op off tgt a b hd ht kt kf p e s m args below meth c R H locs cells slots Q' ls C hl hw hq
  have kt := fun h => kt h p e s m args below meth c R H locs cells slots Q' ls C hl hw hq
  have kf := fun h => kf h p e s m args below meth c R H locs cells slots Q' ls C hl hw hq
  cases op
  · exact lv_icmp_eq C.1 C.2.1 hd ht kt kf
  · exact lv_icmp_ne C.1 C.2.1 hd ht kt (fun h => kf (fun hn => hn h))
  · exact lv_icmp_lt C.1 C.2.1 hd ht kt kf
  · exact lv_icmp_ge C.1 C.2.1 hd ht kt kf
  · exact lv_icmp_gt C.1 C.2.1 hd ht kt kf
  · exact lv_icmp_le C.1 C.2.1 hd ht kt kf
theorem sn_if : zr_if (WX l dC dI dA ad B0 Lx xs) := by
  intro d y pc L st M Q op off tgt a hd ht kt kf p e s m args below meth c R H locs cells slots Q' ls C hl hw hq
  have kt := fun h => kt h p e s m args below meth c R H locs cells slots Q' ls C hl hw hq
  have kf := fun h => kf h p e s m args below meth c R H locs cells slots Q' ls C hl hw hq
  cases op
  · exact lv_if_eq C.1 C.2.1 hd ht kt kf
  · exact lv_if_ne C.1 C.2.1 hd ht kt (fun h => kf (fun hn => hn h))
  · exact lv_if_lt C.1 C.2.1 hd ht kt kf
  · exact lv_if_ge C.1 C.2.1 hd ht kt kf
  · exact lv_if_gt C.1 C.2.1 hd ht kt kf
  · exact lv_if_le C.1 C.2.1 hd ht kt kf
theorem sn_goto : zr_goto (WX l dC dI dA ad B0 Lx xs) := by
  intro d y pc L st M Q off tgt hd ht hk p e s m args below meth c R H locs cells slots Q' ls C hl hw hq
  exact lv_goto C.1 C.2.1 hd ht (hk p e s m args below meth c R H locs cells slots Q' ls C hl hw hq)
theorem sn_tin : zr_tin (WX l dC dI dA ad B0 Lx xs) := by
  intro d y pc L st M Q dflt lo hi offs len off tgt a hd h1 h2 ho ht hk p e s m args below meth c R H locs cells slots Q' ls C hl hw hq
  exact lv_tableIn C.1 C.2.1 hd h1 h2 ho ht (hk p e s m args below meth c R H locs cells slots Q' ls C hl hw hq)
theorem sn_tout : zr_tout (WX l dC dI dA ad B0 Lx xs) := by
  intro d y pc L st M Q dflt lo hi offs len tgt a hd h1 ht hk p e s m args below meth c R H locs cells slots Q' ls C hl hw hq
  exact lv_tableOut C.1 C.2.1 hd h1 ht (hk p e s m args below meth c R H locs cells slots Q' ls C hl hw hq)
theorem zfs_get {M : zM} {o ci k : Nat} {r : Bool} (hr : (zrf ci)[k]? = some r) : ((List.range (zrf ci).length).map (fun k => if (zrf ci).getD k false = true then Value.ref (ad (M.2.1 o k)) else .int (M.1 o k)))[k]? = some (if r = true then Value.ref (ad (M.2.1 o k)) else .int (M.1 o k)) := by
  have hlt := (List.getElem?_eq_some_iff.mp hr).1
  rw [List.getElem?_map, List.getElem?_range hlt]
  simp only [Option.map_some, List.getD_eq_getElem?_getD, hr, Option.getD_some]
theorem sn_geti : zr_geti (WX l dC dI dA ad B0 Lx xs) := by
  intro d y pc L st M Q idx o ci k hd hf ho hk p e s m args below meth c R H locs cells slots Q' ls C hl hw hq
  have hk := hk p e s m args below meth c R H locs cells slots Q' ls C hl hw hq
  obtain ⟨Cn, T, N, hc, hkN, hlk, hr⟩ := hf
  exact va_get C.1 C.2.1 C.2.2.2.2.1 (zcl_in hc) C.2.2.2.1 hw.1 hw.2.1 o (zw_at ho) hc k hkN (C.2.2.2.2.1 _ hlk) (fun _ h => h) (zfs_get hr) hd hk
theorem sn_getr : zr_getr (WX l dC dI dA ad B0 Lx xs) := by
  intro d y pc L st M Q idx o ci k hd hf ho hk p e s m args below meth c R H locs cells slots Q' ls C hl hw hq
  have hk := hk p e s m args below meth c R H locs cells slots Q' ls C hl hw hq
  obtain ⟨Cn, T, N, hc, hkN, hlk, hr⟩ := hf
  exact va_get C.1 C.2.1 C.2.2.2.2.1 (zcl_in hc) C.2.2.2.1 hw.1 hw.2.1 o (zw_at ho) hc k hkN (C.2.2.2.2.1 _ hlk) (fun _ h => h) (zfs_get hr) hd hk
theorem sn_puti : zr_puti (WX l dC dI dA ad B0 Lx xs) := by
  intro d y pc L st M Q idx o ci k x ty hd hf hfw ho hn hfi hk p e s m args below meth c R H locs cells slots Q' ls C hl hw hq
  have hk := fun H' locs' hw' => hk p e s m args below meth c R H' locs' cells slots Q' ls C hl hw' hq
  obtain ⟨Cn, T, N, hc, hkN, hlk, hr⟩ := hf
  obtain ⟨Cn', T', N', hc', hfin, hty⟩ := hfw
  rw [hc] at hc'; cases hc'
  obtain ⟨ty0, hty0, hnm⟩ := zcl_ty hc
  have hlt := (List.getElem?_eq_some_iff.mp hr).1
  refine va_put (v := .int x) C.1 C.2.1 C.2.2.2.2.1 (zcl_in hc) ty0 hty0 hnm C.2.2.2.1 hw.1 hw.2.1 hw.2.2.1 hw.2.2.2 o (zw_at ho) hc k hkN (C.2.2.2.2.1 _ hlk) (fun _ h => h) hfin hty hn hfi (by simpa using hlt) hd (fun H1 locs1 hP1 hD1 hS1 => hk H1 locs1 ?_)
  rw [zw_FI ho hr rfl] at hP1 hD1
  exact ⟨hw.1, hP1, hD1, hS1⟩
theorem sn_putr : zr_putr (WX l dC dI dA ad B0 Lx xs) := by
  intro d y pc L st M Q idx o ci k x Co hd hf hfw ho hk p e s m args below meth c R H locs cells slots Q' ls C hl hw hq
  have hk := fun H' locs' hw' => hk p e s m args below meth c R H' locs' cells slots Q' ls C hl hw' hq
  obtain ⟨Cn, T, N, hc, hkN, hlk, hr⟩ := hf
  obtain ⟨Cn', T', N', hc', hfin, hty⟩ := hfw
  rw [hc] at hc'; cases hc'
  obtain ⟨ty0, hty0, hnm⟩ := zcl_ty hc
  have hlt := (List.getElem?_eq_some_iff.mp hr).1
  refine va_put (v := .ref (ad x)) C.1 C.2.1 C.2.2.2.2.1 (zcl_in hc) ty0 hty0 hnm C.2.2.2.1 hw.1 hw.2.1 hw.2.2.1 hw.2.2.2 o (zw_at ho) hc k hkN (C.2.2.2.2.1 _ hlk) (fun _ h => h) hfin hty rfl rfl (by simpa using hlt) hd (fun H1 locs1 hP1 hD1 hS1 => hk H1 locs1 ?_)
  rw [zw_FP ho hr rfl] at hP1 hD1
  exact ⟨hw.1, hP1, hD1, hS1⟩
theorem zE_arr {M : zM} {o t n : Nat} (h : zsh[o]? = some (.inl (t, n))) (ht : t ≠ 3) : (zw dA ad M)[o]? = some (ad o, .inl (dA t, n, .inl (M.1 o))) := by
  rw [zw_at h]; simp [zE, ht]
theorem sn_ald : zr_ald (WX l dC dI dA ad B0 Lx xs) := by
  intro d y pc L st M Q ins t o n i hd hc ho hin hk p e s m args below meth c R H locs cells slots Q' ls C hl hw hq
  have hk := hk p e s m args below meth c R H locs cells slots Q' ls C hl hw hq
  unfold zld at hc
  split at hc
  · cases hc; exact va_iald C.1 C.2.1 hw.1 hw.2.1 o 0 (zE_arr ho (by decide)) rfl hin hd hk
  · cases hc; exact va_cald C.1 C.2.1 hw.1 hw.2.1 o 1 (zE_arr ho (by decide)) rfl hin hd hk
  · cases hc; exact va_zald C.1 C.2.1 hw.1 hw.2.1 o 2 (zE_arr ho (by decide)) rfl hin hd hk
  · cases hc
theorem sn_ast : zr_ast (WX l dC dI dA ad B0 Lx xs) := by
  intro d y pc L st M Q ins t o n i x hd hc ho hin hk p e s m args below meth c R H locs cells slots Q' ls C hl hw hq
  have hk := fun H' locs' hw' => hk p e s m args below meth c R H' locs' cells slots Q' ls C hl hw' hq
  unfold zst at hc
  split at hc
  · cases hc
    refine va_iast C.1 C.2.1 hw.1 hw.2.1 hw.2.2.1 hw.2.2.2 o 0 (zE_arr ho (by decide)) rfl hin hd (fun H1 locs1 hP1 hD1 hS1 => hk H1 locs1 ?_)
    rw [zw_I ho (by decide)] at hP1 hD1
    exact ⟨hw.1, hP1, hD1, hS1⟩
  · cases hc
    refine va_cast C.1 C.2.1 hw.1 hw.2.1 hw.2.2.1 hw.2.2.2 o 1 (zE_arr ho (by decide)) rfl hin hd (fun H1 locs1 hP1 hD1 hS1 => hk H1 locs1 ?_)
    rw [zw_I ho (by decide)] at hP1 hD1
    exact ⟨hw.1, hP1, hD1, hS1⟩
  · cases hc
    refine va_zast C.1 C.2.1 hw.1 hw.2.1 hw.2.2.1 hw.2.2.2 o 2 (zE_arr ho (by decide)) rfl hin hd (fun H1 locs1 hP1 hD1 hS1 => hk H1 locs1 ?_)
    rw [zw_I ho (by decide)] at hP1 hD1
    exact ⟨hw.1, hP1, hD1, hS1⟩
  · cases hc
theorem sn_alen : zr_alen (WX l dC dI dA ad B0 Lx xs) := by
  intro d y pc L st M Q t o n hd ho hk p e s m args below meth c R H locs cells slots Q' ls C hl hw hq
  have hk := hk p e s m args below meth c R H locs cells slots Q' ls C hl hw hq
  have ht := zsh_t ho
  have hty : (ztys dA)[t]? = some (dA t, ztt t) := by
    rcases (show t = 0 ∨ t = 1 ∨ t = 2 ∨ t = 3 by omega) with rfl | rfl | rfl | rfl <;> rfl
  exact va_alen C.1 C.2.1 hw.1 hw.2.1 o t (zw_at ho) hty rfl hd hk
theorem zE_lng {M : zM} {o : Nat} (h : zsh[o]? = some (.inl (3, 1))) : (zw dA ad M)[o]? = some (ad o, .inl (dA 3, 1, .inr (.inl (fun j => if j = 0 then M.2.2 else 0)))) := by
  rw [zw_at h]; rfl
theorem zin1 {i : Int32} (h : vp_in i 1) : i.toNatClampNeg = 0 := by
  obtain ⟨j, hj, rfl⟩ := vp_in_of h (by decide)
  rw [nI_clamp (by omega)]; omega
theorem sn_lald : zr_lald (WX l dC dI dA ad B0 Lx xs) := by
  intro d y pc L st M Q o i hd ho hin hk p e s m args below meth c R H locs cells slots Q' ls C hl hw hq
  have hk := hk p e s m args below meth c R H locs cells slots Q' ls C hl hw hq
  have hi := zin1 hin
  refine va_lald C.1 C.2.1 hw.1 hw.2.1 o 3 (zE_lng ho) rfl hin hd ?_
  rw [hi]; exact hk
theorem sn_last : zr_last (WX l dC dI dA ad B0 Lx xs) := by
  intro d y pc L st M Q o i x hd ho hin hk p e s m args below meth c R H locs cells slots Q' ls C hl hw hq
  have hk := fun H' locs' hw' => hk p e s m args below meth c R H' locs' cells slots Q' ls C hl hw' hq
  have hi := zin1 hin
  refine va_last C.1 C.2.1 hw.1 hw.2.1 hw.2.2.1 hw.2.2.2 o 3 (zE_lng ho) rfl hin hd (fun H1 locs1 hP1 hD1 hS1 => hk H1 locs1 ?_)
  rw [hi, zw_J ho (fun q n hq => zsh_l hq ho)] at hP1 hD1
  exact ⟨hw.1, hP1, hD1, hS1⟩
theorem sn_i2l : zr_i2l (WX l dC dI dA ad B0 Lx xs) := by
  intro d y pc L st M Q x hd hk p e s m args below meth c R H locs cells slots Q' ls C hl hw hq
  exact lv_i2l C.1 C.2.1 hd rfl (hk p e s m args below meth c R H locs cells slots Q' ls C hl hw hq)
theorem sn_lcmp : zr_lcmp (WX l dC dI dA ad B0 Lx xs) := by
  intro d y pc L st M Q a b hd hk p e s m args below meth c R H locs cells slots Q' ls C hl hw hq
  exact W.lcmp C.1 C.2.1 hd (hk p e s m args below meth c R H locs cells slots Q' ls C hl hw hq)
theorem sn_sld : zr_sld (WX l dC dI dA ad B0 Lx xs) Lx xs := by
  intro d y pc L st M Q i hd hin hk p e s m args below meth c R H locs cells slots Q' ls C hl hw hq
  have hk := hk p e s m args below meth c R H locs cells slots Q' ls C hl hw hq
  obtain ⟨h1, h2, h3, -⟩ := C.2.2.2.2.2.2
  exact va_sld C.1 C.2.1 h3 (Nat.lt_of_lt_of_le h2 h1) (Nat.not_le_of_lt h2) hw.2.2.2 hin hd hk
theorem sn_slen : zr_slen (WX l dC dI dA ad B0 Lx xs) Lx := by
  intro d y pc L st M Q hd hk p e s m args below meth c R H locs cells slots Q' ls C hl hw hq
  have hk := hk p e s m args below meth c R H locs cells slots Q' ls C hl hw hq
  obtain ⟨h1, h2, h3, -⟩ := C.2.2.2.2.2.2
  exact va_slen C.1 C.2.1 h3 (Nat.lt_of_lt_of_le h2 h1) (Nat.not_le_of_lt h2) hw.2.2.2 hd hk
theorem sn_ldcS : zr_ldcS (WX l dC dI dA ad B0 Lx xs) := by
  intro d y pc L st M Q hd hy hk p e s m args below meth c R H locs cells slots Q' ls C hl hw hq
  have hk := hk p e s m args below meth c R H locs cells slots Q' ls C hl hw hq
  exact va_ldcS C.1 C.2.1 (hy ▸ C.2.2.2.1) C.2.2.2.2.2.2.2.2.2.2.1 hd hk
theorem sn_sval : zr_sval (WX l dC dI dA ad B0 Lx xs) := by
  intro d y pc L st M Q idx hd hlk hk p e s m args below meth c R H locs cells slots Q' ls C hl hw hq
  have hk := hk p e s m args below meth c R H locs cells slots Q' ls C hl hw hq
  obtain ⟨h1, h2, h3, h4, -⟩ := C.2.2.2.2.2.2
  exact vk_getf C.1 C.2.1 (h4.1 0 (by decide)).2.2.1 hw.2.2.2 C.2.2.2.1 (C.2.2.2.2.1 _ hlk) (fun _ h => h) hd hk
theorem sn_scod : zr_scod (WX l dC dI dA ad B0 Lx xs) := by
  intro d y pc L st M Q idx hd hlk hk p e s m args below meth c R H locs cells slots Q' ls C hl hw hq
  have hk := hk p e s m args below meth c R H locs cells slots Q' ls C hl hw hq
  obtain ⟨h1, h2, h3, h4, -⟩ := C.2.2.2.2.2.2
  exact vk_getf C.1 C.2.1 (h4.1 0 (by decide)).2.1 hw.2.2.2 C.2.2.2.1 (C.2.2.2.2.1 _ hlk) (fun _ h => h) hd hk
theorem sn_scmp : zr_scmp (WX l dC dI dA ad B0 Lx xs) := by
  intro d y pc L st M Q idx hd hlk hk p e s m args below meth c R H locs cells slots Q' ls C hl hw hq
  have hk := hk p e s m args below meth c R H locs cells slots Q' ls C hl hw hq
  obtain ⟨h1, h2, h3, h4, h5, h6⟩ := C.2.2.2.2.2.2
  exact va_gets C.1 C.2.1 h6 hw.2.2.2 C.2.2.2.1 (C.2.2.2.2.1 _ hlk) (fun _ h => h) hd hk
theorem sn_sbld : zr_sbld (WX l dC dI dA ad B0 Lx xs) := by
  intro d y pc L st M Q i hd hin hk p e s m args below meth c R H locs cells slots Q' ls C hl hw hq
  have hk := hk p e s m args below meth c R H locs cells slots Q' ls C hl hw hq
  obtain ⟨h1, h2, h3, h4, -⟩ := C.2.2.2.2.2.2
  exact va_tb C.1 C.2.1 (h4.1 0 (by decide)).2.2.2 hw.2.2.2 hin rfl hd hk
theorem sn_sblen : zr_sblen (WX l dC dI dA ad B0 Lx xs) := by
  intro d y pc L st M Q hd hk p e s m args below meth c R H locs cells slots Q' ls C hl hw hq
  have hk := hk p e s m args below meth c R H locs cells slots Q' ls C hl hw hq
  obtain ⟨h1, h2, h3, h4, -⟩ := C.2.2.2.2.2.2
  exact va_tlen C.1 C.2.1 (h4.1 0 (by decide)).2.2.2 hw.2.2.2 rfl hd hk
end
end
section
section
variable {l : Launch} {dC : Nat → ClassId} {dI : Nat → Nat → Nat} {dA : Nat → ClassId} {ad : Nat → Nat} {B0 Lx : Nat} {xs : Nat → Int32}
theorem sn_copy : zr_copy (WX l dC dI dA ad B0 Lx xs) := by
  intro d y pc L st M Q idx t o n o' n' sp dp k hd hlk ho ho' ht h4 h5 hfit hst hk p e s m args below meth c R H locs cells slots Q' ls C hl hw hq
  have hk := fun H' locs' hw' => hk p e s m args below meth c R H' locs' cells slots Q' ls C hl hw' hq
  obtain ⟨hx, hb, hml, hown, hts, ⟨hR1, hR2, -, -⟩, -⟩ := C
  have hbo := zsh_len ho
  have hbo' := zsh_len ho'
  have c1 : (nI sp).toNatClampNeg = sp := nI_clamp (by omega)
  have c2 : (nI dp).toNatClampNeg = dp := nI_clamp (by omega)
  have c3 : (nI k).toNatClampNeg = k := nI_clamp (by omega)
  have ht3 : t ≠ 3 := by rcases ht with rfl | rfl <;> decide
  have hty : (ztys dA)[t]? = some (dA t, ztt t) := by rcases ht with rfl | rfl <;> rfl
  refine va_copyi hx hb (hml.trans hl.1.1.symm) hown (hts _ hlk) (hts _ zcp_nat) (hts _ zcp_st) (hts _ zcp_ini) hw.1 hw.2.1 hw.2.2.1 hw.2.2.2 o o' t t (zE_arr ho ht3) (zE_arr ho' ht3) hty hty (by rcases ht with rfl | rfl <;> rfl) (nI_pos (by omega)) (nI_pos (by omega)) (nI_pos (by omega)) (by rw [c1, c3]; exact h4) (by rw [c2, c3]; exact h5) (by rw [c1, c3]; exact hfit) (by omega) ?_ hd (fun H1 locs1 hP1 hD1 hS1 => hk H1 locs1 ?_)
  · rw [zcat_map]
    have := zcp_words
    omega
  · rw [c1, c2, c3, zw_C ho' ht3] at hP1 hD1
    exact ⟨hw.1, hP1, hD1, hS1⟩
theorem sn_max : zr_max (WX l dC dI dA ad B0 Lx xs) := by
  intro d y pc L st M Q idx a b hd hlk hst hk p e s m args below meth c R H locs cells slots Q' ls C hl hw hq
  have hk := hk p e s m args below meth c R H locs cells slots Q' ls C hl hw hq
  obtain ⟨hx, hb, hml, hown, hts, ⟨hR1, hR2, hR3, hR4⟩, -⟩ := C
  refine va_mmax hx hb (hml.trans hl.1.1.symm) hown (hts _ hlk) (hts _ zmx_st) (hts _ zmx_ini) (hts _ zmx_co) (by omega) ?_ hR3 hR4 hd hk
  rw [zcat_map]; omega
theorem sn_min : zr_min (WX l dC dI dA ad B0 Lx xs) := by
  intro d y pc L st M Q idx a b hd hlk hst hk p e s m args below meth c R H locs cells slots Q' ls C hl hw hq
  have hk := hk p e s m args below meth c R H locs cells slots Q' ls C hl hw hq
  obtain ⟨hx, hb, hml, hown, hts, ⟨hR1, hR2, hR3, hR4⟩, -⟩ := C
  refine va_mmin hx hb (hml.trans hl.1.1.symm) hown (hts _ hlk) (hts _ zmn_st) (hts _ zmx_ini) (hts _ zmn_co) (by omega) ?_ hR3 hR4 hd hk
  rw [zcat_map]; omega
def zws (k : zY) : List Jvm.Cond := Jvm.Cond.code k.1 k.2.1 k.2.2.1 k.2.2.2 :: zT
def zPc (dC : Nat → ClassId) (dI : Nat → Nat → Nat) (dA : Nat → ClassId) (ad : Nat → Nat) (B0 Lx : Nat) (xs : Nat → Int32) (As : List Value) (M : zM) : Array Value → State → Prop := va_Pc (As.map (zv ad)) (fun U => zEnv ad B0 Lx xs U U.heap ∧ va_K (dC, dI) zcl (ztys dA) U ∧ va_P (dC, dI) zcl (zw dA ad M) U.heap ∧ va_D (zA B0) (zw dA ad M))
def zB (dC : Nat → ClassId) (dI : Nat → Nat → Nat) (dA : Nat → ClassId) (ad : Nat → Nat) (B0 : Nat) (u : zM) (t : State) : Prop := va_P (dC, dI) zcl (zw dA ad u) t.heap ∧ va_D (zA B0) (zw dA ad u)
def zrm (d : Nat) : Room := { frames := d, cells := 0, slots := 0, locals := 64 * d }
theorem met_i {d : Nat} {k : zY} {As : List Value} {M : zM} {R : Option Int32 → zM → Prop} {ty : FieldType} (hr : k.2.2.2 = some ty) (hpl : plainName k.1.cls = true) (hc : ∀ v ∈ As, v.category = 1) (hn : As.length ≤ k.2.2.1) (h : WX l dC dI dA ad B0 Lx xs d k 0 (zarg As) [] M (fun pc' _ st' M' => ∃ o, zEnd k pc' st' o ∧ R o M')) : Met l k.1 (zws k) (zrm d) (zPc dC dI dA ad B0 Lx xs As M) (va_Qi (fun r u => R (some r) u) (zB dC dI dA ad B0) (zA B0)) 0 0 (zA B0) := by
  refine Met.ofW (cc := k.2.1) (maxL := k.2.2.1) (ret := k.2.2.2) hpl rfl ?_
  intro p e s m args below meth c s₁ B hml hv
  obtain ⟨rfl, hE, hK, hP, hD⟩ := hv
  have hts := atoms_spec (ws := zws k) B.pre
  have hlocks := B.notSynchronized
  rw [lg_entry_eq]
  refine h p e s m _ below meth c _ s.heap [] 0 0 _ _ ⟨B.exec, B.bytes, hml, findClass_of_methodNamed B.named, fun w hw => hts w (List.mem_cons_of_mem _ hw), ⟨Nat.le_refl _, Nat.le_refl _, Nat.le_refl _, Nat.le_refl _⟩, hE⟩ (zl_entry As hc hn) ⟨hK, hP, hD, va_S.rf⟩ ?_
  intro pc' L' st' M' H' locs' ls' hQ hl' hw'
  obtain ⟨o, he, hR⟩ := hQ
  cases o with
  | none => exact absurd (hr.symm.trans he.2.2) (by simp)
  | some x =>
    obtain ⟨hd', hst, ty', hty', hn'⟩ := he
    subst hst
    exact W.zret B.exec B.bytes (B.returns.trans hty') hn' (fun t ht hW => ⟨⟨x, M', rfl, hR, by rw [ht]; exact hw'.2.1, hw'.2.2.1⟩, hw'.2.2.2.F ht⟩) hw'.2.2.2.2.2 hd'
theorem met_v {d : Nat} {k : zY} {As : List Value} {M : zM} {R : Option Int32 → zM → Prop} (hr : k.2.2.2 = none) (hpl : plainName k.1.cls = true) (hc : ∀ v ∈ As, v.category = 1) (hn : As.length ≤ k.2.2.1) (h : WX l dC dI dA ad B0 Lx xs d k 0 (zarg As) [] M (fun pc' _ st' M' => ∃ o, zEnd k pc' st' o ∧ R o M')) : Met l k.1 (zws k) (zrm d) (zPc dC dI dA ad B0 Lx xs As M) (va_Qv (fun u => R none u) (zB dC dI dA ad B0) (zA B0)) 0 0 (zA B0) := by
  refine Met.ofW (cc := k.2.1) (maxL := k.2.2.1) (ret := k.2.2.2) hpl rfl ?_
  intro p e s m args below meth c s₁ B hml hv
  obtain ⟨rfl, hE, hK, hP, hD⟩ := hv
  have hts := atoms_spec (ws := zws k) B.pre
  have hlocks := B.notSynchronized
  rw [lg_entry_eq]
  refine h p e s m _ below meth c _ s.heap [] 0 0 _ _ ⟨B.exec, B.bytes, hml, findClass_of_methodNamed B.named, fun w hw => hts w (List.mem_cons_of_mem _ hw), ⟨Nat.le_refl _, Nat.le_refl _, Nat.le_refl _, Nat.le_refl _⟩, hE⟩ (zl_entry As hc hn) ⟨hK, hP, hD, va_S.rf⟩ ?_
  intro pc' L' st' M' H' locs' ls' hQ hl' hw'
  obtain ⟨o, he, hR⟩ := hQ
  cases o with
  | some x => obtain ⟨-, -, ty', hty', -⟩ := he; exact absurd (hr.symm.trans hty') (by simp)
  | none =>
    obtain ⟨hd', hst, hty'⟩ := he
    subst hst
    exact W.vret B.exec B.bytes (B.returns.trans hty') (fun t ht hW => ⟨⟨M', rfl, hR, by rw [ht]; exact hw'.2.1, hw'.2.2.1⟩, hw'.2.2.2.F ht⟩) hw'.2.2.2.2.2 hd'
theorem zPc_blind {As : List Value} {M : zM} : FrameBlind (zPc dC dI dA ad B0 Lx xs As M) := by
  intro a U g mk q
  obtain ⟨q0, ⟨e1, e2, e3, e4, e5, e6⟩, qK, qP, qD⟩ := q
  exact ⟨q0, ⟨e1, e2, va_X.moved (u := U) (U := U.calling g mk a) (Vm.Alike.refl U.vm) e3, vk_S.moved (u := U) (U := U.calling g mk a) (Vm.Alike.refl U.vm) e4, vk_R.same (u := U) (U := U.calling g mk a) rfl e5, va_Z.moved (u := U) (U := U.calling g mk a) (Vm.Alike.refl U.vm) e6⟩, va_K.moved (u := U) (U := U.calling g mk a) (Vm.Alike.refl U.vm) qK, qP, qD⟩
theorem zPc_at {As : List Value} {M : zM} {s : State} {H : Heap} {locs : List Loc} (hE : zEnv ad B0 Lx xs s s.heap) (hw : zWd dC dI dA ad B0 s H M locs) (U : State) (hU : U.heap = H) (hW : s.WarmedH U.vm) : zPc dC dI dA ad B0 Lx xs As M (As.map (zv ad)).toArray U :=
  ⟨rfl, hE.next hw.2.2.2 hU hW, va_K.moved hW.alike hw.1, by rw [hU]; exact hw.2.1, hw.2.2.1⟩
theorem zgood_S {own : String} {idx n : Nat} {k : zY} (h : zLkS own idx k n) : GoodIn zT (va_wsS own idx k.1 (zws k)) := by
  obtain ⟨⟨⟨h1, h2, h3⟩, -⟩, h4⟩ := h
  intro w hw
  have hm : w ∈ zT := by
    simp only [va_wsS, zws, List.mem_append, List.mem_cons, List.not_mem_nil, or_false] at hw
    rcases hw with (rfl | rfl | rfl) | rfl | hw <;> assumption
  exact ⟨hm, zT_good w hm⟩
theorem zgood_V {own : String} {idx n : Nat} {k : zY} (h : zLkV own idx k n) : GoodIn zT (wsV own idx k.1.cls k.1 (zws k)) := by
  obtain ⟨⟨⟨h1, h2, h3⟩, -⟩, h4, h5⟩ := h
  intro w hw
  have hm : w ∈ zT := by
    simp only [wsV, zws, List.mem_append, List.mem_cons, List.not_mem_nil, or_false] at hw
    rcases hw with (rfl | rfl | rfl | rfl) | rfl | hw <;> assumption
  exact ⟨hm, zT_good w hm⟩
theorem sn_callS : zr_callS (WX l dC dI dA ad B0 Lx xs) := by
  intro d y pc L st M Q idx k As R hd hlk hcat hlen hst hcal hk p e s m args below meth c RR H locs cells slots Q' ls C hl hw hq
  have C0 := C
  obtain ⟨hx, hb, hml, hown, hts, ⟨hR1, hR2, hR3, hR4⟩, hE⟩ := C
  have hlk2 := hlk
  obtain ⟨⟨-, hpl, hd3, hmx⟩, -⟩ := hlk2
  have hstk : (As.reverse ++ st).map (zv ad) = (As.map (zv ad)).reverse ++ st.map (zv ad) := by rw [List.map_append, List.map_reverse]
  rw [hstk]
  have hrm : (zrm d).frames + 1 ≤ RR.frames ∧ 8 + (k.2.2.1 + 11) + (zrm d).locals ≤ RR.locals := ⟨hR1, by show 8 + (k.2.2.1 + 11) + 64 * d ≤ RR.locals; omega⟩
  have hroom : ((st.map (zv ad)).map fun v => v.category).sum ≤ 8 := by rw [zcat_map]; exact hst
  cases hret : k.2.2.2 with
  | none =>
    refine va_callv (va_runS (As := As.map (zv ad)) (rest := st.map (zv ad)) ⟨hx, hb, hml, hown, hts⟩ (met_v hret hpl hcat hlen hcal) (va_cwS (rm := zrm d) As.length hts (zgood_S hlk) rfl rfl rfl hd3 hrm) ⟨zPc_blind, fun U hU hW => zPc_at hE hw U hU hW⟩ rfl (by simp) hl.1.1 rfl (lv_room hroom) hd ⟨hR3, hR4⟩) hw.2.2.2 (fun q _ h => h) (fun q h => h) (fun u t H1 locs1 ht hvm hpost hB hz hkk hS' => ?_)
    exact hk none u hpost p e s m args below meth c RR H1 locs1 cells slots Q' ls C0 hl ⟨hw.1, by rw [← ht]; exact hB.1, hB.2, hS'⟩ hq
  | some ty =>
    refine va_calli (va_runS (As := As.map (zv ad)) (rest := st.map (zv ad)) ⟨hx, hb, hml, hown, hts⟩ (met_i hret hpl hcat hlen hcal) (va_cwS (rm := zrm d) As.length hts (zgood_S hlk) rfl rfl rfl hd3 hrm) ⟨zPc_blind, fun U hU hW => zPc_at hE hw U hU hW⟩ rfl (by simp) hl.1.1 rfl (lv_room hroom) hd ⟨hR3, hR4⟩) hw.2.2.2 (fun q _ h => h) (fun q h => h) (fun r u t H1 locs1 ht hvm hpost hB hz hkk hS' => ?_)
    exact hk (some r) u hpost p e s m args below meth c RR H1 locs1 cells slots Q' ls C0 hl ⟨hw.1, by rw [← ht]; exact hB.1, hB.2, hS'⟩ hq
theorem zrec_cell {b : Nat} {Cn : String} {s : State} {H : Heap} {M : zM} {locs : List Loc} (h : zrec b Cn) (hE : zEnv ad B0 Lx xs s s.heap) (hw : zWd dC dI dA ad B0 s H M locs) : ∃ cellB : Cell, H[ad b]? = some cellB ∧ cellB.vm.isStatics = false ∧ s.vm.findClass Cn = some cellB.cls := by
  rcases h with ⟨ci, T, N, h1, h2⟩ | ⟨rfl, rfl⟩
  · exact va_recv hw.1 hw.2.1 h2 (zw_at h1)
  · exact vk_recv (i := 0) hE.2.2.2.1 (by decide) hw.2.2.2
theorem sn_callV : zr_callV (WX l dC dI dA ad B0 Lx xs) := by
  intro d y pc L st M Q idx k b As R hd hlk hrec hcat hlen hst hcal hk p e s m args below meth c RR H locs cells slots Q' ls C hl hw hq
  have C0 := C
  obtain ⟨hx, hb, hml, hown, hts, ⟨hR1, hR2, hR3, hR4⟩, hE⟩ := C
  have hlk2 := hlk
  obtain ⟨⟨-, hpl, hd3, hmx⟩, -⟩ := hlk2
  have hstk : (As.reverse ++ .ref b :: st).map (zv ad) = (As.map (zv ad)).reverse ++ .ref (ad b) :: st.map (zv ad) := by rw [List.map_append, List.map_reverse]; rfl
  rw [hstk]
  have hcat' : ∀ v ∈ (Value.ref b :: As), v.category = 1 := by
    intro v hv
    rcases List.mem_cons.mp hv with rfl | hv
    · rfl
    · exact hcat v hv
  have hrm : (zrm d).frames + 1 ≤ RR.frames ∧ 8 + (k.2.2.1 + 11) + (zrm d).locals ≤ RR.locals := ⟨hR1, by show 8 + (k.2.2.1 + 11) + 64 * d ≤ RR.locals; omega⟩
  have hroom : ((st.map (zv ad)).map fun v => v.category).sum ≤ 8 := by rw [zcat_map]; exact hst
  cases hret : k.2.2.2 with
  | none =>
    refine va_callv (va_runV (As := As.map (zv ad)) (rest := st.map (zv ad)) ⟨hx, hb, hml, hown, hts⟩ (met_v hret hpl hcat' hlen hcal) (cwV (rm := zrm d) As.length hts (zgood_V hlk) rfl rfl rfl ⟨rfl, hd3⟩ hrm) ⟨zPc_blind, zrec_cell hrec hE hw, fun U hU hW => zPc_at hE hw U hU hW⟩ rfl (by simp) hl.1.1 rfl (lv_room hroom) hd ⟨hR3, hR4⟩) hw.2.2.2 (fun q _ h => h) (fun q h => h) (fun u t H1 locs1 ht hvm hpost hB hz hkk hS' => ?_)
    exact hk none u hpost p e s m args below meth c RR H1 locs1 cells slots Q' ls C0 hl ⟨hw.1, by rw [← ht]; exact hB.1, hB.2, hS'⟩ hq
  | some ty =>
    refine va_calli (va_runV (As := As.map (zv ad)) (rest := st.map (zv ad)) ⟨hx, hb, hml, hown, hts⟩ (met_i hret hpl hcat' hlen hcal) (cwV (rm := zrm d) As.length hts (zgood_V hlk) rfl rfl rfl ⟨rfl, hd3⟩ hrm) ⟨zPc_blind, zrec_cell hrec hE hw, fun U hU hW => zPc_at hE hw U hU hW⟩ rfl (by simp) hl.1.1 rfl (lv_room hroom) hd ⟨hR3, hR4⟩) hw.2.2.2 (fun q _ h => h) (fun q h => h) (fun r u t H1 locs1 ht hvm hpost hB hz hkk hS' => ?_)
    exact hk (some r) u hpost p e s m args below meth c RR H1 locs1 cells slots Q' ls C0 hl ⟨hw.1, by rw [← ht]; exact hB.1, hB.2, hS'⟩ hq
theorem zsound {d : Nat} {y : zY} {pc : Nat} {L : Nat → Value} {st : List Value} {M : zM} {Q : zQ} (h : Ev Lx xs d y pc L st M Q) : WX l dC dI dA ad B0 Lx xs d y pc L st M Q :=
  h _ ⟨sn_done, sn_const, sn_il, sn_al, sn_is, sn_as, sn_inc, sn_bin, sn_un, sn_stk, sn_icmp, sn_if, sn_goto, sn_tin, sn_tout, sn_geti, sn_getr, sn_puti, sn_putr, sn_ald, sn_ast, sn_alen, sn_lald, sn_last, sn_i2l, sn_lcmp, sn_sld, sn_slen, sn_copy, sn_max, sn_min, sn_ldcS, sn_sval, sn_scod, sn_scmp, sn_sbld, sn_sblen, sn_callS, sn_callV⟩
end
end
section
/- links of fields and calls (printed by program) -/
theorem fS_9 : zFld "KeptItems$Source" 9 2 0 true := ⟨_, _, _, rfl, by decide, zin 39 (by decide +kernel) (by decide +kernel), rfl⟩
theorem fK_66 : zFld "KeptItems" 66 2 0 true := ⟨_, _, _, rfl, by decide, zin 40 (by decide +kernel) (by decide +kernel), rfl⟩
theorem fS_28 : zFld "KeptItems$Source" 28 2 1 false := ⟨_, _, _, rfl, by decide, zin 41 (by decide +kernel) (by decide +kernel), rfl⟩
theorem fR_45 : zFld "KeptItems$Reading" 45 2 1 false := ⟨_, _, _, rfl, by decide, zin 42 (by decide +kernel) (by decide +kernel), rfl⟩
theorem fK_35 : zFld "KeptItems" 35 2 1 false := ⟨_, _, _, rfl, by decide, zin 43 (by decide +kernel) (by decide +kernel), rfl⟩
theorem fS_15 : zFld "KeptItems$Source" 15 2 2 true := ⟨_, _, _, rfl, by decide, zin 44 (by decide +kernel) (by decide +kernel), rfl⟩
theorem fK_69 : zFld "KeptItems" 69 2 2 true := ⟨_, _, _, rfl, by decide, zin 45 (by decide +kernel) (by decide +kernel), rfl⟩
theorem fS_19 : zFld "KeptItems$Source" 19 2 3 true := ⟨_, _, _, rfl, by decide, zin 46 (by decide +kernel) (by decide +kernel), rfl⟩
theorem fR_48 : zFld "KeptItems$Reading" 48 2 3 true := ⟨_, _, _, rfl, by decide, zin 47 (by decide +kernel) (by decide +kernel), rfl⟩
theorem fR_36 : zFld "KeptItems$Reading" 36 2 4 false := ⟨_, _, _, rfl, by decide, zin 48 (by decide +kernel) (by decide +kernel), rfl⟩
theorem fS_32 : zFld "KeptItems$Source" 32 2 4 false := ⟨_, _, _, rfl, by decide, zin 49 (by decide +kernel) (by decide +kernel), rfl⟩
theorem fK_63 : zFld "KeptItems" 63 2 4 false := ⟨_, _, _, rfl, by decide, zin 50 (by decide +kernel) (by decide +kernel), rfl⟩
theorem fT_9 : zFld "KeptItems$Tree" 9 3 0 true := ⟨_, _, _, rfl, by decide, zin 70 (by decide +kernel) (by decide +kernel), rfl⟩
theorem fR_56 : zFld "KeptItems$Reading" 56 3 0 true := ⟨_, _, _, rfl, by decide, zin 71 (by decide +kernel) (by decide +kernel), rfl⟩
theorem fK_97 : zFld "KeptItems" 97 3 0 true := ⟨_, _, _, rfl, by decide, zin 72 (by decide +kernel) (by decide +kernel), rfl⟩
theorem fT_15 : zFld "KeptItems$Tree" 15 3 1 true := ⟨_, _, _, rfl, by decide, zin 73 (by decide +kernel) (by decide +kernel), rfl⟩
theorem fR_83 : zFld "KeptItems$Reading" 83 3 1 true := ⟨_, _, _, rfl, by decide, zin 74 (by decide +kernel) (by decide +kernel), rfl⟩
theorem fK_103 : zFld "KeptItems" 103 3 1 true := ⟨_, _, _, rfl, by decide, zin 75 (by decide +kernel) (by decide +kernel), rfl⟩
theorem fT_18 : zFld "KeptItems$Tree" 18 3 2 true := ⟨_, _, _, rfl, by decide, zin 76 (by decide +kernel) (by decide +kernel), rfl⟩
theorem fR_60 : zFld "KeptItems$Reading" 60 3 2 true := ⟨_, _, _, rfl, by decide, zin 77 (by decide +kernel) (by decide +kernel), rfl⟩
theorem fK_109 : zFld "KeptItems" 109 3 2 true := ⟨_, _, _, rfl, by decide, zin 78 (by decide +kernel) (by decide +kernel), rfl⟩
theorem fT_21 : zFld "KeptItems$Tree" 21 3 3 true := ⟨_, _, _, rfl, by decide, zin 79 (by decide +kernel) (by decide +kernel), rfl⟩
theorem fR_63 : zFld "KeptItems$Reading" 63 3 3 true := ⟨_, _, _, rfl, by decide, zin 80 (by decide +kernel) (by decide +kernel), rfl⟩
theorem fK_112 : zFld "KeptItems" 112 3 3 true := ⟨_, _, _, rfl, by decide, zin 81 (by decide +kernel) (by decide +kernel), rfl⟩
theorem fT_24 : zFld "KeptItems$Tree" 24 3 4 true := ⟨_, _, _, rfl, by decide, zin 82 (by decide +kernel) (by decide +kernel), rfl⟩
theorem fK_90 : zFld "KeptItems" 90 3 4 true := ⟨_, _, _, rfl, by decide, zin 83 (by decide +kernel) (by decide +kernel), rfl⟩
theorem fT_27 : zFld "KeptItems$Tree" 27 3 5 false := ⟨_, _, _, rfl, by decide, zin 84 (by decide +kernel) (by decide +kernel), rfl⟩
theorem fR_33 : zFld "KeptItems$Reading" 33 3 5 false := ⟨_, _, _, rfl, by decide, zin 85 (by decide +kernel) (by decide +kernel), rfl⟩
theorem fK_80 : zFld "KeptItems" 80 3 5 false := ⟨_, _, _, rfl, by decide, zin 86 (by decide +kernel) (by decide +kernel), rfl⟩
theorem fR_12 : zFld "KeptItems$Reading" 12 1 0 true := ⟨_, _, _, rfl, by decide, zin 100 (by decide +kernel) (by decide +kernel), rfl⟩
theorem fK_31 : zFld "KeptItems" 31 1 0 true := ⟨_, _, _, rfl, by decide, zin 101 (by decide +kernel) (by decide +kernel), rfl⟩
theorem fR_21 : zFld "KeptItems$Reading" 21 1 1 true := ⟨_, _, _, rfl, by decide, zin 102 (by decide +kernel) (by decide +kernel), rfl⟩
theorem fK_76 : zFld "KeptItems" 76 1 1 true := ⟨_, _, _, rfl, by decide, zin 103 (by decide +kernel) (by decide +kernel), rfl⟩
theorem fR_25 : zFld "KeptItems$Reading" 25 1 2 false := ⟨_, _, _, rfl, by decide, zin 104 (by decide +kernel) (by decide +kernel), rfl⟩
theorem fR_29 : zFld "KeptItems$Reading" 29 1 3 false := ⟨_, _, _, rfl, by decide, zin 105 (by decide +kernel) (by decide +kernel), rfl⟩
theorem fK_9 : zFld "KeptItems" 9 0 0 true := ⟨_, _, _, rfl, by decide, zin 115 (by decide +kernel) (by decide +kernel), rfl⟩
theorem fK_27 : zFld "KeptItems" 27 0 1 false := ⟨_, _, _, rfl, by decide, zin 116 (by decide +kernel) (by decide +kernel), rfl⟩
theorem fK_16 : zFld "KeptItems" 16 0 2 true := ⟨_, _, _, rfl, by decide, zin 117 (by decide +kernel) (by decide +kernel), rfl⟩
theorem fK_20 : zFld "KeptItems" 20 0 3 true := ⟨_, _, _, rfl, by decide, zin 118 (by decide +kernel) (by decide +kernel), rfl⟩
theorem fK_23 : zFld "KeptItems" 23 0 4 true := ⟨_, _, _, rfl, by decide, zin 119 (by decide +kernel) (by decide +kernel), rfl⟩
theorem fK_83 : zFld "KeptItems" 83 0 5 false := ⟨_, _, _, rfl, by decide, zin 120 (by decide +kernel) (by decide +kernel), rfl⟩
theorem fK_127 : zFld "KeptItems" 127 0 6 false := ⟨_, _, _, rfl, by decide, zin 121 (by decide +kernel) (by decide +kernel), rfl⟩
theorem fM_97 : zFld "KeptItemsModel" 97 4 0 false := ⟨_, _, _, rfl, by decide, zin 531 (by decide +kernel) (by decide +kernel), rfl⟩
theorem fM_103 : zFld "KeptItemsModel" 103 4 1 false := ⟨_, _, _, rfl, by decide, zin 532 (by decide +kernel) (by decide +kernel), rfl⟩
theorem fM_7 : zFld "KeptItemsModel" 7 4 2 true := ⟨_, _, _, rfl, by decide, zin 533 (by decide +kernel) (by decide +kernel), rfl⟩
theorem fM_100 : zFld "KeptItemsModel" 100 4 3 false := ⟨_, _, _, rfl, by decide, zin 534 (by decide +kernel) (by decide +kernel), rfl⟩
theorem fM_13 : zFld "KeptItemsModel" 13 4 4 true := ⟨_, _, _, rfl, by decide, zin 535 (by decide +kernel) (by decide +kernel), rfl⟩
theorem fM_106 : zFld "KeptItemsModel" 106 4 5 false := ⟨_, _, _, rfl, by decide, zin 536 (by decide +kernel) (by decide +kernel), rfl⟩
theorem fM_16 : zFld "KeptItemsModel" 16 4 6 true := ⟨_, _, _, rfl, by decide, zin 537 (by decide +kernel) (by decide +kernel), rfl⟩
theorem fM_20 : zFld "KeptItemsModel" 20 4 7 true := ⟨_, _, _, rfl, by decide, zin 538 (by decide +kernel) (by decide +kernel), rfl⟩
theorem fM_23 : zFld "KeptItemsModel" 23 4 8 true := ⟨_, _, _, rfl, by decide, zin 539 (by decide +kernel) (by decide +kernel), rfl⟩
theorem fM_229 : zFld "KeptItemsModel" 229 4 9 false := ⟨_, _, _, rfl, by decide, zin 540 (by decide +kernel) (by decide +kernel), rfl⟩
theorem fM_26 : zFld "KeptItemsModel" 26 4 10 true := ⟨_, _, _, rfl, by decide, zin 541 (by decide +kernel) (by decide +kernel), rfl⟩
theorem fM_29 : zFld "KeptItemsModel" 29 4 11 true := ⟨_, _, _, rfl, by decide, zin 542 (by decide +kernel) (by decide +kernel), rfl⟩
theorem fM_32 : zFld "KeptItemsModel" 32 4 12 true := ⟨_, _, _, rfl, by decide, zin 543 (by decide +kernel) (by decide +kernel), rfl⟩
theorem fM_35 : zFld "KeptItemsModel" 35 4 13 true := ⟨_, _, _, rfl, by decide, zin 544 (by decide +kernel) (by decide +kernel), rfl⟩
theorem fM_146 : zFld "KeptItemsModel" 146 4 14 false := ⟨_, _, _, rfl, by decide, zin 545 (by decide +kernel) (by decide +kernel), rfl⟩
theorem fM_137 : zFld "KeptItemsModel" 137 4 15 false := ⟨_, _, _, rfl, by decide, zin 546 (by decide +kernel) (by decide +kernel), rfl⟩
theorem fM_38 : zFld "KeptItemsModel" 38 4 16 true := ⟨_, _, _, rfl, by decide, zin 547 (by decide +kernel) (by decide +kernel), rfl⟩
theorem fM_41 : zFld "KeptItemsModel" 41 4 17 true := ⟨_, _, _, rfl, by decide, zin 548 (by decide +kernel) (by decide +kernel), rfl⟩
theorem fM_44 : zFld "KeptItemsModel" 44 4 18 true := ⟨_, _, _, rfl, by decide, zin 549 (by decide +kernel) (by decide +kernel), rfl⟩
theorem fM_47 : zFld "KeptItemsModel" 47 4 19 true := ⟨_, _, _, rfl, by decide, zin 550 (by decide +kernel) (by decide +kernel), rfl⟩
theorem fM_51 : zFld "KeptItemsModel" 51 4 20 true := ⟨_, _, _, rfl, by decide, zin 551 (by decide +kernel) (by decide +kernel), rfl⟩
theorem fM_54 : zFld "KeptItemsModel" 54 4 21 true := ⟨_, _, _, rfl, by decide, zin 552 (by decide +kernel) (by decide +kernel), rfl⟩
theorem fM_57 : zFld "KeptItemsModel" 57 4 22 true := ⟨_, _, _, rfl, by decide, zin 553 (by decide +kernel) (by decide +kernel), rfl⟩
theorem fM_232 : zFld "KeptItemsModel" 232 4 23 false := ⟨_, _, _, rfl, by decide, zin 554 (by decide +kernel) (by decide +kernel), rfl⟩
theorem fM_60 : zFld "KeptItemsModel" 60 4 24 true := ⟨_, _, _, rfl, by decide, zin 555 (by decide +kernel) (by decide +kernel), rfl⟩
theorem fM_63 : zFld "KeptItemsModel" 63 4 25 true := ⟨_, _, _, rfl, by decide, zin 556 (by decide +kernel) (by decide +kernel), rfl⟩
theorem fM_66 : zFld "KeptItemsModel" 66 4 26 true := ⟨_, _, _, rfl, by decide, zin 557 (by decide +kernel) (by decide +kernel), rfl⟩
theorem fM_244 : zFld "KeptItemsModel" 244 4 27 false := ⟨_, _, _, rfl, by decide, zin 558 (by decide +kernel) (by decide +kernel), rfl⟩
theorem fM_238 : zFld "KeptItemsModel" 238 4 28 false := ⟨_, _, _, rfl, by decide, zin 559 (by decide +kernel) (by decide +kernel), rfl⟩
theorem fM_69 : zFld "KeptItemsModel" 69 4 29 false := ⟨_, _, _, rfl, by decide, zin 560 (by decide +kernel) (by decide +kernel), rfl⟩
theorem fM_127 : zFld "KeptItemsModel" 127 4 30 false := ⟨_, _, _, rfl, by decide, zin 561 (by decide +kernel) (by decide +kernel), rfl⟩
theorem fM_73 : zFld "KeptItemsModel" 73 4 31 true := ⟨_, _, _, rfl, by decide, zin 562 (by decide +kernel) (by decide +kernel), rfl⟩
theorem fM_134 : zFld "KeptItemsModel" 134 4 32 false := ⟨_, _, _, rfl, by decide, zin 563 (by decide +kernel) (by decide +kernel), rfl⟩
theorem fM_140 : zFld "KeptItemsModel" 140 4 33 false := ⟨_, _, _, rfl, by decide, zin 564 (by decide +kernel) (by decide +kernel), rfl⟩
theorem fM_76 : zFld "KeptItemsModel" 76 4 34 true := ⟨_, _, _, rfl, by decide, zin 565 (by decide +kernel) (by decide +kernel), rfl⟩
theorem fM_143 : zFld "KeptItemsModel" 143 4 35 false := ⟨_, _, _, rfl, by decide, zin 566 (by decide +kernel) (by decide +kernel), rfl⟩
theorem fM_191 : zFld "KeptItemsModel" 191 4 36 false := ⟨_, _, _, rfl, by decide, zin 567 (by decide +kernel) (by decide +kernel), rfl⟩
theorem fM_79 : zFld "KeptItemsModel" 79 4 37 true := ⟨_, _, _, rfl, by decide, zin 568 (by decide +kernel) (by decide +kernel), rfl⟩
theorem fM_82 : zFld "KeptItemsModel" 82 4 38 true := ⟨_, _, _, rfl, by decide, zin 569 (by decide +kernel) (by decide +kernel), rfl⟩
theorem fM_85 : zFld "KeptItemsModel" 85 4 39 true := ⟨_, _, _, rfl, by decide, zin 570 (by decide +kernel) (by decide +kernel), rfl⟩
theorem fM_88 : zFld "KeptItemsModel" 88 4 40 true := ⟨_, _, _, rfl, by decide, zin 571 (by decide +kernel) (by decide +kernel), rfl⟩
theorem fM_91 : zFld "KeptItemsModel" 91 4 41 true := ⟨_, _, _, rfl, by decide, zin 572 (by decide +kernel) (by decide +kernel), rfl⟩
theorem fM_94 : zFld "KeptItemsModel" 94 4 42 true := ⟨_, _, _, rfl, by decide, zin 573 (by decide +kernel) (by decide +kernel), rfl⟩
theorem fwK_rowSize : zFlw 0 1 .int := ⟨_, _, _, rfl, rfl, by decide +kernel⟩
theorem fwK_now : zFlw 0 2 (.object "KeptItems$Reading") := ⟨_, _, _, rfl, rfl, by decide +kernel⟩
theorem fwK_before : zFlw 0 3 (.object "KeptItems$Reading") := ⟨_, _, _, rfl, rfl, by decide +kernel⟩
theorem fwK_keptItems : zFlw 0 5 .int := ⟨_, _, _, rfl, rfl, by decide +kernel⟩
theorem fwK_numbersGiven : zFlw 0 6 .int := ⟨_, _, _, rfl, rfl, by decide +kernel⟩
theorem fwR_next : zFlw 1 2 .int := ⟨_, _, _, rfl, rfl, by decide +kernel⟩
theorem fwR_stopped : zFlw 1 3 .boolean := ⟨_, _, _, rfl, rfl, by decide +kernel⟩
theorem fwS_size : zFlw 2 1 .int := ⟨_, _, _, rfl, rfl, by decide +kernel⟩
theorem fwS_count : zFlw 2 4 .int := ⟨_, _, _, rfl, rfl, by decide +kernel⟩
theorem fwT_count : zFlw 3 5 .int := ⟨_, _, _, rfl, rfl, by decide +kernel⟩
theorem fwM_thrown : zFlw 4 0 .int := ⟨_, _, _, rfl, rfl, by decide +kernel⟩
theorem fwM_size : zFlw 4 1 .int := ⟨_, _, _, rfl, rfl, by decide +kernel⟩
theorem fwM_typed : zFlw 4 3 .int := ⟨_, _, _, rfl, rfl, by decide +kernel⟩
theorem fwM_tokens : zFlw 4 5 .int := ⟨_, _, _, rfl, rfl, by decide +kernel⟩
theorem fwM_oldTokens : zFlw 4 9 .int := ⟨_, _, _, rfl, rfl, by decide +kernel⟩
theorem fwM_items : zFlw 4 14 .int := ⟨_, _, _, rfl, rfl, by decide +kernel⟩
theorem fwM_begun : zFlw 4 15 .int := ⟨_, _, _, rfl, rfl, by decide +kernel⟩
theorem fwM_oldItems : zFlw 4 23 .int := ⟨_, _, _, rfl, rfl, by decide +kernel⟩
theorem fwM_fresh : zFlw 4 27 .int := ⟨_, _, _, rfl, rfl, by decide +kernel⟩
theorem fwM_stayed : zFlw 4 28 .int := ⟨_, _, _, rfl, rfl, by decide +kernel⟩
theorem fwM_fault : zFlw 4 29 .int := ⟨_, _, _, rfl, rfl, by decide +kernel⟩
theorem fwM_open : zFlw 4 30 .int := ⟨_, _, _, rfl, rfl, by decide +kernel⟩
theorem fwM_state : zFlw 4 32 .int := ⟨_, _, _, rfl, rfl, by decide +kernel⟩
theorem fwM_blocks : zFlw 4 33 .int := ⟨_, _, _, rfl, rfl, by decide +kernel⟩
theorem fwM_item : zFlw 4 35 .int := ⟨_, _, _, rfl, rfl, by decide +kernel⟩
theorem fwM_deep : zFlw 4 36 .int := ⟨_, _, _, rfl, rfl, by decide +kernel⟩
theorem lW_34 : zLkV "KeptItemsLaw" 34 mK_type 1 := ⟨⟨⟨zin 137 (by decide +kernel) (by decide +kernel), zin 1 (by decide +kernel) (by decide +kernel), zin 140 (by decide +kernel) (by decide +kernel)⟩, (by decide +kernel), ⟨(by decide +kernel), (by decide +kernel), (by decide +kernel)⟩, by decide⟩, zin 138 (by decide +kernel) (by decide +kernel), zin 139 (by decide +kernel) (by decide +kernel)⟩
theorem lW_39 : zLkV "KeptItemsLaw" 39 mK_wipe 0 := ⟨⟨⟨zin 141 (by decide +kernel) (by decide +kernel), zin 1 (by decide +kernel) (by decide +kernel), zin 144 (by decide +kernel) (by decide +kernel)⟩, (by decide +kernel), ⟨(by decide +kernel), (by decide +kernel), (by decide +kernel)⟩, by decide⟩, zin 142 (by decide +kernel) (by decide +kernel), zin 143 (by decide +kernel) (by decide +kernel)⟩
theorem lW_53 : zLkV "KeptItemsLaw" 53 mK_length 0 := ⟨⟨⟨zin 145 (by decide +kernel) (by decide +kernel), zin 1 (by decide +kernel) (by decide +kernel), zin 148 (by decide +kernel) (by decide +kernel)⟩, (by decide +kernel), ⟨(by decide +kernel), (by decide +kernel), (by decide +kernel)⟩, by decide⟩, zin 146 (by decide +kernel) (by decide +kernel), zin 147 (by decide +kernel) (by decide +kernel)⟩
theorem lW_57 : zLkV "KeptItemsLaw" 57 mK_at 1 := ⟨⟨⟨zin 149 (by decide +kernel) (by decide +kernel), zin 1 (by decide +kernel) (by decide +kernel), zin 152 (by decide +kernel) (by decide +kernel)⟩, (by decide +kernel), ⟨(by decide +kernel), (by decide +kernel), (by decide +kernel)⟩, by decide⟩, zin 150 (by decide +kernel) (by decide +kernel), zin 151 (by decide +kernel) (by decide +kernel)⟩
theorem lW_62 : zLkV "KeptItemsLaw" 62 mK_tokens 0 := ⟨⟨⟨zin 153 (by decide +kernel) (by decide +kernel), zin 1 (by decide +kernel) (by decide +kernel), zin 156 (by decide +kernel) (by decide +kernel)⟩, (by decide +kernel), ⟨(by decide +kernel), (by decide +kernel), (by decide +kernel)⟩, by decide⟩, zin 154 (by decide +kernel) (by decide +kernel), zin 155 (by decide +kernel) (by decide +kernel)⟩
theorem lW_70 : zLkV "KeptItemsLaw" 70 mK_fault 0 := ⟨⟨⟨zin 157 (by decide +kernel) (by decide +kernel), zin 1 (by decide +kernel) (by decide +kernel), zin 160 (by decide +kernel) (by decide +kernel)⟩, (by decide +kernel), ⟨(by decide +kernel), (by decide +kernel), (by decide +kernel)⟩, by decide⟩, zin 158 (by decide +kernel) (by decide +kernel), zin 159 (by decide +kernel) (by decide +kernel)⟩
theorem lK_72 : zLkV "KeptItems" 72 mR_faultPlace 0 := ⟨⟨⟨zin 161 (by decide +kernel) (by decide +kernel), zin 2 (by decide +kernel) (by decide +kernel), zin 164 (by decide +kernel) (by decide +kernel)⟩, (by decide +kernel), ⟨(by decide +kernel), (by decide +kernel), (by decide +kernel)⟩, by decide⟩, zin 162 (by decide +kernel) (by decide +kernel), zin 163 (by decide +kernel) (by decide +kernel)⟩
theorem lR_41 : zLkV "KeptItems$Reading" 41 mS_placeOf 1 := ⟨⟨⟨zin 165 (by decide +kernel) (by decide +kernel), zin 3 (by decide +kernel) (by decide +kernel), zin 168 (by decide +kernel) (by decide +kernel)⟩, (by decide +kernel), ⟨(by decide +kernel), (by decide +kernel), (by decide +kernel)⟩, by decide⟩, zin 166 (by decide +kernel) (by decide +kernel), zin 167 (by decide +kernel) (by decide +kernel)⟩
theorem lW_74 : zLkV "KeptItemsLaw" 74 mK_items 0 := ⟨⟨⟨zin 169 (by decide +kernel) (by decide +kernel), zin 1 (by decide +kernel) (by decide +kernel), zin 172 (by decide +kernel) (by decide +kernel)⟩, (by decide +kernel), ⟨(by decide +kernel), (by decide +kernel), (by decide +kernel)⟩, by decide⟩, zin 170 (by decide +kernel) (by decide +kernel), zin 171 (by decide +kernel) (by decide +kernel)⟩
theorem lW_78 : zLkV "KeptItemsLaw" 78 mK_kept 0 := ⟨⟨⟨zin 173 (by decide +kernel) (by decide +kernel), zin 1 (by decide +kernel) (by decide +kernel), zin 176 (by decide +kernel) (by decide +kernel)⟩, (by decide +kernel), ⟨(by decide +kernel), (by decide +kernel), (by decide +kernel)⟩, by decide⟩, zin 174 (by decide +kernel) (by decide +kernel), zin 175 (by decide +kernel) (by decide +kernel)⟩
theorem lW_82 : zLkV "KeptItemsLaw" 82 mK_number 1 := ⟨⟨⟨zin 177 (by decide +kernel) (by decide +kernel), zin 1 (by decide +kernel) (by decide +kernel), zin 180 (by decide +kernel) (by decide +kernel)⟩, (by decide +kernel), ⟨(by decide +kernel), (by decide +kernel), (by decide +kernel)⟩, by decide⟩, zin 178 (by decide +kernel) (by decide +kernel), zin 179 (by decide +kernel) (by decide +kernel)⟩
theorem lK_86 : zLkV "KeptItems" 86 mT_has 1 := ⟨⟨⟨zin 181 (by decide +kernel) (by decide +kernel), zin 4 (by decide +kernel) (by decide +kernel), zin 184 (by decide +kernel) (by decide +kernel)⟩, (by decide +kernel), ⟨(by decide +kernel), (by decide +kernel), (by decide +kernel)⟩, by decide⟩, zin 182 (by decide +kernel) (by decide +kernel), zin 183 (by decide +kernel) (by decide +kernel)⟩
theorem lW_86 : zLkV "KeptItemsLaw" 86 mK_which 1 := ⟨⟨⟨zin 185 (by decide +kernel) (by decide +kernel), zin 1 (by decide +kernel) (by decide +kernel), zin 188 (by decide +kernel) (by decide +kernel)⟩, (by decide +kernel), ⟨(by decide +kernel), (by decide +kernel), (by decide +kernel)⟩, by decide⟩, zin 186 (by decide +kernel) (by decide +kernel), zin 187 (by decide +kernel) (by decide +kernel)⟩
theorem lK_93 : zLkV "KeptItems" 93 mT_itemNumbered 1 := ⟨⟨⟨zin 189 (by decide +kernel) (by decide +kernel), zin 4 (by decide +kernel) (by decide +kernel), zin 192 (by decide +kernel) (by decide +kernel)⟩, (by decide +kernel), ⟨(by decide +kernel), (by decide +kernel), (by decide +kernel)⟩, by decide⟩, zin 190 (by decide +kernel) (by decide +kernel), zin 191 (by decide +kernel) (by decide +kernel)⟩
theorem lW_96 : zLkV "KeptItemsLaw" 96 mK_level 1 := ⟨⟨⟨zin 193 (by decide +kernel) (by decide +kernel), zin 1 (by decide +kernel) (by decide +kernel), zin 196 (by decide +kernel) (by decide +kernel)⟩, (by decide +kernel), ⟨(by decide +kernel), (by decide +kernel), (by decide +kernel)⟩, by decide⟩, zin 194 (by decide +kernel) (by decide +kernel), zin 195 (by decide +kernel) (by decide +kernel)⟩
theorem lW_7 : zLkV "KeptItemsLaw" 7 mK_edit 2 := ⟨⟨⟨zin 202 (by decide +kernel) (by decide +kernel), zin 1 (by decide +kernel) (by decide +kernel), zin 205 (by decide +kernel) (by decide +kernel)⟩, (by decide +kernel), ⟨(by decide +kernel), (by decide +kernel), (by decide +kernel)⟩, by decide⟩, zin 203 (by decide +kernel) (by decide +kernel), zin 204 (by decide +kernel) (by decide +kernel)⟩
theorem lK_46 : zLkV "KeptItems" 46 mS_fill 5 := ⟨⟨⟨zin 283 (by decide +kernel) (by decide +kernel), zin 3 (by decide +kernel) (by decide +kernel), zin 286 (by decide +kernel) (by decide +kernel)⟩, (by decide +kernel), ⟨(by decide +kernel), (by decide +kernel), (by decide +kernel)⟩, by decide⟩, zin 284 (by decide +kernel) (by decide +kernel), zin 285 (by decide +kernel) (by decide +kernel)⟩
theorem lK_50 : zLkV "KeptItems" 50 mS_findTokens 0 := ⟨⟨⟨zin 290 (by decide +kernel) (by decide +kernel), zin 3 (by decide +kernel) (by decide +kernel), zin 293 (by decide +kernel) (by decide +kernel)⟩, (by decide +kernel), ⟨(by decide +kernel), (by decide +kernel), (by decide +kernel)⟩, by decide⟩, zin 291 (by decide +kernel) (by decide +kernel), zin 292 (by decide +kernel) (by decide +kernel)⟩
theorem lS_35 : zLkV "KeptItems$Source" 35 mS_passBlanks 1 := ⟨⟨⟨zin 294 (by decide +kernel) (by decide +kernel), zin 3 (by decide +kernel) (by decide +kernel), zin 297 (by decide +kernel) (by decide +kernel)⟩, (by decide +kernel), ⟨(by decide +kernel), (by decide +kernel), (by decide +kernel)⟩, by decide⟩, zin 296 (by decide +kernel) (by decide +kernel), zinS (q := (⟨"KeptItems$Source", "passBlanks", "(I)I"⟩, 5)) 1 (by decide +kernel)⟩
theorem lS_39 : zLkV "KeptItems$Source" 39 mS_tokenFrom 1 := ⟨⟨⟨zin 298 (by decide +kernel) (by decide +kernel), zin 3 (by decide +kernel) (by decide +kernel), zin 301 (by decide +kernel) (by decide +kernel)⟩, (by decide +kernel), ⟨(by decide +kernel), (by decide +kernel), (by decide +kernel)⟩, by decide⟩, zin 300 (by decide +kernel) (by decide +kernel), zinS (q := (⟨"KeptItems$Source", "tokenFrom", "(I)I"⟩, 5)) 2 (by decide +kernel)⟩
theorem lS_49 : zLkV "KeptItems$Source" 49 mS_quotedFrom 1 := ⟨⟨⟨zin 302 (by decide +kernel) (by decide +kernel), zin 3 (by decide +kernel) (by decide +kernel), zin 305 (by decide +kernel) (by decide +kernel)⟩, (by decide +kernel), ⟨(by decide +kernel), (by decide +kernel), (by decide +kernel)⟩, by decide⟩, zin 304 (by decide +kernel) (by decide +kernel), zinS (q := (⟨"KeptItems$Source", "quotedFrom", "(I)I"⟩, 5)) 3 (by decide +kernel)⟩
theorem lS_60 : zLkS "KeptItems$Source" 60 mS_packed 3 := ⟨⟨⟨zin 306 (by decide +kernel) (by decide +kernel), zin 3 (by decide +kernel) (by decide +kernel), zin 308 (by decide +kernel) (by decide +kernel)⟩, (by decide +kernel), ⟨(by decide +kernel), (by decide +kernel), (by decide +kernel)⟩, by decide⟩, zin 307 (by decide +kernel) (by decide +kernel)⟩
theorem lS_52 : zLkS "KeptItems$Source" 52 mS_isLetter 1 := ⟨⟨⟨zin 309 (by decide +kernel) (by decide +kernel), zin 3 (by decide +kernel) (by decide +kernel), zin 311 (by decide +kernel) (by decide +kernel)⟩, (by decide +kernel), ⟨(by decide +kernel), (by decide +kernel), (by decide +kernel)⟩, by decide⟩, zin 310 (by decide +kernel) (by decide +kernel)⟩
theorem lS_56 : zLkV "KeptItems$Source" 56 mS_behindRun 2 := ⟨⟨⟨zin 312 (by decide +kernel) (by decide +kernel), zin 3 (by decide +kernel) (by decide +kernel), zin 315 (by decide +kernel) (by decide +kernel)⟩, (by decide +kernel), ⟨(by decide +kernel), (by decide +kernel), (by decide +kernel)⟩, by decide⟩, zin 314 (by decide +kernel) (by decide +kernel), zinS (q := (⟨"KeptItems$Source", "behindRun", "(IZ)I"⟩, 5)) 4 (by decide +kernel)⟩
theorem lS_64 : zLkS "KeptItems$Source" 64 mS_isDigit 1 := ⟨⟨⟨zin 316 (by decide +kernel) (by decide +kernel), zin 3 (by decide +kernel) (by decide +kernel), zin 318 (by decide +kernel) (by decide +kernel)⟩, (by decide +kernel), ⟨(by decide +kernel), (by decide +kernel), (by decide +kernel)⟩, by decide⟩, zin 317 (by decide +kernel) (by decide +kernel)⟩
theorem lS_69 : zLkV "KeptItems$Source" 69 mJ_indexOf1 1 := ⟨⟨⟨zin 320 (by decide +kernel) (by decide +kernel), zin 12 (by decide +kernel) (by decide +kernel), zin 323 (by decide +kernel) (by decide +kernel)⟩, (by decide +kernel), ⟨(by decide +kernel), (by decide +kernel), (by decide +kernel)⟩, by decide⟩, zin 321 (by decide +kernel) (by decide +kernel), zin 322 (by decide +kernel) (by decide +kernel)⟩
theorem lJS_633 : zLkV "java/lang/String" 633 mJ_indexOf2 2 := ⟨⟨⟨zin 324 (by decide +kernel) (by decide +kernel), zin 12 (by decide +kernel) (by decide +kernel), zin 327 (by decide +kernel) (by decide +kernel)⟩, (by decide +kernel), ⟨(by decide +kernel), (by decide +kernel), (by decide +kernel)⟩, by decide⟩, zin 325 (by decide +kernel) (by decide +kernel), zin 326 (by decide +kernel) (by decide +kernel)⟩
theorem lJS_492 : zLkV "java/lang/String" 492 mJ_isLatin1 0 := ⟨⟨⟨zin 328 (by decide +kernel) (by decide +kernel), zin 12 (by decide +kernel) (by decide +kernel), zin 331 (by decide +kernel) (by decide +kernel)⟩, (by decide +kernel), ⟨(by decide +kernel), (by decide +kernel), (by decide +kernel)⟩, by decide⟩, zin 329 (by decide +kernel) (by decide +kernel), zin 330 (by decide +kernel) (by decide +kernel)⟩
theorem lJS_505 : zLkV "java/lang/String" 505 mJ_length 0 := ⟨⟨⟨zin 334 (by decide +kernel) (by decide +kernel), zin 12 (by decide +kernel) (by decide +kernel), zin 337 (by decide +kernel) (by decide +kernel)⟩, (by decide +kernel), ⟨(by decide +kernel), (by decide +kernel), (by decide +kernel)⟩, by decide⟩, zin 335 (by decide +kernel) (by decide +kernel), zin 336 (by decide +kernel) (by decide +kernel)⟩
theorem lJS_335 : zLkV "java/lang/String" 335 mJ_coder 0 := ⟨⟨⟨zin 338 (by decide +kernel) (by decide +kernel), zin 12 (by decide +kernel) (by decide +kernel), zin 341 (by decide +kernel) (by decide +kernel)⟩, (by decide +kernel), ⟨(by decide +kernel), (by decide +kernel), (by decide +kernel)⟩, by decide⟩, zin 339 (by decide +kernel) (by decide +kernel), zin 340 (by decide +kernel) (by decide +kernel)⟩
theorem lJS_637 : zLkS "java/lang/String" 637 mJ_lindexOf 4 := ⟨⟨⟨zin 342 (by decide +kernel) (by decide +kernel), zin 13 (by decide +kernel) (by decide +kernel), zin 344 (by decide +kernel) (by decide +kernel)⟩, (by decide +kernel), ⟨(by decide +kernel), (by decide +kernel), (by decide +kernel)⟩, by decide⟩, zin 343 (by decide +kernel) (by decide +kernel)⟩
theorem lJL_88 : zLkS "java/lang/StringLatin1" 88 mJ_canEncode 1 := ⟨⟨⟨zin 345 (by decide +kernel) (by decide +kernel), zin 13 (by decide +kernel) (by decide +kernel), zin 347 (by decide +kernel) (by decide +kernel)⟩, (by decide +kernel), ⟨(by decide +kernel), (by decide +kernel), (by decide +kernel)⟩, by decide⟩, zin 346 (by decide +kernel) (by decide +kernel)⟩
theorem lJL_95 : zLkS "java/lang/StringLatin1" 95 mJ_indexOfChar 4 := ⟨⟨⟨zin 354 (by decide +kernel) (by decide +kernel), zin 13 (by decide +kernel) (by decide +kernel), zin 356 (by decide +kernel) (by decide +kernel)⟩, (by decide +kernel), ⟨(by decide +kernel), (by decide +kernel), (by decide +kernel)⟩, by decide⟩, zin 355 (by decide +kernel) (by decide +kernel)⟩
theorem lS_42 : zLkS "KeptItems$Source" 42 mS_markOf 2 := ⟨⟨⟨zin 406 (by decide +kernel) (by decide +kernel), zin 3 (by decide +kernel) (by decide +kernel), zin 408 (by decide +kernel) (by decide +kernel)⟩, (by decide +kernel), ⟨(by decide +kernel), (by decide +kernel), (by decide +kernel)⟩, by decide⟩, zin 407 (by decide +kernel) (by decide +kernel)⟩
theorem lS_46 : zLkV "KeptItems$Source" 46 mS_placeBehind 1 := ⟨⟨⟨zin 409 (by decide +kernel) (by decide +kernel), zin 3 (by decide +kernel) (by decide +kernel), zin 412 (by decide +kernel) (by decide +kernel)⟩, (by decide +kernel), ⟨(by decide +kernel), (by decide +kernel), (by decide +kernel)⟩, by decide⟩, zin 410 (by decide +kernel) (by decide +kernel), zin 411 (by decide +kernel) (by decide +kernel)⟩
theorem lS_74 : zLkV "KeptItems$Source" 74 mS_placeOf 1 := ⟨⟨⟨zin 413 (by decide +kernel) (by decide +kernel), zin 3 (by decide +kernel) (by decide +kernel), zin 168 (by decide +kernel) (by decide +kernel)⟩, (by decide +kernel), ⟨(by decide +kernel), (by decide +kernel), (by decide +kernel)⟩, by decide⟩, zin 166 (by decide +kernel) (by decide +kernel), zin 167 (by decide +kernel) (by decide +kernel)⟩
theorem lS_77 : zLkV "KeptItems$Source" 77 mS_lengthOf 1 := ⟨⟨⟨zin 414 (by decide +kernel) (by decide +kernel), zin 3 (by decide +kernel) (by decide +kernel), zin 417 (by decide +kernel) (by decide +kernel)⟩, (by decide +kernel), ⟨(by decide +kernel), (by decide +kernel), (by decide +kernel)⟩, by decide⟩, zin 415 (by decide +kernel) (by decide +kernel), zin 416 (by decide +kernel) (by decide +kernel)⟩
theorem lK_53 : zLkV "KeptItems" 53 mR_readTokens 0 := ⟨⟨⟨zin 418 (by decide +kernel) (by decide +kernel), zin 2 (by decide +kernel) (by decide +kernel), zin 421 (by decide +kernel) (by decide +kernel)⟩, (by decide +kernel), ⟨(by decide +kernel), (by decide +kernel), (by decide +kernel)⟩, by decide⟩, zin 419 (by decide +kernel) (by decide +kernel), zin 420 (by decide +kernel) (by decide +kernel)⟩
theorem lR_37 : zLkV "KeptItems$Reading" 37 mR_readItem 1 := ⟨⟨⟨zin 422 (by decide +kernel) (by decide +kernel), zin 2 (by decide +kernel) (by decide +kernel), zin 425 (by decide +kernel) (by decide +kernel)⟩, (by decide +kernel), ⟨(by decide +kernel), (by decide +kernel), (by decide +kernel)⟩, by decide⟩, zin 424 (by decide +kernel) (by decide +kernel), zinS (q := (⟨"KeptItems$Reading", "readItem", "(I)V"⟩, 4)) 5 (by decide +kernel)⟩
theorem lR_52 : zLkV "KeptItems$Reading" 52 mR_sees 1 := ⟨⟨⟨zin 426 (by decide +kernel) (by decide +kernel), zin 2 (by decide +kernel) (by decide +kernel), zin 429 (by decide +kernel) (by decide +kernel)⟩, (by decide +kernel), ⟨(by decide +kernel), (by decide +kernel), (by decide +kernel)⟩, by decide⟩, zin 428 (by decide +kernel) (by decide +kernel), zinS (q := (⟨"KeptItems$Reading", "sees", "(C)Z"⟩, 4)) 6 (by decide +kernel)⟩
theorem lR_66 : zLkV "KeptItems$Reading" 66 mR_readBlock 1 := ⟨⟨⟨zin 430 (by decide +kernel) (by decide +kernel), zin 2 (by decide +kernel) (by decide +kernel), zin 433 (by decide +kernel) (by decide +kernel)⟩, (by decide +kernel), ⟨(by decide +kernel), (by decide +kernel), (by decide +kernel)⟩, by decide⟩, zin 432 (by decide +kernel) (by decide +kernel), zinS (q := (⟨"KeptItems$Reading", "readBlock", "(I)I"⟩, 4)) 7 (by decide +kernel)⟩
theorem lR_86 : zLkV "KeptItems$Reading" 86 mR_opens 2 := ⟨⟨⟨zin 434 (by decide +kernel) (by decide +kernel), zin 2 (by decide +kernel) (by decide +kernel), zin 437 (by decide +kernel) (by decide +kernel)⟩, (by decide +kernel), ⟨(by decide +kernel), (by decide +kernel), (by decide +kernel)⟩, by decide⟩, zin 436 (by decide +kernel) (by decide +kernel), zinS (q := (⟨"KeptItems$Reading", "opens", "(CI)Z"⟩, 4)) 8 (by decide +kernel)⟩
theorem lR_69 : zLkV "KeptItems$Reading" 69 mR_needs 1 := ⟨⟨⟨zin 438 (by decide +kernel) (by decide +kernel), zin 2 (by decide +kernel) (by decide +kernel), zin 441 (by decide +kernel) (by decide +kernel)⟩, (by decide +kernel), ⟨(by decide +kernel), (by decide +kernel), (by decide +kernel)⟩, by decide⟩, zin 440 (by decide +kernel) (by decide +kernel), zinS (q := (⟨"KeptItems$Reading", "needs", "(C)V"⟩, 4)) 9 (by decide +kernel)⟩
theorem lR_73 : zLkV "KeptItems$Reading" 73 mR_takes 1 := ⟨⟨⟨zin 442 (by decide +kernel) (by decide +kernel), zin 2 (by decide +kernel) (by decide +kernel), zin 445 (by decide +kernel) (by decide +kernel)⟩, (by decide +kernel), ⟨(by decide +kernel), (by decide +kernel), (by decide +kernel)⟩, by decide⟩, zin 444 (by decide +kernel) (by decide +kernel), zinS (q := (⟨"KeptItems$Reading", "takes", "(C)Z"⟩, 4)) 10 (by decide +kernel)⟩
theorem lR_76 : zLkV "KeptItems$Reading" 76 mR_readSum 1 := ⟨⟨⟨zin 446 (by decide +kernel) (by decide +kernel), zin 2 (by decide +kernel) (by decide +kernel), zin 449 (by decide +kernel) (by decide +kernel)⟩, (by decide +kernel), ⟨(by decide +kernel), (by decide +kernel), (by decide +kernel)⟩, by decide⟩, zin 448 (by decide +kernel) (by decide +kernel), zinS (q := (⟨"KeptItems$Reading", "readSum", "(I)I"⟩, 4)) 11 (by decide +kernel)⟩
theorem lR_90 : zLkV "KeptItems$Reading" 90 mR_readFactor 1 := ⟨⟨⟨zin 450 (by decide +kernel) (by decide +kernel), zin 2 (by decide +kernel) (by decide +kernel), zin 453 (by decide +kernel) (by decide +kernel)⟩, (by decide +kernel), ⟨(by decide +kernel), (by decide +kernel), (by decide +kernel)⟩, by decide⟩, zin 452 (by decide +kernel) (by decide +kernel), zinS (q := (⟨"KeptItems$Reading", "readFactor", "(I)I"⟩, 4)) 12 (by decide +kernel)⟩
theorem lR_93 : zLkV "KeptItems$Reading" 93 mS_digitsValue 1 := ⟨⟨⟨zin 454 (by decide +kernel) (by decide +kernel), zin 3 (by decide +kernel) (by decide +kernel), zin 457 (by decide +kernel) (by decide +kernel)⟩, (by decide +kernel), ⟨(by decide +kernel), (by decide +kernel), (by decide +kernel)⟩, by decide⟩, zin 455 (by decide +kernel) (by decide +kernel), zin 456 (by decide +kernel) (by decide +kernel)⟩
theorem lR_96 : zLkV "KeptItems$Reading" 96 mS_lengthOf 1 := ⟨⟨⟨zin 458 (by decide +kernel) (by decide +kernel), zin 3 (by decide +kernel) (by decide +kernel), zin 417 (by decide +kernel) (by decide +kernel)⟩, (by decide +kernel), ⟨(by decide +kernel), (by decide +kernel), (by decide +kernel)⟩, by decide⟩, zin 415 (by decide +kernel) (by decide +kernel), zin 416 (by decide +kernel) (by decide +kernel)⟩
theorem lR_79 : zLkV "KeptItems$Reading" 79 mR_readCall 2 := ⟨⟨⟨zin 459 (by decide +kernel) (by decide +kernel), zin 2 (by decide +kernel) (by decide +kernel), zin 462 (by decide +kernel) (by decide +kernel)⟩, (by decide +kernel), ⟨(by decide +kernel), (by decide +kernel), (by decide +kernel)⟩, by decide⟩, zin 461 (by decide +kernel) (by decide +kernel), zinS (q := (⟨"KeptItems$Reading", "readCall", "(II)I"⟩, 4)) 13 (by decide +kernel)⟩
theorem lR_99 : zLkV "KeptItems$Reading" 99 mR_namedValue 1 := ⟨⟨⟨zin 463 (by decide +kernel) (by decide +kernel), zin 2 (by decide +kernel) (by decide +kernel), zin 466 (by decide +kernel) (by decide +kernel)⟩, (by decide +kernel), ⟨(by decide +kernel), (by decide +kernel), (by decide +kernel)⟩, by decide⟩, zin 465 (by decide +kernel) (by decide +kernel), zinS (q := (⟨"KeptItems$Reading", "namedValue", "(I)I"⟩, 4)) 14 (by decide +kernel)⟩
theorem lR_102 : zLkV "KeptItems$Reading" 102 mS_areSame 2 := ⟨⟨⟨zin 467 (by decide +kernel) (by decide +kernel), zin 3 (by decide +kernel) (by decide +kernel), zin 470 (by decide +kernel) (by decide +kernel)⟩, (by decide +kernel), ⟨(by decide +kernel), (by decide +kernel), (by decide +kernel)⟩, by decide⟩, zin 468 (by decide +kernel) (by decide +kernel), zin 469 (by decide +kernel) (by decide +kernel)⟩
theorem lK_56 : zLkV "KeptItems" 56 mK_traceTokens 2 := ⟨⟨⟨zin 471 (by decide +kernel) (by decide +kernel), zin 1 (by decide +kernel) (by decide +kernel), zin 474 (by decide +kernel) (by decide +kernel)⟩, (by decide +kernel), ⟨(by decide +kernel), (by decide +kernel), (by decide +kernel)⟩, by decide⟩, zin 473 (by decide +kernel) (by decide +kernel), zinS (q := (⟨"KeptItems", "traceTokens", "(II)I"⟩, 7)) 15 (by decide +kernel)⟩
theorem lK_115 : zLkS "KeptItems" 115 mJ_fill 2 := ⟨⟨⟨zin 475 (by decide +kernel) (by decide +kernel), zin 18 (by decide +kernel) (by decide +kernel), zin 477 (by decide +kernel) (by decide +kernel)⟩, (by decide +kernel), ⟨(by decide +kernel), (by decide +kernel), (by decide +kernel)⟩, by decide⟩, zin 476 (by decide +kernel) (by decide +kernel)⟩
theorem lK_120 : zLkV "KeptItems" 120 mS_movedToken 4 := ⟨⟨⟨zin 478 (by decide +kernel) (by decide +kernel), zin 3 (by decide +kernel) (by decide +kernel), zin 481 (by decide +kernel) (by decide +kernel)⟩, (by decide +kernel), ⟨(by decide +kernel), (by decide +kernel), (by decide +kernel)⟩, by decide⟩, zin 479 (by decide +kernel) (by decide +kernel), zin 480 (by decide +kernel) (by decide +kernel)⟩
theorem lK_60 : zLkV "KeptItems" 60 mK_numberItems 0 := ⟨⟨⟨zin 482 (by decide +kernel) (by decide +kernel), zin 1 (by decide +kernel) (by decide +kernel), zin 485 (by decide +kernel) (by decide +kernel)⟩, (by decide +kernel), ⟨(by decide +kernel), (by decide +kernel), (by decide +kernel)⟩, by decide⟩, zin 484 (by decide +kernel) (by decide +kernel), zinS (q := (⟨"KeptItems", "numberItems", "()V"⟩, 7)) 16 (by decide +kernel)⟩
theorem lK_124 : zLkV "KeptItems" 124 mK_oldItem 1 := ⟨⟨⟨zin 486 (by decide +kernel) (by decide +kernel), zin 1 (by decide +kernel) (by decide +kernel), zin 489 (by decide +kernel) (by decide +kernel)⟩, (by decide +kernel), ⟨(by decide +kernel), (by decide +kernel), (by decide +kernel)⟩, by decide⟩, zin 488 (by decide +kernel) (by decide +kernel), zinS (q := (⟨"KeptItems", "oldItem", "(I)I"⟩, 7)) 17 (by decide +kernel)⟩
theorem lK_130 : zLkV "KeptItems" 130 mT_itemOfTokens 2 := ⟨⟨⟨zin 490 (by decide +kernel) (by decide +kernel), zin 4 (by decide +kernel) (by decide +kernel), zin 493 (by decide +kernel) (by decide +kernel)⟩, (by decide +kernel), ⟨(by decide +kernel), (by decide +kernel), (by decide +kernel)⟩, by decide⟩, zin 491 (by decide +kernel) (by decide +kernel), zin 492 (by decide +kernel) (by decide +kernel)⟩
theorem lW_17 : zLkV "KeptItemsLaw" 17 mK_token 1 := ⟨⟨⟨zin 498 (by decide +kernel) (by decide +kernel), zin 1 (by decide +kernel) (by decide +kernel), zin 501 (by decide +kernel) (by decide +kernel)⟩, (by decide +kernel), ⟨(by decide +kernel), (by decide +kernel), (by decide +kernel)⟩, by decide⟩, zin 499 (by decide +kernel) (by decide +kernel), zin 500 (by decide +kernel) (by decide +kernel)⟩
theorem lW_21 : zLkV "KeptItemsLaw" 21 mK_begin 1 := ⟨⟨⟨zin 505 (by decide +kernel) (by decide +kernel), zin 1 (by decide +kernel) (by decide +kernel), zin 508 (by decide +kernel) (by decide +kernel)⟩, (by decide +kernel), ⟨(by decide +kernel), (by decide +kernel), (by decide +kernel)⟩, by decide⟩, zin 506 (by decide +kernel) (by decide +kernel), zin 507 (by decide +kernel) (by decide +kernel)⟩
theorem lK_100 : zLkV "KeptItems" 100 mS_placeOf 1 := ⟨⟨⟨zin 509 (by decide +kernel) (by decide +kernel), zin 3 (by decide +kernel) (by decide +kernel), zin 168 (by decide +kernel) (by decide +kernel)⟩, (by decide +kernel), ⟨(by decide +kernel), (by decide +kernel), (by decide +kernel)⟩, by decide⟩, zin 166 (by decide +kernel) (by decide +kernel), zin 167 (by decide +kernel) (by decide +kernel)⟩
theorem lW_24 : zLkV "KeptItemsLaw" 24 mK_end 1 := ⟨⟨⟨zin 513 (by decide +kernel) (by decide +kernel), zin 1 (by decide +kernel) (by decide +kernel), zin 516 (by decide +kernel) (by decide +kernel)⟩, (by decide +kernel), ⟨(by decide +kernel), (by decide +kernel), (by decide +kernel)⟩, by decide⟩, zin 514 (by decide +kernel) (by decide +kernel), zin 515 (by decide +kernel) (by decide +kernel)⟩
theorem lK_106 : zLkV "KeptItems" 106 mS_placeBehind 1 := ⟨⟨⟨zin 517 (by decide +kernel) (by decide +kernel), zin 3 (by decide +kernel) (by decide +kernel), zin 412 (by decide +kernel) (by decide +kernel)⟩, (by decide +kernel), ⟨(by decide +kernel), (by decide +kernel), (by decide +kernel)⟩, by decide⟩, zin 410 (by decide +kernel) (by decide +kernel), zin 411 (by decide +kernel) (by decide +kernel)⟩
theorem lW_27 : zLkV "KeptItemsLaw" 27 mK_value 1 := ⟨⟨⟨zin 521 (by decide +kernel) (by decide +kernel), zin 1 (by decide +kernel) (by decide +kernel), zin 524 (by decide +kernel) (by decide +kernel)⟩, (by decide +kernel), ⟨(by decide +kernel), (by decide +kernel), (by decide +kernel)⟩, by decide⟩, zin 522 (by decide +kernel) (by decide +kernel), zin 523 (by decide +kernel) (by decide +kernel)⟩
theorem lW_50 : zLkV "KeptItemsLaw" 50 mM_thrown 0 := ⟨⟨⟨zin 662 (by decide +kernel) (by decide +kernel), zin 5 (by decide +kernel) (by decide +kernel), zin 665 (by decide +kernel) (by decide +kernel)⟩, (by decide +kernel), ⟨(by decide +kernel), (by decide +kernel), (by decide +kernel)⟩, by decide⟩, zin 663 (by decide +kernel) (by decide +kernel), zin 664 (by decide +kernel) (by decide +kernel)⟩
theorem lW_38 : zLkV "KeptItemsLaw" 38 mM_type 1 := ⟨⟨⟨zin 666 (by decide +kernel) (by decide +kernel), zin 5 (by decide +kernel) (by decide +kernel), zin 669 (by decide +kernel) (by decide +kernel)⟩, (by decide +kernel), ⟨(by decide +kernel), (by decide +kernel), (by decide +kernel)⟩, by decide⟩, zin 667 (by decide +kernel) (by decide +kernel), zin 668 (by decide +kernel) (by decide +kernel)⟩
theorem lW_43 : zLkV "KeptItemsLaw" 43 mM_wipe 0 := ⟨⟨⟨zin 670 (by decide +kernel) (by decide +kernel), zin 5 (by decide +kernel) (by decide +kernel), zin 673 (by decide +kernel) (by decide +kernel)⟩, (by decide +kernel), ⟨(by decide +kernel), (by decide +kernel), (by decide +kernel)⟩, by decide⟩, zin 671 (by decide +kernel) (by decide +kernel), zin 672 (by decide +kernel) (by decide +kernel)⟩
theorem lW_49 : zLkV "KeptItemsLaw" 49 mM_edit 2 := ⟨⟨⟨zin 674 (by decide +kernel) (by decide +kernel), zin 5 (by decide +kernel) (by decide +kernel), zin 677 (by decide +kernel) (by decide +kernel)⟩, (by decide +kernel), ⟨(by decide +kernel), (by decide +kernel), (by decide +kernel)⟩, by decide⟩, zin 675 (by decide +kernel) (by decide +kernel), zin 676 (by decide +kernel) (by decide +kernel)⟩
theorem lM_247 : zLkV "KeptItemsModel" 247 mM_keepOld 0 := ⟨⟨⟨zin 678 (by decide +kernel) (by decide +kernel), zin 5 (by decide +kernel) (by decide +kernel), zin 681 (by decide +kernel) (by decide +kernel)⟩, (by decide +kernel), ⟨(by decide +kernel), (by decide +kernel), (by decide +kernel)⟩, by decide⟩, zin 680 (by decide +kernel) (by decide +kernel), zinS (q := (⟨"KeptItemsModel", "keepOld", "()V"⟩, 43)) 18 (by decide +kernel)⟩
theorem lM_250 : zLkV "KeptItemsModel" 250 mM_change 2 := ⟨⟨⟨zin 682 (by decide +kernel) (by decide +kernel), zin 5 (by decide +kernel) (by decide +kernel), zin 685 (by decide +kernel) (by decide +kernel)⟩, (by decide +kernel), ⟨(by decide +kernel), (by decide +kernel), (by decide +kernel)⟩, by decide⟩, zin 684 (by decide +kernel) (by decide +kernel), zinS (q := (⟨"KeptItemsModel", "change", "(II)V"⟩, 43)) 19 (by decide +kernel)⟩
theorem lM_253 : zLkV "KeptItemsModel" 253 mM_findTokens 0 := ⟨⟨⟨zin 686 (by decide +kernel) (by decide +kernel), zin 5 (by decide +kernel) (by decide +kernel), zin 689 (by decide +kernel) (by decide +kernel)⟩, (by decide +kernel), ⟨(by decide +kernel), (by decide +kernel), (by decide +kernel)⟩, by decide⟩, zin 688 (by decide +kernel) (by decide +kernel), zinS (q := (⟨"KeptItemsModel", "findTokens", "()V"⟩, 43)) 20 (by decide +kernel)⟩
theorem lM_109 : zLkV "KeptItemsModel" 109 mM_skip 1 := ⟨⟨⟨zin 690 (by decide +kernel) (by decide +kernel), zin 5 (by decide +kernel) (by decide +kernel), zin 693 (by decide +kernel) (by decide +kernel)⟩, (by decide +kernel), ⟨(by decide +kernel), (by decide +kernel), (by decide +kernel)⟩, by decide⟩, zin 692 (by decide +kernel) (by decide +kernel), zinS (q := (⟨"KeptItemsModel", "skip", "(I)I"⟩, 43)) 21 (by decide +kernel)⟩
theorem lM_113 : zLkS "KeptItemsModel" 113 mM_isLetter 1 := ⟨⟨⟨zin 694 (by decide +kernel) (by decide +kernel), zin 5 (by decide +kernel) (by decide +kernel), zin 696 (by decide +kernel) (by decide +kernel)⟩, (by decide +kernel), ⟨(by decide +kernel), (by decide +kernel), (by decide +kernel)⟩, by decide⟩, zin 695 (by decide +kernel) (by decide +kernel)⟩
theorem lM_117 : zLkS "KeptItemsModel" 117 mM_isDigit 1 := ⟨⟨⟨zin 697 (by decide +kernel) (by decide +kernel), zin 5 (by decide +kernel) (by decide +kernel), zin 699 (by decide +kernel) (by decide +kernel)⟩, (by decide +kernel), ⟨(by decide +kernel), (by decide +kernel), (by decide +kernel)⟩, by decide⟩, zin 698 (by decide +kernel) (by decide +kernel)⟩
theorem lM_120 : zLkS "KeptItemsModel" 120 mM_isSign 1 := ⟨⟨⟨zin 700 (by decide +kernel) (by decide +kernel), zin 5 (by decide +kernel) (by decide +kernel), zin 702 (by decide +kernel) (by decide +kernel)⟩, (by decide +kernel), ⟨(by decide +kernel), (by decide +kernel), (by decide +kernel)⟩, by decide⟩, zin 701 (by decide +kernel) (by decide +kernel)⟩
theorem lM_123 : zLkV "KeptItemsModel" 123 mM_addToken 3 := ⟨⟨⟨zin 703 (by decide +kernel) (by decide +kernel), zin 5 (by decide +kernel) (by decide +kernel), zin 706 (by decide +kernel) (by decide +kernel)⟩, (by decide +kernel), ⟨(by decide +kernel), (by decide +kernel), (by decide +kernel)⟩, by decide⟩, zin 705 (by decide +kernel) (by decide +kernel), zinS (q := (⟨"KeptItemsModel", "addToken", "(III)V"⟩, 43)) 22 (by decide +kernel)⟩
theorem lM_256 : zLkV "KeptItemsModel" 256 mM_read 0 := ⟨⟨⟨zin 707 (by decide +kernel) (by decide +kernel), zin 5 (by decide +kernel) (by decide +kernel), zin 710 (by decide +kernel) (by decide +kernel)⟩, (by decide +kernel), ⟨(by decide +kernel), (by decide +kernel), (by decide +kernel)⟩, by decide⟩, zin 709 (by decide +kernel) (by decide +kernel), zinS (q := (⟨"KeptItemsModel", "read", "()V"⟩, 43)) 23 (by decide +kernel)⟩
theorem lM_184 : zLkV "KeptItemsModel" 184 mM_readToken 1 := ⟨⟨⟨zin 711 (by decide +kernel) (by decide +kernel), zin 5 (by decide +kernel) (by decide +kernel), zin 714 (by decide +kernel) (by decide +kernel)⟩, (by decide +kernel), ⟨(by decide +kernel), (by decide +kernel), (by decide +kernel)⟩, by decide⟩, zin 713 (by decide +kernel) (by decide +kernel), zinS (q := (⟨"KeptItemsModel", "readToken", "(I)Z"⟩, 43)) 24 (by decide +kernel)⟩
theorem lM_153 : zLkV "KeptItemsModel" 153 mM_is 2 := ⟨⟨⟨zin 715 (by decide +kernel) (by decide +kernel), zin 5 (by decide +kernel) (by decide +kernel), zin 718 (by decide +kernel) (by decide +kernel)⟩, (by decide +kernel), ⟨(by decide +kernel), (by decide +kernel), (by decide +kernel)⟩, by decide⟩, zin 717 (by decide +kernel) (by decide +kernel), zinS (q := (⟨"KeptItemsModel", "is", "(IC)Z"⟩, 43)) 25 (by decide +kernel)⟩
theorem lM_157 : zLkV "KeptItemsModel" 157 mM_push 1 := ⟨⟨⟨zin 719 (by decide +kernel) (by decide +kernel), zin 5 (by decide +kernel) (by decide +kernel), zin 722 (by decide +kernel) (by decide +kernel)⟩, (by decide +kernel), ⟨(by decide +kernel), (by decide +kernel), (by decide +kernel)⟩, by decide⟩, zin 721 (by decide +kernel) (by decide +kernel), zinS (q := (⟨"KeptItemsModel", "push", "(I)Z"⟩, 43)) 26 (by decide +kernel)⟩
theorem lM_165 : zLkV "KeptItemsModel" 165 mM_whole 0 := ⟨⟨⟨zin 723 (by decide +kernel) (by decide +kernel), zin 5 (by decide +kernel) (by decide +kernel), zin 726 (by decide +kernel) (by decide +kernel)⟩, (by decide +kernel), ⟨(by decide +kernel), (by decide +kernel), (by decide +kernel)⟩, by decide⟩, zin 725 (by decide +kernel) (by decide +kernel), zinS (q := (⟨"KeptItemsModel", "whole", "()V"⟩, 43)) 27 (by decide +kernel)⟩
theorem lM_130 : zLkV "KeptItemsModel" 130 mM_top 0 := ⟨⟨⟨zin 727 (by decide +kernel) (by decide +kernel), zin 5 (by decide +kernel) (by decide +kernel), zin 730 (by decide +kernel) (by decide +kernel)⟩, (by decide +kernel), ⟨(by decide +kernel), (by decide +kernel), (by decide +kernel)⟩, by decide⟩, zin 729 (by decide +kernel) (by decide +kernel), zinS (q := (⟨"KeptItemsModel", "top", "()I"⟩, 43)) 28 (by decide +kernel)⟩
theorem lM_172 : zLkV "KeptItemsModel" 172 mM_readItem 1 := ⟨⟨⟨zin 731 (by decide +kernel) (by decide +kernel), zin 5 (by decide +kernel) (by decide +kernel), zin 734 (by decide +kernel) (by decide +kernel)⟩, (by decide +kernel), ⟨(by decide +kernel), (by decide +kernel), (by decide +kernel)⟩, by decide⟩, zin 733 (by decide +kernel) (by decide +kernel), zinS (q := (⟨"KeptItemsModel", "readItem", "(I)Z"⟩, 43)) 29 (by decide +kernel)⟩
theorem lM_149 : zLkV "KeptItemsModel" 149 mM_start 2 := ⟨⟨⟨zin 735 (by decide +kernel) (by decide +kernel), zin 5 (by decide +kernel) (by decide +kernel), zin 738 (by decide +kernel) (by decide +kernel)⟩, (by decide +kernel), ⟨(by decide +kernel), (by decide +kernel), (by decide +kernel)⟩, by decide⟩, zin 737 (by decide +kernel) (by decide +kernel), zinS (q := (⟨"KeptItemsModel", "start", "(IZ)V"⟩, 43)) 30 (by decide +kernel)⟩
theorem lM_161 : zLkV "KeptItemsModel" 161 mM_finish 2 := ⟨⟨⟨zin 739 (by decide +kernel) (by decide +kernel), zin 5 (by decide +kernel) (by decide +kernel), zin 742 (by decide +kernel) (by decide +kernel)⟩, (by decide +kernel), ⟨(by decide +kernel), (by decide +kernel), (by decide +kernel)⟩, by decide⟩, zin 741 (by decide +kernel) (by decide +kernel), zinS (q := (⟨"KeptItemsModel", "finish", "(II)V"⟩, 43)) 31 (by decide +kernel)⟩
theorem lM_175 : zLkV "KeptItemsModel" 175 mM_readNamed 1 := ⟨⟨⟨zin 743 (by decide +kernel) (by decide +kernel), zin 5 (by decide +kernel) (by decide +kernel), zin 746 (by decide +kernel) (by decide +kernel)⟩, (by decide +kernel), ⟨(by decide +kernel), (by decide +kernel), (by decide +kernel)⟩, by decide⟩, zin 745 (by decide +kernel) (by decide +kernel), zinS (q := (⟨"KeptItemsModel", "readNamed", "(I)Z"⟩, 43)) 32 (by decide +kernel)⟩
theorem lM_178 : zLkV "KeptItemsModel" 178 mM_readFactor 1 := ⟨⟨⟨zin 747 (by decide +kernel) (by decide +kernel), zin 5 (by decide +kernel) (by decide +kernel), zin 750 (by decide +kernel) (by decide +kernel)⟩, (by decide +kernel), ⟨(by decide +kernel), (by decide +kernel), (by decide +kernel)⟩, by decide⟩, zin 749 (by decide +kernel) (by decide +kernel), zinS (q := (⟨"KeptItemsModel", "readFactor", "(I)Z"⟩, 43)) 33 (by decide +kernel)⟩
theorem lM_168 : zLkV "KeptItemsModel" 168 mM_close 0 := ⟨⟨⟨zin 751 (by decide +kernel) (by decide +kernel), zin 5 (by decide +kernel) (by decide +kernel), zin 754 (by decide +kernel) (by decide +kernel)⟩, (by decide +kernel), ⟨(by decide +kernel), (by decide +kernel), (by decide +kernel)⟩, by decide⟩, zin 753 (by decide +kernel) (by decide +kernel), zinS (q := (⟨"KeptItemsModel", "close", "()Z"⟩, 43)) 34 (by decide +kernel)⟩
theorem lM_181 : zLkV "KeptItemsModel" 181 mM_readBehind 1 := ⟨⟨⟨zin 755 (by decide +kernel) (by decide +kernel), zin 5 (by decide +kernel) (by decide +kernel), zin 758 (by decide +kernel) (by decide +kernel)⟩, (by decide +kernel), ⟨(by decide +kernel), (by decide +kernel), (by decide +kernel)⟩, by decide⟩, zin 757 (by decide +kernel) (by decide +kernel), zinS (q := (⟨"KeptItemsModel", "readBehind", "(I)Z"⟩, 43)) 35 (by decide +kernel)⟩
theorem lM_259 : zLkV "KeptItemsModel" 259 mM_compareTokens 3 := ⟨⟨⟨zin 759 (by decide +kernel) (by decide +kernel), zin 5 (by decide +kernel) (by decide +kernel), zin 762 (by decide +kernel) (by decide +kernel)⟩, (by decide +kernel), ⟨(by decide +kernel), (by decide +kernel), (by decide +kernel)⟩, by decide⟩, zin 761 (by decide +kernel) (by decide +kernel), zinS (q := (⟨"KeptItemsModel", "compareTokens", "(III)I"⟩, 43)) 36 (by decide +kernel)⟩
theorem lM_235 : zLkV "KeptItemsModel" 235 mM_tokenAt 3 := ⟨⟨⟨zin 763 (by decide +kernel) (by decide +kernel), zin 5 (by decide +kernel) (by decide +kernel), zin 766 (by decide +kernel) (by decide +kernel)⟩, (by decide +kernel), ⟨(by decide +kernel), (by decide +kernel), (by decide +kernel)⟩, by decide⟩, zin 765 (by decide +kernel) (by decide +kernel), zinS (q := (⟨"KeptItemsModel", "tokenAt", "(III)I"⟩, 43)) 37 (by decide +kernel)⟩
theorem lM_262 : zLkV "KeptItemsModel" 262 mM_giveNumbers 0 := ⟨⟨⟨zin 767 (by decide +kernel) (by decide +kernel), zin 5 (by decide +kernel) (by decide +kernel), zin 770 (by decide +kernel) (by decide +kernel)⟩, (by decide +kernel), ⟨(by decide +kernel), (by decide +kernel), (by decide +kernel)⟩, by decide⟩, zin 769 (by decide +kernel) (by decide +kernel), zinS (q := (⟨"KeptItemsModel", "giveNumbers", "()V"⟩, 43)) 38 (by decide +kernel)⟩
theorem lM_241 : zLkV "KeptItemsModel" 241 mM_oldOf 1 := ⟨⟨⟨zin 771 (by decide +kernel) (by decide +kernel), zin 5 (by decide +kernel) (by decide +kernel), zin 774 (by decide +kernel) (by decide +kernel)⟩, (by decide +kernel), ⟨(by decide +kernel), (by decide +kernel), (by decide +kernel)⟩, by decide⟩, zin 773 (by decide +kernel) (by decide +kernel), zinS (q := (⟨"KeptItemsModel", "oldOf", "(I)I"⟩, 43)) 39 (by decide +kernel)⟩
theorem lM_265 : zLkV "KeptItemsModel" 265 mM_findValues 0 := ⟨⟨⟨zin 775 (by decide +kernel) (by decide +kernel), zin 5 (by decide +kernel) (by decide +kernel), zin 778 (by decide +kernel) (by decide +kernel)⟩, (by decide +kernel), ⟨(by decide +kernel), (by decide +kernel), (by decide +kernel)⟩, by decide⟩, zin 777 (by decide +kernel) (by decide +kernel), zinS (q := (⟨"KeptItemsModel", "findValues", "()V"⟩, 43)) 40 (by decide +kernel)⟩
theorem lM_222 : zLkV "KeptItemsModel" 222 mM_countInside 1 := ⟨⟨⟨zin 779 (by decide +kernel) (by decide +kernel), zin 5 (by decide +kernel) (by decide +kernel), zin 782 (by decide +kernel) (by decide +kernel)⟩, (by decide +kernel), ⟨(by decide +kernel), (by decide +kernel), (by decide +kernel)⟩, by decide⟩, zin 781 (by decide +kernel) (by decide +kernel), zinS (q := (⟨"KeptItemsModel", "countInside", "(I)I"⟩, 43)) 41 (by decide +kernel)⟩
theorem lM_225 : zLkV "KeptItemsModel" 225 mM_valueOf 3 := ⟨⟨⟨zin 783 (by decide +kernel) (by decide +kernel), zin 5 (by decide +kernel) (by decide +kernel), zin 786 (by decide +kernel) (by decide +kernel)⟩, (by decide +kernel), ⟨(by decide +kernel), (by decide +kernel), (by decide +kernel)⟩, by decide⟩, zin 785 (by decide +kernel) (by decide +kernel), zinS (q := (⟨"KeptItemsModel", "valueOf", "(III)I"⟩, 43)) 42 (by decide +kernel)⟩
theorem lM_200 : zLkV "KeptItemsModel" 200 mM_enter 2 := ⟨⟨⟨zin 787 (by decide +kernel) (by decide +kernel), zin 5 (by decide +kernel) (by decide +kernel), zin 790 (by decide +kernel) (by decide +kernel)⟩, (by decide +kernel), ⟨(by decide +kernel), (by decide +kernel), (by decide +kernel)⟩, by decide⟩, zin 789 (by decide +kernel) (by decide +kernel), zinS (q := (⟨"KeptItemsModel", "enter", "(ZI)V"⟩, 43)) 43 (by decide +kernel)⟩
theorem lM_204 : zLkV "KeptItemsModel" 204 mM_leave 1 := ⟨⟨⟨zin 791 (by decide +kernel) (by decide +kernel), zin 5 (by decide +kernel) (by decide +kernel), zin 794 (by decide +kernel) (by decide +kernel)⟩, (by decide +kernel), ⟨(by decide +kernel), (by decide +kernel), (by decide +kernel)⟩, by decide⟩, zin 793 (by decide +kernel) (by decide +kernel), zinS (q := (⟨"KeptItemsModel", "leave", "(Z)I"⟩, 43)) 44 (by decide +kernel)⟩
theorem lM_194 : zLkV "KeptItemsModel" 194 mM_total 0 := ⟨⟨⟨zin 795 (by decide +kernel) (by decide +kernel), zin 5 (by decide +kernel) (by decide +kernel), zin 798 (by decide +kernel) (by decide +kernel)⟩, (by decide +kernel), ⟨(by decide +kernel), (by decide +kernel), (by decide +kernel)⟩, by decide⟩, zin 797 (by decide +kernel) (by decide +kernel), zinS (q := (⟨"KeptItemsModel", "total", "()I"⟩, 43)) 45 (by decide +kernel)⟩
theorem lM_208 : zLkV "KeptItemsModel" 208 mM_take 1 := ⟨⟨⟨zin 799 (by decide +kernel) (by decide +kernel), zin 5 (by decide +kernel) (by decide +kernel), zin 802 (by decide +kernel) (by decide +kernel)⟩, (by decide +kernel), ⟨(by decide +kernel), (by decide +kernel), (by decide +kernel)⟩, by decide⟩, zin 801 (by decide +kernel) (by decide +kernel), zinS (q := (⟨"KeptItemsModel", "take", "(I)V"⟩, 43)) 46 (by decide +kernel)⟩
theorem lM_212 : zLkV "KeptItemsModel" 212 mM_operate 1 := ⟨⟨⟨zin 803 (by decide +kernel) (by decide +kernel), zin 5 (by decide +kernel) (by decide +kernel), zin 806 (by decide +kernel) (by decide +kernel)⟩, (by decide +kernel), ⟨(by decide +kernel), (by decide +kernel), (by decide +kernel)⟩, by decide⟩, zin 805 (by decide +kernel) (by decide +kernel), zinS (q := (⟨"KeptItemsModel", "operate", "(I)V"⟩, 43)) 47 (by decide +kernel)⟩
theorem lM_197 : zLkV "KeptItemsModel" 197 mM_restart 2 := ⟨⟨⟨zin 807 (by decide +kernel) (by decide +kernel), zin 5 (by decide +kernel) (by decide +kernel), zin 810 (by decide +kernel) (by decide +kernel)⟩, (by decide +kernel), ⟨(by decide +kernel), (by decide +kernel), (by decide +kernel)⟩, by decide⟩, zin 809 (by decide +kernel) (by decide +kernel), zinS (q := (⟨"KeptItemsModel", "restart", "(II)V"⟩, 43)) 48 (by decide +kernel)⟩
theorem lM_215 : zLkV "KeptItemsModel" 215 mM_numberValue 1 := ⟨⟨⟨zin 811 (by decide +kernel) (by decide +kernel), zin 5 (by decide +kernel) (by decide +kernel), zin 814 (by decide +kernel) (by decide +kernel)⟩, (by decide +kernel), ⟨(by decide +kernel), (by decide +kernel), (by decide +kernel)⟩, by decide⟩, zin 813 (by decide +kernel) (by decide +kernel), zinS (q := (⟨"KeptItemsModel", "numberValue", "(I)I"⟩, 43)) 49 (by decide +kernel)⟩
theorem lM_218 : zLkV "KeptItemsModel" 218 mM_named 2 := ⟨⟨⟨zin 815 (by decide +kernel) (by decide +kernel), zin 5 (by decide +kernel) (by decide +kernel), zin 818 (by decide +kernel) (by decide +kernel)⟩, (by decide +kernel), ⟨(by decide +kernel), (by decide +kernel), (by decide +kernel)⟩, by decide⟩, zin 817 (by decide +kernel) (by decide +kernel), zinS (q := (⟨"KeptItemsModel", "named", "(II)I"⟩, 43)) 50 (by decide +kernel)⟩
theorem lM_187 : zLkV "KeptItemsModel" 187 mM_sameLetters 2 := ⟨⟨⟨zin 819 (by decide +kernel) (by decide +kernel), zin 5 (by decide +kernel) (by decide +kernel), zin 822 (by decide +kernel) (by decide +kernel)⟩, (by decide +kernel), ⟨(by decide +kernel), (by decide +kernel), (by decide +kernel)⟩, by decide⟩, zin 821 (by decide +kernel) (by decide +kernel), zinS (q := (⟨"KeptItemsModel", "sameLetters", "(II)Z"⟩, 43)) 51 (by decide +kernel)⟩
theorem lW_56 : zLkV "KeptItemsLaw" 56 mM_length 0 := ⟨⟨⟨zin 823 (by decide +kernel) (by decide +kernel), zin 5 (by decide +kernel) (by decide +kernel), zin 826 (by decide +kernel) (by decide +kernel)⟩, (by decide +kernel), ⟨(by decide +kernel), (by decide +kernel), (by decide +kernel)⟩, by decide⟩, zin 824 (by decide +kernel) (by decide +kernel), zin 825 (by decide +kernel) (by decide +kernel)⟩
theorem lW_61 : zLkV "KeptItemsLaw" 61 mM_at 1 := ⟨⟨⟨zin 827 (by decide +kernel) (by decide +kernel), zin 5 (by decide +kernel) (by decide +kernel), zin 830 (by decide +kernel) (by decide +kernel)⟩, (by decide +kernel), ⟨(by decide +kernel), (by decide +kernel), (by decide +kernel)⟩, by decide⟩, zin 828 (by decide +kernel) (by decide +kernel), zin 829 (by decide +kernel) (by decide +kernel)⟩
theorem lW_65 : zLkV "KeptItemsLaw" 65 mM_tokens 0 := ⟨⟨⟨zin 831 (by decide +kernel) (by decide +kernel), zin 5 (by decide +kernel) (by decide +kernel), zin 834 (by decide +kernel) (by decide +kernel)⟩, (by decide +kernel), ⟨(by decide +kernel), (by decide +kernel), (by decide +kernel)⟩, by decide⟩, zin 832 (by decide +kernel) (by decide +kernel), zin 833 (by decide +kernel) (by decide +kernel)⟩
theorem lW_69 : zLkV "KeptItemsLaw" 69 mM_token 1 := ⟨⟨⟨zin 835 (by decide +kernel) (by decide +kernel), zin 5 (by decide +kernel) (by decide +kernel), zin 838 (by decide +kernel) (by decide +kernel)⟩, (by decide +kernel), ⟨(by decide +kernel), (by decide +kernel), (by decide +kernel)⟩, by decide⟩, zin 836 (by decide +kernel) (by decide +kernel), zin 837 (by decide +kernel) (by decide +kernel)⟩
theorem lW_73 : zLkV "KeptItemsLaw" 73 mM_fault 0 := ⟨⟨⟨zin 839 (by decide +kernel) (by decide +kernel), zin 5 (by decide +kernel) (by decide +kernel), zin 842 (by decide +kernel) (by decide +kernel)⟩, (by decide +kernel), ⟨(by decide +kernel), (by decide +kernel), (by decide +kernel)⟩, by decide⟩, zin 840 (by decide +kernel) (by decide +kernel), zin 841 (by decide +kernel) (by decide +kernel)⟩
theorem lW_77 : zLkV "KeptItemsLaw" 77 mM_items 0 := ⟨⟨⟨zin 843 (by decide +kernel) (by decide +kernel), zin 5 (by decide +kernel) (by decide +kernel), zin 846 (by decide +kernel) (by decide +kernel)⟩, (by decide +kernel), ⟨(by decide +kernel), (by decide +kernel), (by decide +kernel)⟩, by decide⟩, zin 844 (by decide +kernel) (by decide +kernel), zin 845 (by decide +kernel) (by decide +kernel)⟩
theorem lW_81 : zLkV "KeptItemsLaw" 81 mM_kept 0 := ⟨⟨⟨zin 847 (by decide +kernel) (by decide +kernel), zin 5 (by decide +kernel) (by decide +kernel), zin 850 (by decide +kernel) (by decide +kernel)⟩, (by decide +kernel), ⟨(by decide +kernel), (by decide +kernel), (by decide +kernel)⟩, by decide⟩, zin 848 (by decide +kernel) (by decide +kernel), zin 849 (by decide +kernel) (by decide +kernel)⟩
theorem lW_85 : zLkV "KeptItemsLaw" 85 mM_number 1 := ⟨⟨⟨zin 851 (by decide +kernel) (by decide +kernel), zin 5 (by decide +kernel) (by decide +kernel), zin 854 (by decide +kernel) (by decide +kernel)⟩, (by decide +kernel), ⟨(by decide +kernel), (by decide +kernel), (by decide +kernel)⟩, by decide⟩, zin 852 (by decide +kernel) (by decide +kernel), zin 853 (by decide +kernel) (by decide +kernel)⟩
theorem lM_268 : zLkV "KeptItemsModel" 268 mM_isItem 1 := ⟨⟨⟨zin 855 (by decide +kernel) (by decide +kernel), zin 5 (by decide +kernel) (by decide +kernel), zin 858 (by decide +kernel) (by decide +kernel)⟩, (by decide +kernel), ⟨(by decide +kernel), (by decide +kernel), (by decide +kernel)⟩, by decide⟩, zin 857 (by decide +kernel) (by decide +kernel), zinS (q := (⟨"KeptItemsModel", "isItem", "(I)Z"⟩, 43)) 52 (by decide +kernel)⟩
theorem lW_89 : zLkV "KeptItemsLaw" 89 mM_which 1 := ⟨⟨⟨zin 859 (by decide +kernel) (by decide +kernel), zin 5 (by decide +kernel) (by decide +kernel), zin 862 (by decide +kernel) (by decide +kernel)⟩, (by decide +kernel), ⟨(by decide +kernel), (by decide +kernel), (by decide +kernel)⟩, by decide⟩, zin 860 (by decide +kernel) (by decide +kernel), zin 861 (by decide +kernel) (by decide +kernel)⟩
theorem lW_92 : zLkV "KeptItemsLaw" 92 mM_begin 1 := ⟨⟨⟨zin 863 (by decide +kernel) (by decide +kernel), zin 5 (by decide +kernel) (by decide +kernel), zin 866 (by decide +kernel) (by decide +kernel)⟩, (by decide +kernel), ⟨(by decide +kernel), (by decide +kernel), (by decide +kernel)⟩, by decide⟩, zin 864 (by decide +kernel) (by decide +kernel), zin 865 (by decide +kernel) (by decide +kernel)⟩
theorem lW_95 : zLkV "KeptItemsLaw" 95 mM_end 1 := ⟨⟨⟨zin 867 (by decide +kernel) (by decide +kernel), zin 5 (by decide +kernel) (by decide +kernel), zin 870 (by decide +kernel) (by decide +kernel)⟩, (by decide +kernel), ⟨(by decide +kernel), (by decide +kernel), (by decide +kernel)⟩, by decide⟩, zin 868 (by decide +kernel) (by decide +kernel), zin 869 (by decide +kernel) (by decide +kernel)⟩
theorem lW_99 : zLkV "KeptItemsLaw" 99 mM_level 1 := ⟨⟨⟨zin 871 (by decide +kernel) (by decide +kernel), zin 5 (by decide +kernel) (by decide +kernel), zin 874 (by decide +kernel) (by decide +kernel)⟩, (by decide +kernel), ⟨(by decide +kernel), (by decide +kernel), (by decide +kernel)⟩, by decide⟩, zin 872 (by decide +kernel) (by decide +kernel), zin 873 (by decide +kernel) (by decide +kernel)⟩
theorem lW_102 : zLkV "KeptItemsLaw" 102 mM_value 1 := ⟨⟨⟨zin 875 (by decide +kernel) (by decide +kernel), zin 5 (by decide +kernel) (by decide +kernel), zin 878 (by decide +kernel) (by decide +kernel)⟩, (by decide +kernel), ⟨(by decide +kernel), (by decide +kernel), (by decide +kernel)⟩, by decide⟩, zin 876 (by decide +kernel) (by decide +kernel), zin 877 (by decide +kernel) (by decide +kernel)⟩
end
section
theorem dJ_indexOf1_0 : decode mJ_indexOf1.2.1 0 = .ok (.aload_n 0, 1) := by decide +kernel
theorem dJ_indexOf1_1 : decode mJ_indexOf1.2.1 1 = .ok (.iload_n 1, 1) := by decide +kernel
theorem dJ_indexOf1_2 : decode mJ_indexOf1.2.1 2 = .ok (.iconst 0, 1) := by decide +kernel
theorem dJ_indexOf1_3 : decode mJ_indexOf1.2.1 3 = .ok (.invokevirtual 633, 3) := by decide +kernel
theorem dJ_indexOf1_6 : decode mJ_indexOf1.2.1 6 = .ok (.ireturn, 1) := by decide +kernel
theorem dJ_indexOf2_0 : decode mJ_indexOf2.2.1 0 = .ok (.aload_n 0, 1) := by decide +kernel
theorem dJ_indexOf2_1 : decode mJ_indexOf2.2.1 1 = .ok (.invokevirtual 492, 3) := by decide +kernel
theorem dJ_indexOf2_4 : decode mJ_indexOf2.2.1 4 = .ok (.ifCond .eq (19), 3) := by decide +kernel
theorem dJ_indexOf2_7 : decode mJ_indexOf2.2.1 7 = .ok (.aload_n 0, 1) := by decide +kernel
theorem dJ_indexOf2_8 : decode mJ_indexOf2.2.1 8 = .ok (.getfield 9, 3) := by decide +kernel
theorem dJ_indexOf2_11 : decode mJ_indexOf2.2.1 11 = .ok (.iload_n 1, 1) := by decide +kernel
theorem dJ_indexOf2_12 : decode mJ_indexOf2.2.1 12 = .ok (.iload_n 2, 1) := by decide +kernel
theorem dJ_indexOf2_13 : decode mJ_indexOf2.2.1 13 = .ok (.aload_n 0, 1) := by decide +kernel
theorem dJ_indexOf2_14 : decode mJ_indexOf2.2.1 14 = .ok (.invokevirtual 505, 3) := by decide +kernel
theorem dJ_indexOf2_17 : decode mJ_indexOf2.2.1 17 = .ok (.invokestatic 637, 3) := by decide +kernel
theorem dJ_indexOf2_20 : decode mJ_indexOf2.2.1 20 = .ok (.goto (16), 3) := by decide +kernel
theorem dJ_indexOf2_23 : decode mJ_indexOf2.2.1 23 = .ok (.aload_n 0, 1) := by decide +kernel
theorem dJ_indexOf2_24 : decode mJ_indexOf2.2.1 24 = .ok (.getfield 9, 3) := by decide +kernel
theorem dJ_indexOf2_27 : decode mJ_indexOf2.2.1 27 = .ok (.iload_n 1, 1) := by decide +kernel
theorem dJ_indexOf2_28 : decode mJ_indexOf2.2.1 28 = .ok (.iload_n 2, 1) := by decide +kernel
theorem dJ_indexOf2_29 : decode mJ_indexOf2.2.1 29 = .ok (.aload_n 0, 1) := by decide +kernel
theorem dJ_indexOf2_30 : decode mJ_indexOf2.2.1 30 = .ok (.invokevirtual 505, 3) := by decide +kernel
theorem dJ_indexOf2_33 : decode mJ_indexOf2.2.1 33 = .ok (.invokestatic 640, 3) := by decide +kernel
theorem dJ_indexOf2_36 : decode mJ_indexOf2.2.1 36 = .ok (.ireturn, 1) := by decide +kernel
theorem dJ_isLatin1_0 : decode mJ_isLatin1.2.1 0 = .ok (.getstatic 38, 3) := by decide +kernel
theorem dJ_isLatin1_3 : decode mJ_isLatin1.2.1 3 = .ok (.ifCond .eq (14), 3) := by decide +kernel
theorem dJ_isLatin1_6 : decode mJ_isLatin1.2.1 6 = .ok (.aload_n 0, 1) := by decide +kernel
theorem dJ_isLatin1_7 : decode mJ_isLatin1.2.1 7 = .ok (.getfield 15, 3) := by decide +kernel
theorem dJ_isLatin1_10 : decode mJ_isLatin1.2.1 10 = .ok (.ifCond .ne (7), 3) := by decide +kernel
theorem dJ_isLatin1_13 : decode mJ_isLatin1.2.1 13 = .ok (.iconst 1, 1) := by decide +kernel
theorem dJ_isLatin1_14 : decode mJ_isLatin1.2.1 14 = .ok (.goto (4), 3) := by decide +kernel
theorem dJ_isLatin1_17 : decode mJ_isLatin1.2.1 17 = .ok (.iconst 0, 1) := by decide +kernel
theorem dJ_isLatin1_18 : decode mJ_isLatin1.2.1 18 = .ok (.ireturn, 1) := by decide +kernel
theorem dJ_length_0 : decode mJ_length.2.1 0 = .ok (.aload_n 0, 1) := by decide +kernel
theorem dJ_length_1 : decode mJ_length.2.1 1 = .ok (.getfield 9, 3) := by decide +kernel
theorem dJ_length_4 : decode mJ_length.2.1 4 = .ok (.arraylength, 1) := by decide +kernel
theorem dJ_length_5 : decode mJ_length.2.1 5 = .ok (.aload_n 0, 1) := by decide +kernel
theorem dJ_length_6 : decode mJ_length.2.1 6 = .ok (.invokevirtual 335, 3) := by decide +kernel
theorem dJ_length_9 : decode mJ_length.2.1 9 = .ok (.ishr, 1) := by decide +kernel
theorem dJ_length_10 : decode mJ_length.2.1 10 = .ok (.ireturn, 1) := by decide +kernel
theorem dJ_coder_0 : decode mJ_coder.2.1 0 = .ok (.getstatic 38, 3) := by decide +kernel
theorem dJ_coder_3 : decode mJ_coder.2.1 3 = .ok (.ifCond .eq (10), 3) := by decide +kernel
theorem dJ_coder_6 : decode mJ_coder.2.1 6 = .ok (.aload_n 0, 1) := by decide +kernel
theorem dJ_coder_7 : decode mJ_coder.2.1 7 = .ok (.getfield 15, 3) := by decide +kernel
theorem dJ_coder_10 : decode mJ_coder.2.1 10 = .ok (.goto (4), 3) := by decide +kernel
theorem dJ_coder_13 : decode mJ_coder.2.1 13 = .ok (.iconst 1, 1) := by decide +kernel
theorem dJ_coder_14 : decode mJ_coder.2.1 14 = .ok (.ireturn, 1) := by decide +kernel
theorem dJ_lindexOf_0 : decode mJ_lindexOf.2.1 0 = .ok (.iload_n 1, 1) := by decide +kernel
theorem dJ_lindexOf_1 : decode mJ_lindexOf.2.1 1 = .ok (.invokestatic 88, 3) := by decide +kernel
theorem dJ_lindexOf_4 : decode mJ_lindexOf.2.1 4 = .ok (.ifCond .ne (5), 3) := by decide +kernel
theorem dJ_lindexOf_7 : decode mJ_lindexOf.2.1 7 = .ok (.iconst (-1), 1) := by decide +kernel
theorem dJ_lindexOf_8 : decode mJ_lindexOf.2.1 8 = .ok (.ireturn, 1) := by decide +kernel
theorem dJ_lindexOf_9 : decode mJ_lindexOf.2.1 9 = .ok (.iload_n 2, 1) := by decide +kernel
theorem dJ_lindexOf_10 : decode mJ_lindexOf.2.1 10 = .ok (.iconst 0, 1) := by decide +kernel
theorem dJ_lindexOf_11 : decode mJ_lindexOf.2.1 11 = .ok (.invokestatic 92, 3) := by decide +kernel
theorem dJ_lindexOf_14 : decode mJ_lindexOf.2.1 14 = .ok (.istore_n 2, 1) := by decide +kernel
theorem dJ_lindexOf_15 : decode mJ_lindexOf.2.1 15 = .ok (.iload_n 3, 1) := by decide +kernel
theorem dJ_lindexOf_16 : decode mJ_lindexOf.2.1 16 = .ok (.aload_n 0, 1) := by decide +kernel
theorem dJ_lindexOf_17 : decode mJ_lindexOf.2.1 17 = .ok (.arraylength, 1) := by decide +kernel
theorem dJ_lindexOf_18 : decode mJ_lindexOf.2.1 18 = .ok (.invokestatic 38, 3) := by decide +kernel
theorem dJ_lindexOf_21 : decode mJ_lindexOf.2.1 21 = .ok (.istore_n 3, 1) := by decide +kernel
theorem dJ_lindexOf_22 : decode mJ_lindexOf.2.1 22 = .ok (.iload_n 2, 1) := by decide +kernel
theorem dJ_lindexOf_23 : decode mJ_lindexOf.2.1 23 = .ok (.iload_n 3, 1) := by decide +kernel
theorem dJ_lindexOf_24 : decode mJ_lindexOf.2.1 24 = .ok (.if_icmp .lt (5), 3) := by decide +kernel
theorem dJ_lindexOf_27 : decode mJ_lindexOf.2.1 27 = .ok (.iconst (-1), 1) := by decide +kernel
theorem dJ_lindexOf_28 : decode mJ_lindexOf.2.1 28 = .ok (.ireturn, 1) := by decide +kernel
theorem dJ_lindexOf_29 : decode mJ_lindexOf.2.1 29 = .ok (.aload_n 0, 1) := by decide +kernel
theorem dJ_lindexOf_30 : decode mJ_lindexOf.2.1 30 = .ok (.iload_n 1, 1) := by decide +kernel
theorem dJ_lindexOf_31 : decode mJ_lindexOf.2.1 31 = .ok (.iload_n 2, 1) := by decide +kernel
theorem dJ_lindexOf_32 : decode mJ_lindexOf.2.1 32 = .ok (.iload_n 3, 1) := by decide +kernel
theorem dJ_lindexOf_33 : decode mJ_lindexOf.2.1 33 = .ok (.invokestatic 95, 3) := by decide +kernel
theorem dJ_lindexOf_36 : decode mJ_lindexOf.2.1 36 = .ok (.ireturn, 1) := by decide +kernel
theorem dJ_canEncode_0 : decode mJ_canEncode.2.1 0 = .ok (.iload_n 0, 1) := by decide +kernel
theorem dJ_canEncode_1 : decode mJ_canEncode.2.1 1 = .ok (.ifCond .lt (14), 3) := by decide +kernel
theorem dJ_canEncode_4 : decode mJ_canEncode.2.1 4 = .ok (.iload_n 0, 1) := by decide +kernel
theorem dJ_canEncode_5 : decode mJ_canEncode.2.1 5 = .ok (.sipush (255), 3) := by decide +kernel
theorem dJ_canEncode_8 : decode mJ_canEncode.2.1 8 = .ok (.if_icmp .gt (7), 3) := by decide +kernel
theorem dJ_canEncode_11 : decode mJ_canEncode.2.1 11 = .ok (.iconst 1, 1) := by decide +kernel
theorem dJ_canEncode_12 : decode mJ_canEncode.2.1 12 = .ok (.goto (4), 3) := by decide +kernel
theorem dJ_canEncode_15 : decode mJ_canEncode.2.1 15 = .ok (.iconst 0, 1) := by decide +kernel
theorem dJ_canEncode_16 : decode mJ_canEncode.2.1 16 = .ok (.ireturn, 1) := by decide +kernel
theorem dJ_indexOfChar_0 : decode mJ_indexOfChar.2.1 0 = .ok (.iload_n 1, 1) := by decide +kernel
theorem dJ_indexOfChar_1 : decode mJ_indexOfChar.2.1 1 = .ok (.i2b, 1) := by decide +kernel
theorem dJ_indexOfChar_2 : decode mJ_indexOfChar.2.1 2 = .ok (.istore 4, 2) := by decide +kernel
theorem dJ_indexOfChar_4 : decode mJ_indexOfChar.2.1 4 = .ok (.iload_n 2, 1) := by decide +kernel
theorem dJ_indexOfChar_5 : decode mJ_indexOfChar.2.1 5 = .ok (.istore 5, 2) := by decide +kernel
theorem dJ_indexOfChar_7 : decode mJ_indexOfChar.2.1 7 = .ok (.iload 5, 2) := by decide +kernel
theorem dJ_indexOfChar_9 : decode mJ_indexOfChar.2.1 9 = .ok (.iload_n 3, 1) := by decide +kernel
theorem dJ_indexOfChar_10 : decode mJ_indexOfChar.2.1 10 = .ok (.if_icmp .ge (21), 3) := by decide +kernel
theorem dJ_indexOfChar_13 : decode mJ_indexOfChar.2.1 13 = .ok (.aload_n 0, 1) := by decide +kernel
theorem dJ_indexOfChar_14 : decode mJ_indexOfChar.2.1 14 = .ok (.iload 5, 2) := by decide +kernel
theorem dJ_indexOfChar_16 : decode mJ_indexOfChar.2.1 16 = .ok (.baload, 1) := by decide +kernel
theorem dJ_indexOfChar_17 : decode mJ_indexOfChar.2.1 17 = .ok (.iload 4, 2) := by decide +kernel
theorem dJ_indexOfChar_19 : decode mJ_indexOfChar.2.1 19 = .ok (.if_icmp .ne (6), 3) := by decide +kernel
theorem dJ_indexOfChar_22 : decode mJ_indexOfChar.2.1 22 = .ok (.iload 5, 2) := by decide +kernel
theorem dJ_indexOfChar_24 : decode mJ_indexOfChar.2.1 24 = .ok (.ireturn, 1) := by decide +kernel
theorem dJ_indexOfChar_25 : decode mJ_indexOfChar.2.1 25 = .ok (.iinc 5 (1), 3) := by decide +kernel
theorem dJ_indexOfChar_28 : decode mJ_indexOfChar.2.1 28 = .ok (.goto (-21), 3) := by decide +kernel
theorem dJ_indexOfChar_31 : decode mJ_indexOfChar.2.1 31 = .ok (.iconst (-1), 1) := by decide +kernel
theorem dJ_indexOfChar_32 : decode mJ_indexOfChar.2.1 32 = .ok (.ireturn, 1) := by decide +kernel
theorem dJ_fill_0 : decode mJ_fill.2.1 0 = .ok (.iconst 0, 1) := by decide +kernel
theorem dJ_fill_1 : decode mJ_fill.2.1 1 = .ok (.istore_n 2, 1) := by decide +kernel
theorem dJ_fill_2 : decode mJ_fill.2.1 2 = .ok (.aload_n 0, 1) := by decide +kernel
theorem dJ_fill_3 : decode mJ_fill.2.1 3 = .ok (.arraylength, 1) := by decide +kernel
theorem dJ_fill_4 : decode mJ_fill.2.1 4 = .ok (.istore_n 3, 1) := by decide +kernel
theorem dJ_fill_5 : decode mJ_fill.2.1 5 = .ok (.iload_n 2, 1) := by decide +kernel
theorem dJ_fill_6 : decode mJ_fill.2.1 6 = .ok (.iload_n 3, 1) := by decide +kernel
theorem dJ_fill_7 : decode mJ_fill.2.1 7 = .ok (.if_icmp .ge (13), 3) := by decide +kernel
theorem dJ_fill_10 : decode mJ_fill.2.1 10 = .ok (.aload_n 0, 1) := by decide +kernel
theorem dJ_fill_11 : decode mJ_fill.2.1 11 = .ok (.iload_n 2, 1) := by decide +kernel
theorem dJ_fill_12 : decode mJ_fill.2.1 12 = .ok (.iload_n 1, 1) := by decide +kernel
theorem dJ_fill_13 : decode mJ_fill.2.1 13 = .ok (.iastore, 1) := by decide +kernel
theorem dJ_fill_14 : decode mJ_fill.2.1 14 = .ok (.iinc 2 (1), 3) := by decide +kernel
theorem dJ_fill_17 : decode mJ_fill.2.1 17 = .ok (.goto (-12), 3) := by decide +kernel
theorem dJ_fill_20 : decode mJ_fill.2.1 20 = .ok (.return_, 1) := by decide +kernel
theorem lS_22 : Jvm.Cond.methodLink "KeptItems$Source" 22 arraycopyName ∈ zT := zin 287 (by decide +kernel) (by decide +kernel)
theorem fJ_38 : Jvm.Cond.fieldLink "java/lang/String" 38 "java/lang/String" "COMPACT_STRINGS" "Z" ∈ zT := zin 332 (by decide +kernel) (by decide +kernel)
theorem lJL_92 : Jvm.Cond.methodLink "java/lang/StringLatin1" 92 Lib.Math.max.name ∈ zT := zin 348 (by decide +kernel) (by decide +kernel)
theorem lJL_38 : Jvm.Cond.methodLink "java/lang/StringLatin1" 38 Lib.Math.min.name ∈ zT := zin 351 (by decide +kernel) (by decide +kernel)
theorem fJ_15 : Jvm.Cond.fieldLink "java/lang/String" 15 "java/lang/String" "coder" "B" ∈ zT := zin 881 (by decide +kernel) (by decide +kernel)
theorem fJ_9 : Jvm.Cond.fieldLink "java/lang/String" 9 "java/lang/String" "value" "[B" ∈ zT := zin 882 (by decide +kernel) (by decide +kernel)
end
section
theorem dK_init_0 : decode mK_init.2.1 0 = .ok (.aload_n 0, 1) := by decide +kernel
theorem dK_init_1 : decode mK_init.2.1 1 = .ok (.invokespecial 1, 3) := by decide +kernel
theorem dK_init_4 : decode mK_init.2.1 4 = .ok (.aload_n 0, 1) := by decide +kernel
theorem dK_init_5 : decode mK_init.2.1 5 = .ok (.bipush (40), 2) := by decide +kernel
theorem dK_init_7 : decode mK_init.2.1 7 = .ok (.newarray .char, 2) := by decide +kernel
theorem dK_init_9 : decode mK_init.2.1 9 = .ok (.putfield 9, 3) := by decide +kernel
theorem dK_init_12 : decode mK_init.2.1 12 = .ok (.aload_n 0, 1) := by decide +kernel
theorem dK_init_13 : decode mK_init.2.1 13 = .ok (.new 13, 3) := by decide +kernel
theorem dK_init_16 : decode mK_init.2.1 16 = .ok (.dup, 1) := by decide +kernel
theorem dK_init_17 : decode mK_init.2.1 17 = .ok (.invokespecial 15, 3) := by decide +kernel
theorem dK_init_20 : decode mK_init.2.1 20 = .ok (.putfield 16, 3) := by decide +kernel
theorem dK_init_23 : decode mK_init.2.1 23 = .ok (.aload_n 0, 1) := by decide +kernel
theorem dK_init_24 : decode mK_init.2.1 24 = .ok (.new 13, 3) := by decide +kernel
theorem dK_init_27 : decode mK_init.2.1 27 = .ok (.dup, 1) := by decide +kernel
theorem dK_init_28 : decode mK_init.2.1 28 = .ok (.invokespecial 15, 3) := by decide +kernel
theorem dK_init_31 : decode mK_init.2.1 31 = .ok (.putfield 20, 3) := by decide +kernel
theorem dK_init_34 : decode mK_init.2.1 34 = .ok (.aload_n 0, 1) := by decide +kernel
theorem dK_init_35 : decode mK_init.2.1 35 = .ok (.sipush (160), 3) := by decide +kernel
theorem dK_init_38 : decode mK_init.2.1 38 = .ok (.newarray .int, 2) := by decide +kernel
theorem dK_init_40 : decode mK_init.2.1 40 = .ok (.putfield 23, 3) := by decide +kernel
theorem dK_init_43 : decode mK_init.2.1 43 = .ok (.return_, 1) := by decide +kernel
theorem dK_type_0 : decode mK_type.2.1 0 = .ok (.iload_n 1, 1) := by decide +kernel
theorem dK_type_1 : decode mK_type.2.1 1 = .ok (.bipush (10), 2) := by decide +kernel
theorem dK_type_3 : decode mK_type.2.1 3 = .ok (.if_icmp .eq (15), 3) := by decide +kernel
theorem dK_type_6 : decode mK_type.2.1 6 = .ok (.iload_n 1, 1) := by decide +kernel
theorem dK_type_7 : decode mK_type.2.1 7 = .ok (.bipush (32), 2) := by decide +kernel
theorem dK_type_9 : decode mK_type.2.1 9 = .ok (.if_icmp .lt (13), 3) := by decide +kernel
theorem dK_type_12 : decode mK_type.2.1 12 = .ok (.iload_n 1, 1) := by decide +kernel
theorem dK_type_13 : decode mK_type.2.1 13 = .ok (.bipush (126), 2) := by decide +kernel
theorem dK_type_15 : decode mK_type.2.1 15 = .ok (.if_icmp .gt (7), 3) := by decide +kernel
theorem dK_type_18 : decode mK_type.2.1 18 = .ok (.iconst 1, 1) := by decide +kernel
theorem dK_type_19 : decode mK_type.2.1 19 = .ok (.goto (4), 3) := by decide +kernel
theorem dK_type_22 : decode mK_type.2.1 22 = .ok (.iconst 0, 1) := by decide +kernel
theorem dK_type_23 : decode mK_type.2.1 23 = .ok (.istore_n 2, 1) := by decide +kernel
theorem dK_type_24 : decode mK_type.2.1 24 = .ok (.iload_n 2, 1) := by decide +kernel
theorem dK_type_25 : decode mK_type.2.1 25 = .ok (.ifCond .eq (12), 3) := by decide +kernel
theorem dK_type_28 : decode mK_type.2.1 28 = .ok (.aload_n 0, 1) := by decide +kernel
theorem dK_type_29 : decode mK_type.2.1 29 = .ok (.getfield 27, 3) := by decide +kernel
theorem dK_type_32 : decode mK_type.2.1 32 = .ok (.bipush (40), 2) := by decide +kernel
theorem dK_type_34 : decode mK_type.2.1 34 = .ok (.if_icmp .lt (5), 3) := by decide +kernel
theorem dK_type_37 : decode mK_type.2.1 37 = .ok (.iconst 0, 1) := by decide +kernel
theorem dK_type_38 : decode mK_type.2.1 38 = .ok (.ireturn, 1) := by decide +kernel
theorem dK_type_39 : decode mK_type.2.1 39 = .ok (.aload_n 0, 1) := by decide +kernel
theorem dK_type_40 : decode mK_type.2.1 40 = .ok (.getfield 9, 3) := by decide +kernel
theorem dK_type_43 : decode mK_type.2.1 43 = .ok (.aload_n 0, 1) := by decide +kernel
theorem dK_type_44 : decode mK_type.2.1 44 = .ok (.getfield 27, 3) := by decide +kernel
theorem dK_type_47 : decode mK_type.2.1 47 = .ok (.iload_n 1, 1) := by decide +kernel
theorem dK_type_48 : decode mK_type.2.1 48 = .ok (.castore, 1) := by decide +kernel
theorem dK_type_49 : decode mK_type.2.1 49 = .ok (.aload_n 0, 1) := by decide +kernel
theorem dK_type_50 : decode mK_type.2.1 50 = .ok (.dup, 1) := by decide +kernel
theorem dK_type_51 : decode mK_type.2.1 51 = .ok (.getfield 27, 3) := by decide +kernel
theorem dK_type_54 : decode mK_type.2.1 54 = .ok (.iconst 1, 1) := by decide +kernel
theorem dK_type_55 : decode mK_type.2.1 55 = .ok (.iadd, 1) := by decide +kernel
theorem dK_type_56 : decode mK_type.2.1 56 = .ok (.putfield 27, 3) := by decide +kernel
theorem dK_type_59 : decode mK_type.2.1 59 = .ok (.iconst 1, 1) := by decide +kernel
theorem dK_type_60 : decode mK_type.2.1 60 = .ok (.ireturn, 1) := by decide +kernel
theorem dK_wipe_0 : decode mK_wipe.2.1 0 = .ok (.aload_n 0, 1) := by decide +kernel
theorem dK_wipe_1 : decode mK_wipe.2.1 1 = .ok (.getfield 27, 3) := by decide +kernel
theorem dK_wipe_4 : decode mK_wipe.2.1 4 = .ok (.istore_n 1, 1) := by decide +kernel
theorem dK_wipe_5 : decode mK_wipe.2.1 5 = .ok (.aload_n 0, 1) := by decide +kernel
theorem dK_wipe_6 : decode mK_wipe.2.1 6 = .ok (.iconst 0, 1) := by decide +kernel
theorem dK_wipe_7 : decode mK_wipe.2.1 7 = .ok (.putfield 27, 3) := by decide +kernel
theorem dK_wipe_10 : decode mK_wipe.2.1 10 = .ok (.iload_n 1, 1) := by decide +kernel
theorem dK_wipe_11 : decode mK_wipe.2.1 11 = .ok (.ireturn, 1) := by decide +kernel
theorem dK_edit_0 : decode mK_edit.2.1 0 = .ok (.aload_n 0, 1) := by decide +kernel
theorem dK_edit_1 : decode mK_edit.2.1 1 = .ok (.getfield 16, 3) := by decide +kernel
theorem dK_edit_4 : decode mK_edit.2.1 4 = .ok (.getfield 31, 3) := by decide +kernel
theorem dK_edit_7 : decode mK_edit.2.1 7 = .ok (.getfield 35, 3) := by decide +kernel
theorem dK_edit_10 : decode mK_edit.2.1 10 = .ok (.istore_n 3, 1) := by decide +kernel
theorem dK_edit_11 : decode mK_edit.2.1 11 = .ok (.iload_n 1, 1) := by decide +kernel
theorem dK_edit_12 : decode mK_edit.2.1 12 = .ok (.ifCond .lt (19), 3) := by decide +kernel
theorem dK_edit_15 : decode mK_edit.2.1 15 = .ok (.iload_n 1, 1) := by decide +kernel
theorem dK_edit_16 : decode mK_edit.2.1 16 = .ok (.iload_n 3, 1) := by decide +kernel
theorem dK_edit_17 : decode mK_edit.2.1 17 = .ok (.if_icmp .gt (14), 3) := by decide +kernel
theorem dK_edit_20 : decode mK_edit.2.1 20 = .ok (.iload_n 2, 1) := by decide +kernel
theorem dK_edit_21 : decode mK_edit.2.1 21 = .ok (.ifCond .lt (10), 3) := by decide +kernel
theorem dK_edit_24 : decode mK_edit.2.1 24 = .ok (.iload_n 2, 1) := by decide +kernel
theorem dK_edit_25 : decode mK_edit.2.1 25 = .ok (.iload_n 3, 1) := by decide +kernel
theorem dK_edit_26 : decode mK_edit.2.1 26 = .ok (.iload_n 1, 1) := by decide +kernel
theorem dK_edit_27 : decode mK_edit.2.1 27 = .ok (.isub, 1) := by decide +kernel
theorem dK_edit_28 : decode mK_edit.2.1 28 = .ok (.if_icmp .le (11), 3) := by decide +kernel
theorem dK_edit_31 : decode mK_edit.2.1 31 = .ok (.new 40, 3) := by decide +kernel
theorem dK_edit_34 : decode mK_edit.2.1 34 = .ok (.dup, 1) := by decide +kernel
theorem dK_edit_35 : decode mK_edit.2.1 35 = .ok (.invokespecial 42, 3) := by decide +kernel
theorem dK_edit_38 : decode mK_edit.2.1 38 = .ok (.athrow, 1) := by decide +kernel
theorem dK_edit_39 : decode mK_edit.2.1 39 = .ok (.iload_n 3, 1) := by decide +kernel
theorem dK_edit_40 : decode mK_edit.2.1 40 = .ok (.iload_n 2, 1) := by decide +kernel
theorem dK_edit_41 : decode mK_edit.2.1 41 = .ok (.isub, 1) := by decide +kernel
theorem dK_edit_42 : decode mK_edit.2.1 42 = .ok (.aload_n 0, 1) := by decide +kernel
theorem dK_edit_43 : decode mK_edit.2.1 43 = .ok (.getfield 27, 3) := by decide +kernel
theorem dK_edit_46 : decode mK_edit.2.1 46 = .ok (.iadd, 1) := by decide +kernel
theorem dK_edit_47 : decode mK_edit.2.1 47 = .ok (.sipush (160), 3) := by decide +kernel
theorem dK_edit_50 : decode mK_edit.2.1 50 = .ok (.if_icmp .le (11), 3) := by decide +kernel
theorem dK_edit_53 : decode mK_edit.2.1 53 = .ok (.new 43, 3) := by decide +kernel
theorem dK_edit_56 : decode mK_edit.2.1 56 = .ok (.dup, 1) := by decide +kernel
theorem dK_edit_57 : decode mK_edit.2.1 57 = .ok (.invokespecial 45, 3) := by decide +kernel
theorem dK_edit_60 : decode mK_edit.2.1 60 = .ok (.athrow, 1) := by decide +kernel
theorem dK_edit_61 : decode mK_edit.2.1 61 = .ok (.aload_n 0, 1) := by decide +kernel
theorem dK_edit_62 : decode mK_edit.2.1 62 = .ok (.getfield 16, 3) := by decide +kernel
theorem dK_edit_65 : decode mK_edit.2.1 65 = .ok (.astore 4, 2) := by decide +kernel
theorem dK_edit_67 : decode mK_edit.2.1 67 = .ok (.aload_n 0, 1) := by decide +kernel
theorem dK_edit_68 : decode mK_edit.2.1 68 = .ok (.aload_n 0, 1) := by decide +kernel
theorem dK_edit_69 : decode mK_edit.2.1 69 = .ok (.getfield 20, 3) := by decide +kernel
theorem dK_edit_72 : decode mK_edit.2.1 72 = .ok (.putfield 16, 3) := by decide +kernel
theorem dK_edit_75 : decode mK_edit.2.1 75 = .ok (.aload_n 0, 1) := by decide +kernel
theorem dK_edit_76 : decode mK_edit.2.1 76 = .ok (.aload 4, 2) := by decide +kernel
theorem dK_edit_78 : decode mK_edit.2.1 78 = .ok (.putfield 20, 3) := by decide +kernel
theorem dK_edit_81 : decode mK_edit.2.1 81 = .ok (.aload_n 0, 1) := by decide +kernel
theorem dK_edit_82 : decode mK_edit.2.1 82 = .ok (.getfield 16, 3) := by decide +kernel
theorem dK_edit_85 : decode mK_edit.2.1 85 = .ok (.getfield 31, 3) := by decide +kernel
theorem dK_edit_88 : decode mK_edit.2.1 88 = .ok (.aload 4, 2) := by decide +kernel
theorem dK_edit_90 : decode mK_edit.2.1 90 = .ok (.getfield 31, 3) := by decide +kernel
theorem dK_edit_93 : decode mK_edit.2.1 93 = .ok (.iload_n 1, 1) := by decide +kernel
theorem dK_edit_94 : decode mK_edit.2.1 94 = .ok (.iload_n 2, 1) := by decide +kernel
theorem dK_edit_95 : decode mK_edit.2.1 95 = .ok (.aload_n 0, 1) := by decide +kernel
theorem dK_edit_96 : decode mK_edit.2.1 96 = .ok (.getfield 9, 3) := by decide +kernel
theorem dK_edit_99 : decode mK_edit.2.1 99 = .ok (.aload_n 0, 1) := by decide +kernel
theorem dK_edit_100 : decode mK_edit.2.1 100 = .ok (.getfield 27, 3) := by decide +kernel
theorem dK_edit_103 : decode mK_edit.2.1 103 = .ok (.invokevirtual 46, 3) := by decide +kernel
theorem dK_edit_106 : decode mK_edit.2.1 106 = .ok (.aload_n 0, 1) := by decide +kernel
theorem dK_edit_107 : decode mK_edit.2.1 107 = .ok (.getfield 16, 3) := by decide +kernel
theorem dK_edit_110 : decode mK_edit.2.1 110 = .ok (.getfield 31, 3) := by decide +kernel
theorem dK_edit_113 : decode mK_edit.2.1 113 = .ok (.invokevirtual 50, 3) := by decide +kernel
theorem dK_edit_116 : decode mK_edit.2.1 116 = .ok (.aload_n 0, 1) := by decide +kernel
theorem dK_edit_117 : decode mK_edit.2.1 117 = .ok (.getfield 16, 3) := by decide +kernel
theorem dK_edit_120 : decode mK_edit.2.1 120 = .ok (.invokevirtual 53, 3) := by decide +kernel
theorem dK_edit_123 : decode mK_edit.2.1 123 = .ok (.aload_n 0, 1) := by decide +kernel
theorem dK_edit_124 : decode mK_edit.2.1 124 = .ok (.iload_n 1, 1) := by decide +kernel
theorem dK_edit_125 : decode mK_edit.2.1 125 = .ok (.iload_n 2, 1) := by decide +kernel
theorem dK_edit_126 : decode mK_edit.2.1 126 = .ok (.invokevirtual 56, 3) := by decide +kernel
theorem dK_edit_129 : decode mK_edit.2.1 129 = .ok (.istore 5, 2) := by decide +kernel
theorem dK_edit_131 : decode mK_edit.2.1 131 = .ok (.aload_n 0, 1) := by decide +kernel
theorem dK_edit_132 : decode mK_edit.2.1 132 = .ok (.invokevirtual 60, 3) := by decide +kernel
theorem dK_edit_135 : decode mK_edit.2.1 135 = .ok (.aload_n 0, 1) := by decide +kernel
theorem dK_edit_136 : decode mK_edit.2.1 136 = .ok (.iconst 0, 1) := by decide +kernel
theorem dK_edit_137 : decode mK_edit.2.1 137 = .ok (.putfield 27, 3) := by decide +kernel
theorem dK_edit_140 : decode mK_edit.2.1 140 = .ok (.aload_n 0, 1) := by decide +kernel
theorem dK_edit_141 : decode mK_edit.2.1 141 = .ok (.getfield 16, 3) := by decide +kernel
theorem dK_edit_144 : decode mK_edit.2.1 144 = .ok (.getfield 31, 3) := by decide +kernel
theorem dK_edit_147 : decode mK_edit.2.1 147 = .ok (.getfield 63, 3) := by decide +kernel
theorem dK_edit_150 : decode mK_edit.2.1 150 = .ok (.iload 5, 2) := by decide +kernel
theorem dK_edit_152 : decode mK_edit.2.1 152 = .ok (.isub, 1) := by decide +kernel
theorem dK_edit_153 : decode mK_edit.2.1 153 = .ok (.ireturn, 1) := by decide +kernel
theorem dK_length_0 : decode mK_length.2.1 0 = .ok (.aload_n 0, 1) := by decide +kernel
theorem dK_length_1 : decode mK_length.2.1 1 = .ok (.getfield 16, 3) := by decide +kernel
theorem dK_length_4 : decode mK_length.2.1 4 = .ok (.getfield 31, 3) := by decide +kernel
theorem dK_length_7 : decode mK_length.2.1 7 = .ok (.getfield 35, 3) := by decide +kernel
theorem dK_length_10 : decode mK_length.2.1 10 = .ok (.ireturn, 1) := by decide +kernel
theorem dK_at_0 : decode mK_at.2.1 0 = .ok (.iload_n 1, 1) := by decide +kernel
theorem dK_at_1 : decode mK_at.2.1 1 = .ok (.ifCond .lt (32), 3) := by decide +kernel
theorem dK_at_4 : decode mK_at.2.1 4 = .ok (.iload_n 1, 1) := by decide +kernel
theorem dK_at_5 : decode mK_at.2.1 5 = .ok (.aload_n 0, 1) := by decide +kernel
theorem dK_at_6 : decode mK_at.2.1 6 = .ok (.getfield 16, 3) := by decide +kernel
theorem dK_at_9 : decode mK_at.2.1 9 = .ok (.getfield 31, 3) := by decide +kernel
theorem dK_at_12 : decode mK_at.2.1 12 = .ok (.getfield 35, 3) := by decide +kernel
theorem dK_at_15 : decode mK_at.2.1 15 = .ok (.if_icmp .ge (18), 3) := by decide +kernel
theorem dK_at_18 : decode mK_at.2.1 18 = .ok (.aload_n 0, 1) := by decide +kernel
theorem dK_at_19 : decode mK_at.2.1 19 = .ok (.getfield 16, 3) := by decide +kernel
theorem dK_at_22 : decode mK_at.2.1 22 = .ok (.getfield 31, 3) := by decide +kernel
theorem dK_at_25 : decode mK_at.2.1 25 = .ok (.getfield 66, 3) := by decide +kernel
theorem dK_at_28 : decode mK_at.2.1 28 = .ok (.iload_n 1, 1) := by decide +kernel
theorem dK_at_29 : decode mK_at.2.1 29 = .ok (.caload, 1) := by decide +kernel
theorem dK_at_30 : decode mK_at.2.1 30 = .ok (.goto (4), 3) := by decide +kernel
theorem dK_at_33 : decode mK_at.2.1 33 = .ok (.iconst 0, 1) := by decide +kernel
theorem dK_at_34 : decode mK_at.2.1 34 = .ok (.ireturn, 1) := by decide +kernel
theorem dK_tokens_0 : decode mK_tokens.2.1 0 = .ok (.aload_n 0, 1) := by decide +kernel
theorem dK_tokens_1 : decode mK_tokens.2.1 1 = .ok (.getfield 16, 3) := by decide +kernel
theorem dK_tokens_4 : decode mK_tokens.2.1 4 = .ok (.getfield 31, 3) := by decide +kernel
theorem dK_tokens_7 : decode mK_tokens.2.1 7 = .ok (.getfield 63, 3) := by decide +kernel
theorem dK_tokens_10 : decode mK_tokens.2.1 10 = .ok (.ireturn, 1) := by decide +kernel
theorem dK_token_0 : decode mK_token.2.1 0 = .ok (.iload_n 1, 1) := by decide +kernel
theorem dK_token_1 : decode mK_token.2.1 1 = .ok (.ifCond .lt (17), 3) := by decide +kernel
theorem dK_token_4 : decode mK_token.2.1 4 = .ok (.iload_n 1, 1) := by decide +kernel
theorem dK_token_5 : decode mK_token.2.1 5 = .ok (.aload_n 0, 1) := by decide +kernel
theorem dK_token_6 : decode mK_token.2.1 6 = .ok (.getfield 16, 3) := by decide +kernel
theorem dK_token_9 : decode mK_token.2.1 9 = .ok (.getfield 31, 3) := by decide +kernel
theorem dK_token_12 : decode mK_token.2.1 12 = .ok (.getfield 63, 3) := by decide +kernel
theorem dK_token_15 : decode mK_token.2.1 15 = .ok (.if_icmp .lt (11), 3) := by decide +kernel
theorem dK_token_18 : decode mK_token.2.1 18 = .ok (.new 40, 3) := by decide +kernel
theorem dK_token_21 : decode mK_token.2.1 21 = .ok (.dup, 1) := by decide +kernel
theorem dK_token_22 : decode mK_token.2.1 22 = .ok (.invokespecial 42, 3) := by decide +kernel
theorem dK_token_25 : decode mK_token.2.1 25 = .ok (.athrow, 1) := by decide +kernel
theorem dK_token_26 : decode mK_token.2.1 26 = .ok (.aload_n 0, 1) := by decide +kernel
theorem dK_token_27 : decode mK_token.2.1 27 = .ok (.getfield 16, 3) := by decide +kernel
theorem dK_token_30 : decode mK_token.2.1 30 = .ok (.getfield 31, 3) := by decide +kernel
theorem dK_token_33 : decode mK_token.2.1 33 = .ok (.getfield 69, 3) := by decide +kernel
theorem dK_token_36 : decode mK_token.2.1 36 = .ok (.iload_n 1, 1) := by decide +kernel
theorem dK_token_37 : decode mK_token.2.1 37 = .ok (.iaload, 1) := by decide +kernel
theorem dK_token_38 : decode mK_token.2.1 38 = .ok (.ireturn, 1) := by decide +kernel
theorem dK_fault_0 : decode mK_fault.2.1 0 = .ok (.aload_n 0, 1) := by decide +kernel
theorem dK_fault_1 : decode mK_fault.2.1 1 = .ok (.getfield 16, 3) := by decide +kernel
theorem dK_fault_4 : decode mK_fault.2.1 4 = .ok (.invokevirtual 72, 3) := by decide +kernel
theorem dK_fault_7 : decode mK_fault.2.1 7 = .ok (.ireturn, 1) := by decide +kernel
theorem dK_items_0 : decode mK_items.2.1 0 = .ok (.aload_n 0, 1) := by decide +kernel
theorem dK_items_1 : decode mK_items.2.1 1 = .ok (.getfield 16, 3) := by decide +kernel
theorem dK_items_4 : decode mK_items.2.1 4 = .ok (.getfield 76, 3) := by decide +kernel
theorem dK_items_7 : decode mK_items.2.1 7 = .ok (.getfield 80, 3) := by decide +kernel
theorem dK_items_10 : decode mK_items.2.1 10 = .ok (.ireturn, 1) := by decide +kernel
theorem dK_kept_0 : decode mK_kept.2.1 0 = .ok (.aload_n 0, 1) := by decide +kernel
theorem dK_kept_1 : decode mK_kept.2.1 1 = .ok (.getfield 83, 3) := by decide +kernel
theorem dK_kept_4 : decode mK_kept.2.1 4 = .ok (.ireturn, 1) := by decide +kernel
theorem dK_number_0 : decode mK_number.2.1 0 = .ok (.aload_n 0, 1) := by decide +kernel
theorem dK_number_1 : decode mK_number.2.1 1 = .ok (.getfield 16, 3) := by decide +kernel
theorem dK_number_4 : decode mK_number.2.1 4 = .ok (.getfield 76, 3) := by decide +kernel
theorem dK_number_7 : decode mK_number.2.1 7 = .ok (.iload_n 1, 1) := by decide +kernel
theorem dK_number_8 : decode mK_number.2.1 8 = .ok (.invokevirtual 86, 3) := by decide +kernel
theorem dK_number_11 : decode mK_number.2.1 11 = .ok (.ifCond .eq (18), 3) := by decide +kernel
theorem dK_number_14 : decode mK_number.2.1 14 = .ok (.aload_n 0, 1) := by decide +kernel
theorem dK_number_15 : decode mK_number.2.1 15 = .ok (.getfield 16, 3) := by decide +kernel
theorem dK_number_18 : decode mK_number.2.1 18 = .ok (.getfield 76, 3) := by decide +kernel
theorem dK_number_21 : decode mK_number.2.1 21 = .ok (.getfield 90, 3) := by decide +kernel
theorem dK_number_24 : decode mK_number.2.1 24 = .ok (.iload_n 1, 1) := by decide +kernel
theorem dK_number_25 : decode mK_number.2.1 25 = .ok (.iaload, 1) := by decide +kernel
theorem dK_number_26 : decode mK_number.2.1 26 = .ok (.goto (4), 3) := by decide +kernel
theorem dK_number_29 : decode mK_number.2.1 29 = .ok (.iconst (-1), 1) := by decide +kernel
theorem dK_number_30 : decode mK_number.2.1 30 = .ok (.ireturn, 1) := by decide +kernel
theorem dK_which_0 : decode mK_which.2.1 0 = .ok (.aload_n 0, 1) := by decide +kernel
theorem dK_which_1 : decode mK_which.2.1 1 = .ok (.getfield 16, 3) := by decide +kernel
theorem dK_which_4 : decode mK_which.2.1 4 = .ok (.getfield 76, 3) := by decide +kernel
theorem dK_which_7 : decode mK_which.2.1 7 = .ok (.iload_n 1, 1) := by decide +kernel
theorem dK_which_8 : decode mK_which.2.1 8 = .ok (.invokevirtual 93, 3) := by decide +kernel
theorem dK_which_11 : decode mK_which.2.1 11 = .ok (.ireturn, 1) := by decide +kernel
theorem dK_begin_0 : decode mK_begin.2.1 0 = .ok (.aload_n 0, 1) := by decide +kernel
theorem dK_begin_1 : decode mK_begin.2.1 1 = .ok (.getfield 16, 3) := by decide +kernel
theorem dK_begin_4 : decode mK_begin.2.1 4 = .ok (.getfield 76, 3) := by decide +kernel
theorem dK_begin_7 : decode mK_begin.2.1 7 = .ok (.iload_n 1, 1) := by decide +kernel
theorem dK_begin_8 : decode mK_begin.2.1 8 = .ok (.invokevirtual 86, 3) := by decide +kernel
theorem dK_begin_11 : decode mK_begin.2.1 11 = .ok (.ifCond .ne (11), 3) := by decide +kernel
theorem dK_begin_14 : decode mK_begin.2.1 14 = .ok (.new 40, 3) := by decide +kernel
theorem dK_begin_17 : decode mK_begin.2.1 17 = .ok (.dup, 1) := by decide +kernel
theorem dK_begin_18 : decode mK_begin.2.1 18 = .ok (.invokespecial 42, 3) := by decide +kernel
theorem dK_begin_21 : decode mK_begin.2.1 21 = .ok (.athrow, 1) := by decide +kernel
theorem dK_begin_22 : decode mK_begin.2.1 22 = .ok (.aload_n 0, 1) := by decide +kernel
theorem dK_begin_23 : decode mK_begin.2.1 23 = .ok (.getfield 16, 3) := by decide +kernel
theorem dK_begin_26 : decode mK_begin.2.1 26 = .ok (.getfield 31, 3) := by decide +kernel
theorem dK_begin_29 : decode mK_begin.2.1 29 = .ok (.aload_n 0, 1) := by decide +kernel
theorem dK_begin_30 : decode mK_begin.2.1 30 = .ok (.getfield 16, 3) := by decide +kernel
theorem dK_begin_33 : decode mK_begin.2.1 33 = .ok (.getfield 76, 3) := by decide +kernel
theorem dK_begin_36 : decode mK_begin.2.1 36 = .ok (.getfield 97, 3) := by decide +kernel
theorem dK_begin_39 : decode mK_begin.2.1 39 = .ok (.iload_n 1, 1) := by decide +kernel
theorem dK_begin_40 : decode mK_begin.2.1 40 = .ok (.iaload, 1) := by decide +kernel
theorem dK_begin_41 : decode mK_begin.2.1 41 = .ok (.invokevirtual 100, 3) := by decide +kernel
theorem dK_begin_44 : decode mK_begin.2.1 44 = .ok (.ireturn, 1) := by decide +kernel
theorem dK_end_0 : decode mK_end.2.1 0 = .ok (.aload_n 0, 1) := by decide +kernel
theorem dK_end_1 : decode mK_end.2.1 1 = .ok (.getfield 16, 3) := by decide +kernel
theorem dK_end_4 : decode mK_end.2.1 4 = .ok (.getfield 76, 3) := by decide +kernel
theorem dK_end_7 : decode mK_end.2.1 7 = .ok (.iload_n 1, 1) := by decide +kernel
theorem dK_end_8 : decode mK_end.2.1 8 = .ok (.invokevirtual 86, 3) := by decide +kernel
theorem dK_end_11 : decode mK_end.2.1 11 = .ok (.ifCond .ne (11), 3) := by decide +kernel
theorem dK_end_14 : decode mK_end.2.1 14 = .ok (.new 40, 3) := by decide +kernel
theorem dK_end_17 : decode mK_end.2.1 17 = .ok (.dup, 1) := by decide +kernel
theorem dK_end_18 : decode mK_end.2.1 18 = .ok (.invokespecial 42, 3) := by decide +kernel
theorem dK_end_21 : decode mK_end.2.1 21 = .ok (.athrow, 1) := by decide +kernel
theorem dK_end_22 : decode mK_end.2.1 22 = .ok (.aload_n 0, 1) := by decide +kernel
theorem dK_end_23 : decode mK_end.2.1 23 = .ok (.getfield 16, 3) := by decide +kernel
theorem dK_end_26 : decode mK_end.2.1 26 = .ok (.getfield 31, 3) := by decide +kernel
theorem dK_end_29 : decode mK_end.2.1 29 = .ok (.aload_n 0, 1) := by decide +kernel
theorem dK_end_30 : decode mK_end.2.1 30 = .ok (.getfield 16, 3) := by decide +kernel
theorem dK_end_33 : decode mK_end.2.1 33 = .ok (.getfield 76, 3) := by decide +kernel
theorem dK_end_36 : decode mK_end.2.1 36 = .ok (.getfield 103, 3) := by decide +kernel
theorem dK_end_39 : decode mK_end.2.1 39 = .ok (.iload_n 1, 1) := by decide +kernel
theorem dK_end_40 : decode mK_end.2.1 40 = .ok (.iaload, 1) := by decide +kernel
theorem dK_end_41 : decode mK_end.2.1 41 = .ok (.invokevirtual 106, 3) := by decide +kernel
theorem dK_end_44 : decode mK_end.2.1 44 = .ok (.ireturn, 1) := by decide +kernel
theorem dK_level_0 : decode mK_level.2.1 0 = .ok (.aload_n 0, 1) := by decide +kernel
theorem dK_level_1 : decode mK_level.2.1 1 = .ok (.getfield 16, 3) := by decide +kernel
theorem dK_level_4 : decode mK_level.2.1 4 = .ok (.getfield 76, 3) := by decide +kernel
theorem dK_level_7 : decode mK_level.2.1 7 = .ok (.iload_n 1, 1) := by decide +kernel
theorem dK_level_8 : decode mK_level.2.1 8 = .ok (.invokevirtual 86, 3) := by decide +kernel
theorem dK_level_11 : decode mK_level.2.1 11 = .ok (.ifCond .eq (18), 3) := by decide +kernel
theorem dK_level_14 : decode mK_level.2.1 14 = .ok (.aload_n 0, 1) := by decide +kernel
theorem dK_level_15 : decode mK_level.2.1 15 = .ok (.getfield 16, 3) := by decide +kernel
theorem dK_level_18 : decode mK_level.2.1 18 = .ok (.getfield 76, 3) := by decide +kernel
theorem dK_level_21 : decode mK_level.2.1 21 = .ok (.getfield 109, 3) := by decide +kernel
theorem dK_level_24 : decode mK_level.2.1 24 = .ok (.iload_n 1, 1) := by decide +kernel
theorem dK_level_25 : decode mK_level.2.1 25 = .ok (.iaload, 1) := by decide +kernel
theorem dK_level_26 : decode mK_level.2.1 26 = .ok (.goto (4), 3) := by decide +kernel
theorem dK_level_29 : decode mK_level.2.1 29 = .ok (.iconst (-1), 1) := by decide +kernel
theorem dK_level_30 : decode mK_level.2.1 30 = .ok (.ireturn, 1) := by decide +kernel
theorem dK_value_0 : decode mK_value.2.1 0 = .ok (.aload_n 0, 1) := by decide +kernel
theorem dK_value_1 : decode mK_value.2.1 1 = .ok (.getfield 16, 3) := by decide +kernel
theorem dK_value_4 : decode mK_value.2.1 4 = .ok (.getfield 76, 3) := by decide +kernel
theorem dK_value_7 : decode mK_value.2.1 7 = .ok (.iload_n 1, 1) := by decide +kernel
theorem dK_value_8 : decode mK_value.2.1 8 = .ok (.invokevirtual 86, 3) := by decide +kernel
theorem dK_value_11 : decode mK_value.2.1 11 = .ok (.ifCond .ne (11), 3) := by decide +kernel
theorem dK_value_14 : decode mK_value.2.1 14 = .ok (.new 40, 3) := by decide +kernel
theorem dK_value_17 : decode mK_value.2.1 17 = .ok (.dup, 1) := by decide +kernel
theorem dK_value_18 : decode mK_value.2.1 18 = .ok (.invokespecial 42, 3) := by decide +kernel
theorem dK_value_21 : decode mK_value.2.1 21 = .ok (.athrow, 1) := by decide +kernel
theorem dK_value_22 : decode mK_value.2.1 22 = .ok (.aload_n 0, 1) := by decide +kernel
theorem dK_value_23 : decode mK_value.2.1 23 = .ok (.getfield 16, 3) := by decide +kernel
theorem dK_value_26 : decode mK_value.2.1 26 = .ok (.getfield 76, 3) := by decide +kernel
theorem dK_value_29 : decode mK_value.2.1 29 = .ok (.getfield 112, 3) := by decide +kernel
theorem dK_value_32 : decode mK_value.2.1 32 = .ok (.iload_n 1, 1) := by decide +kernel
theorem dK_value_33 : decode mK_value.2.1 33 = .ok (.iaload, 1) := by decide +kernel
theorem dK_value_34 : decode mK_value.2.1 34 = .ok (.ireturn, 1) := by decide +kernel
theorem dK_traceTokens_0 : decode mK_traceTokens.2.1 0 = .ok (.aload_n 0, 1) := by decide +kernel
theorem dK_traceTokens_1 : decode mK_traceTokens.2.1 1 = .ok (.getfield 16, 3) := by decide +kernel
theorem dK_traceTokens_4 : decode mK_traceTokens.2.1 4 = .ok (.getfield 31, 3) := by decide +kernel
theorem dK_traceTokens_7 : decode mK_traceTokens.2.1 7 = .ok (.astore_n 3, 1) := by decide +kernel
theorem dK_traceTokens_8 : decode mK_traceTokens.2.1 8 = .ok (.iconst 0, 1) := by decide +kernel
theorem dK_traceTokens_9 : decode mK_traceTokens.2.1 9 = .ok (.istore 4, 2) := by decide +kernel
theorem dK_traceTokens_11 : decode mK_traceTokens.2.1 11 = .ok (.iconst 0, 1) := by decide +kernel
theorem dK_traceTokens_12 : decode mK_traceTokens.2.1 12 = .ok (.istore 5, 2) := by decide +kernel
theorem dK_traceTokens_14 : decode mK_traceTokens.2.1 14 = .ok (.aload_n 0, 1) := by decide +kernel
theorem dK_traceTokens_15 : decode mK_traceTokens.2.1 15 = .ok (.getfield 23, 3) := by decide +kernel
theorem dK_traceTokens_18 : decode mK_traceTokens.2.1 18 = .ok (.iconst (-1), 1) := by decide +kernel
theorem dK_traceTokens_19 : decode mK_traceTokens.2.1 19 = .ok (.invokestatic 115, 3) := by decide +kernel
theorem dK_traceTokens_22 : decode mK_traceTokens.2.1 22 = .ok (.iconst 0, 1) := by decide +kernel
theorem dK_traceTokens_23 : decode mK_traceTokens.2.1 23 = .ok (.istore 6, 2) := by decide +kernel
theorem dK_traceTokens_25 : decode mK_traceTokens.2.1 25 = .ok (.iload 6, 2) := by decide +kernel
theorem dK_traceTokens_27 : decode mK_traceTokens.2.1 27 = .ok (.aload_n 0, 1) := by decide +kernel
theorem dK_traceTokens_28 : decode mK_traceTokens.2.1 28 = .ok (.getfield 20, 3) := by decide +kernel
theorem dK_traceTokens_31 : decode mK_traceTokens.2.1 31 = .ok (.getfield 31, 3) := by decide +kernel
theorem dK_traceTokens_34 : decode mK_traceTokens.2.1 34 = .ok (.getfield 63, 3) := by decide +kernel
theorem dK_traceTokens_37 : decode mK_traceTokens.2.1 37 = .ok (.if_icmp .ge (89), 3) := by decide +kernel
theorem dK_traceTokens_40 : decode mK_traceTokens.2.1 40 = .ok (.aload_n 0, 1) := by decide +kernel
theorem dK_traceTokens_41 : decode mK_traceTokens.2.1 41 = .ok (.getfield 20, 3) := by decide +kernel
theorem dK_traceTokens_44 : decode mK_traceTokens.2.1 44 = .ok (.getfield 31, 3) := by decide +kernel
theorem dK_traceTokens_47 : decode mK_traceTokens.2.1 47 = .ok (.iload 6, 2) := by decide +kernel
theorem dK_traceTokens_49 : decode mK_traceTokens.2.1 49 = .ok (.iload_n 1, 1) := by decide +kernel
theorem dK_traceTokens_50 : decode mK_traceTokens.2.1 50 = .ok (.iload_n 2, 1) := by decide +kernel
theorem dK_traceTokens_51 : decode mK_traceTokens.2.1 51 = .ok (.aload_n 0, 1) := by decide +kernel
theorem dK_traceTokens_52 : decode mK_traceTokens.2.1 52 = .ok (.getfield 27, 3) := by decide +kernel
theorem dK_traceTokens_55 : decode mK_traceTokens.2.1 55 = .ok (.invokevirtual 120, 3) := by decide +kernel
theorem dK_traceTokens_58 : decode mK_traceTokens.2.1 58 = .ok (.istore 7, 2) := by decide +kernel
theorem dK_traceTokens_60 : decode mK_traceTokens.2.1 60 = .ok (.iload 5, 2) := by decide +kernel
theorem dK_traceTokens_62 : decode mK_traceTokens.2.1 62 = .ok (.aload_n 3, 1) := by decide +kernel
theorem dK_traceTokens_63 : decode mK_traceTokens.2.1 63 = .ok (.getfield 63, 3) := by decide +kernel
theorem dK_traceTokens_66 : decode mK_traceTokens.2.1 66 = .ok (.if_icmp .ge (21), 3) := by decide +kernel
theorem dK_traceTokens_69 : decode mK_traceTokens.2.1 69 = .ok (.aload_n 3, 1) := by decide +kernel
theorem dK_traceTokens_70 : decode mK_traceTokens.2.1 70 = .ok (.getfield 69, 3) := by decide +kernel
theorem dK_traceTokens_73 : decode mK_traceTokens.2.1 73 = .ok (.iload 5, 2) := by decide +kernel
theorem dK_traceTokens_75 : decode mK_traceTokens.2.1 75 = .ok (.iaload, 1) := by decide +kernel
theorem dK_traceTokens_76 : decode mK_traceTokens.2.1 76 = .ok (.iload 7, 2) := by decide +kernel
theorem dK_traceTokens_78 : decode mK_traceTokens.2.1 78 = .ok (.if_icmp .ge (9), 3) := by decide +kernel
theorem dK_traceTokens_81 : decode mK_traceTokens.2.1 81 = .ok (.iinc 5 (1), 3) := by decide +kernel
theorem dK_traceTokens_84 : decode mK_traceTokens.2.1 84 = .ok (.goto (-24), 3) := by decide +kernel
theorem dK_traceTokens_87 : decode mK_traceTokens.2.1 87 = .ok (.iload 5, 2) := by decide +kernel
theorem dK_traceTokens_89 : decode mK_traceTokens.2.1 89 = .ok (.aload_n 3, 1) := by decide +kernel
theorem dK_traceTokens_90 : decode mK_traceTokens.2.1 90 = .ok (.getfield 63, 3) := by decide +kernel
theorem dK_traceTokens_93 : decode mK_traceTokens.2.1 93 = .ok (.if_icmp .ge (27), 3) := by decide +kernel
theorem dK_traceTokens_96 : decode mK_traceTokens.2.1 96 = .ok (.aload_n 3, 1) := by decide +kernel
theorem dK_traceTokens_97 : decode mK_traceTokens.2.1 97 = .ok (.getfield 69, 3) := by decide +kernel
theorem dK_traceTokens_100 : decode mK_traceTokens.2.1 100 = .ok (.iload 5, 2) := by decide +kernel
theorem dK_traceTokens_102 : decode mK_traceTokens.2.1 102 = .ok (.iaload, 1) := by decide +kernel
theorem dK_traceTokens_103 : decode mK_traceTokens.2.1 103 = .ok (.iload 7, 2) := by decide +kernel
theorem dK_traceTokens_105 : decode mK_traceTokens.2.1 105 = .ok (.if_icmp .ne (15), 3) := by decide +kernel
theorem dK_traceTokens_108 : decode mK_traceTokens.2.1 108 = .ok (.aload_n 0, 1) := by decide +kernel
theorem dK_traceTokens_109 : decode mK_traceTokens.2.1 109 = .ok (.getfield 23, 3) := by decide +kernel
theorem dK_traceTokens_112 : decode mK_traceTokens.2.1 112 = .ok (.iload 5, 2) := by decide +kernel
theorem dK_traceTokens_114 : decode mK_traceTokens.2.1 114 = .ok (.iload 6, 2) := by decide +kernel
theorem dK_traceTokens_116 : decode mK_traceTokens.2.1 116 = .ok (.iastore, 1) := by decide +kernel
theorem dK_traceTokens_117 : decode mK_traceTokens.2.1 117 = .ok (.iinc 4 (1), 3) := by decide +kernel
theorem dK_traceTokens_120 : decode mK_traceTokens.2.1 120 = .ok (.iinc 6 (1), 3) := by decide +kernel
theorem dK_traceTokens_123 : decode mK_traceTokens.2.1 123 = .ok (.goto (-98), 3) := by decide +kernel
theorem dK_traceTokens_126 : decode mK_traceTokens.2.1 126 = .ok (.iload 4, 2) := by decide +kernel
theorem dK_traceTokens_128 : decode mK_traceTokens.2.1 128 = .ok (.ireturn, 1) := by decide +kernel
theorem dK_numberItems_0 : decode mK_numberItems.2.1 0 = .ok (.aload_n 0, 1) := by decide +kernel
theorem dK_numberItems_1 : decode mK_numberItems.2.1 1 = .ok (.iconst 0, 1) := by decide +kernel
theorem dK_numberItems_2 : decode mK_numberItems.2.1 2 = .ok (.putfield 83, 3) := by decide +kernel
theorem dK_numberItems_5 : decode mK_numberItems.2.1 5 = .ok (.iconst 0, 1) := by decide +kernel
theorem dK_numberItems_6 : decode mK_numberItems.2.1 6 = .ok (.istore_n 1, 1) := by decide +kernel
theorem dK_numberItems_7 : decode mK_numberItems.2.1 7 = .ok (.iload_n 1, 1) := by decide +kernel
theorem dK_numberItems_8 : decode mK_numberItems.2.1 8 = .ok (.aload_n 0, 1) := by decide +kernel
theorem dK_numberItems_9 : decode mK_numberItems.2.1 9 = .ok (.getfield 16, 3) := by decide +kernel
theorem dK_numberItems_12 : decode mK_numberItems.2.1 12 = .ok (.getfield 76, 3) := by decide +kernel
theorem dK_numberItems_15 : decode mK_numberItems.2.1 15 = .ok (.getfield 80, 3) := by decide +kernel
theorem dK_numberItems_18 : decode mK_numberItems.2.1 18 = .ok (.if_icmp .ge (83), 3) := by decide +kernel
theorem dK_numberItems_21 : decode mK_numberItems.2.1 21 = .ok (.aload_n 0, 1) := by decide +kernel
theorem dK_numberItems_22 : decode mK_numberItems.2.1 22 = .ok (.iload_n 1, 1) := by decide +kernel
theorem dK_numberItems_23 : decode mK_numberItems.2.1 23 = .ok (.invokevirtual 124, 3) := by decide +kernel
theorem dK_numberItems_26 : decode mK_numberItems.2.1 26 = .ok (.istore_n 2, 1) := by decide +kernel
theorem dK_numberItems_27 : decode mK_numberItems.2.1 27 = .ok (.iload_n 2, 1) := by decide +kernel
theorem dK_numberItems_28 : decode mK_numberItems.2.1 28 = .ok (.iconst (-1), 1) := by decide +kernel
theorem dK_numberItems_29 : decode mK_numberItems.2.1 29 = .ok (.if_icmp .ne (32), 3) := by decide +kernel
theorem dK_numberItems_32 : decode mK_numberItems.2.1 32 = .ok (.aload_n 0, 1) := by decide +kernel
theorem dK_numberItems_33 : decode mK_numberItems.2.1 33 = .ok (.getfield 16, 3) := by decide +kernel
theorem dK_numberItems_36 : decode mK_numberItems.2.1 36 = .ok (.getfield 76, 3) := by decide +kernel
theorem dK_numberItems_39 : decode mK_numberItems.2.1 39 = .ok (.getfield 90, 3) := by decide +kernel
theorem dK_numberItems_42 : decode mK_numberItems.2.1 42 = .ok (.iload_n 1, 1) := by decide +kernel
theorem dK_numberItems_43 : decode mK_numberItems.2.1 43 = .ok (.aload_n 0, 1) := by decide +kernel
theorem dK_numberItems_44 : decode mK_numberItems.2.1 44 = .ok (.getfield 127, 3) := by decide +kernel
theorem dK_numberItems_47 : decode mK_numberItems.2.1 47 = .ok (.iastore, 1) := by decide +kernel
theorem dK_numberItems_48 : decode mK_numberItems.2.1 48 = .ok (.aload_n 0, 1) := by decide +kernel
theorem dK_numberItems_49 : decode mK_numberItems.2.1 49 = .ok (.dup, 1) := by decide +kernel
theorem dK_numberItems_50 : decode mK_numberItems.2.1 50 = .ok (.getfield 127, 3) := by decide +kernel
theorem dK_numberItems_53 : decode mK_numberItems.2.1 53 = .ok (.iconst 1, 1) := by decide +kernel
theorem dK_numberItems_54 : decode mK_numberItems.2.1 54 = .ok (.iadd, 1) := by decide +kernel
theorem dK_numberItems_55 : decode mK_numberItems.2.1 55 = .ok (.putfield 127, 3) := by decide +kernel
theorem dK_numberItems_58 : decode mK_numberItems.2.1 58 = .ok (.goto (37), 3) := by decide +kernel
theorem dK_numberItems_61 : decode mK_numberItems.2.1 61 = .ok (.aload_n 0, 1) := by decide +kernel
theorem dK_numberItems_62 : decode mK_numberItems.2.1 62 = .ok (.getfield 16, 3) := by decide +kernel
theorem dK_numberItems_65 : decode mK_numberItems.2.1 65 = .ok (.getfield 76, 3) := by decide +kernel
theorem dK_numberItems_68 : decode mK_numberItems.2.1 68 = .ok (.getfield 90, 3) := by decide +kernel
theorem dK_numberItems_71 : decode mK_numberItems.2.1 71 = .ok (.iload_n 1, 1) := by decide +kernel
theorem dK_numberItems_72 : decode mK_numberItems.2.1 72 = .ok (.aload_n 0, 1) := by decide +kernel
theorem dK_numberItems_73 : decode mK_numberItems.2.1 73 = .ok (.getfield 20, 3) := by decide +kernel
theorem dK_numberItems_76 : decode mK_numberItems.2.1 76 = .ok (.getfield 76, 3) := by decide +kernel
theorem dK_numberItems_79 : decode mK_numberItems.2.1 79 = .ok (.getfield 90, 3) := by decide +kernel
theorem dK_numberItems_82 : decode mK_numberItems.2.1 82 = .ok (.iload_n 2, 1) := by decide +kernel
theorem dK_numberItems_83 : decode mK_numberItems.2.1 83 = .ok (.iaload, 1) := by decide +kernel
theorem dK_numberItems_84 : decode mK_numberItems.2.1 84 = .ok (.iastore, 1) := by decide +kernel
theorem dK_numberItems_85 : decode mK_numberItems.2.1 85 = .ok (.aload_n 0, 1) := by decide +kernel
theorem dK_numberItems_86 : decode mK_numberItems.2.1 86 = .ok (.dup, 1) := by decide +kernel
theorem dK_numberItems_87 : decode mK_numberItems.2.1 87 = .ok (.getfield 83, 3) := by decide +kernel
theorem dK_numberItems_90 : decode mK_numberItems.2.1 90 = .ok (.iconst 1, 1) := by decide +kernel
theorem dK_numberItems_91 : decode mK_numberItems.2.1 91 = .ok (.iadd, 1) := by decide +kernel
theorem dK_numberItems_92 : decode mK_numberItems.2.1 92 = .ok (.putfield 83, 3) := by decide +kernel
theorem dK_numberItems_95 : decode mK_numberItems.2.1 95 = .ok (.iinc 1 (1), 3) := by decide +kernel
theorem dK_numberItems_98 : decode mK_numberItems.2.1 98 = .ok (.goto (-91), 3) := by decide +kernel
theorem dK_numberItems_101 : decode mK_numberItems.2.1 101 = .ok (.return_, 1) := by decide +kernel
theorem dK_oldItem_0 : decode mK_oldItem.2.1 0 = .ok (.aload_n 0, 1) := by decide +kernel
theorem dK_oldItem_1 : decode mK_oldItem.2.1 1 = .ok (.getfield 16, 3) := by decide +kernel
theorem dK_oldItem_4 : decode mK_oldItem.2.1 4 = .ok (.getfield 76, 3) := by decide +kernel
theorem dK_oldItem_7 : decode mK_oldItem.2.1 7 = .ok (.getfield 97, 3) := by decide +kernel
theorem dK_oldItem_10 : decode mK_oldItem.2.1 10 = .ok (.iload_n 1, 1) := by decide +kernel
theorem dK_oldItem_11 : decode mK_oldItem.2.1 11 = .ok (.iaload, 1) := by decide +kernel
theorem dK_oldItem_12 : decode mK_oldItem.2.1 12 = .ok (.istore_n 2, 1) := by decide +kernel
theorem dK_oldItem_13 : decode mK_oldItem.2.1 13 = .ok (.aload_n 0, 1) := by decide +kernel
theorem dK_oldItem_14 : decode mK_oldItem.2.1 14 = .ok (.getfield 16, 3) := by decide +kernel
theorem dK_oldItem_17 : decode mK_oldItem.2.1 17 = .ok (.getfield 76, 3) := by decide +kernel
theorem dK_oldItem_20 : decode mK_oldItem.2.1 20 = .ok (.getfield 103, 3) := by decide +kernel
theorem dK_oldItem_23 : decode mK_oldItem.2.1 23 = .ok (.iload_n 1, 1) := by decide +kernel
theorem dK_oldItem_24 : decode mK_oldItem.2.1 24 = .ok (.iaload, 1) := by decide +kernel
theorem dK_oldItem_25 : decode mK_oldItem.2.1 25 = .ok (.istore_n 3, 1) := by decide +kernel
theorem dK_oldItem_26 : decode mK_oldItem.2.1 26 = .ok (.aload_n 0, 1) := by decide +kernel
theorem dK_oldItem_27 : decode mK_oldItem.2.1 27 = .ok (.getfield 23, 3) := by decide +kernel
theorem dK_oldItem_30 : decode mK_oldItem.2.1 30 = .ok (.iload_n 2, 1) := by decide +kernel
theorem dK_oldItem_31 : decode mK_oldItem.2.1 31 = .ok (.iaload, 1) := by decide +kernel
theorem dK_oldItem_32 : decode mK_oldItem.2.1 32 = .ok (.istore 4, 2) := by decide +kernel
theorem dK_oldItem_34 : decode mK_oldItem.2.1 34 = .ok (.iload 4, 2) := by decide +kernel
theorem dK_oldItem_36 : decode mK_oldItem.2.1 36 = .ok (.iconst (-1), 1) := by decide +kernel
theorem dK_oldItem_37 : decode mK_oldItem.2.1 37 = .ok (.if_icmp .ne (5), 3) := by decide +kernel
theorem dK_oldItem_40 : decode mK_oldItem.2.1 40 = .ok (.iconst (-1), 1) := by decide +kernel
theorem dK_oldItem_41 : decode mK_oldItem.2.1 41 = .ok (.ireturn, 1) := by decide +kernel
theorem dK_oldItem_42 : decode mK_oldItem.2.1 42 = .ok (.iload_n 2, 1) := by decide +kernel
theorem dK_oldItem_43 : decode mK_oldItem.2.1 43 = .ok (.iconst 1, 1) := by decide +kernel
theorem dK_oldItem_44 : decode mK_oldItem.2.1 44 = .ok (.iadd, 1) := by decide +kernel
theorem dK_oldItem_45 : decode mK_oldItem.2.1 45 = .ok (.istore 5, 2) := by decide +kernel
theorem dK_oldItem_47 : decode mK_oldItem.2.1 47 = .ok (.iload 5, 2) := by decide +kernel
theorem dK_oldItem_49 : decode mK_oldItem.2.1 49 = .ok (.iload_n 3, 1) := by decide +kernel
theorem dK_oldItem_50 : decode mK_oldItem.2.1 50 = .ok (.if_icmp .gt (28), 3) := by decide +kernel
theorem dK_oldItem_53 : decode mK_oldItem.2.1 53 = .ok (.aload_n 0, 1) := by decide +kernel
theorem dK_oldItem_54 : decode mK_oldItem.2.1 54 = .ok (.getfield 23, 3) := by decide +kernel
theorem dK_oldItem_57 : decode mK_oldItem.2.1 57 = .ok (.iload 5, 2) := by decide +kernel
theorem dK_oldItem_59 : decode mK_oldItem.2.1 59 = .ok (.iaload, 1) := by decide +kernel
theorem dK_oldItem_60 : decode mK_oldItem.2.1 60 = .ok (.iload 4, 2) := by decide +kernel
theorem dK_oldItem_62 : decode mK_oldItem.2.1 62 = .ok (.isub, 1) := by decide +kernel
theorem dK_oldItem_63 : decode mK_oldItem.2.1 63 = .ok (.iload 5, 2) := by decide +kernel
end
section
theorem dK_oldItem_65 : decode mK_oldItem.2.1 65 = .ok (.iload_n 2, 1) := by decide +kernel
theorem dK_oldItem_66 : decode mK_oldItem.2.1 66 = .ok (.isub, 1) := by decide +kernel
theorem dK_oldItem_67 : decode mK_oldItem.2.1 67 = .ok (.if_icmp .eq (5), 3) := by decide +kernel
theorem dK_oldItem_70 : decode mK_oldItem.2.1 70 = .ok (.iconst (-1), 1) := by decide +kernel
theorem dK_oldItem_71 : decode mK_oldItem.2.1 71 = .ok (.ireturn, 1) := by decide +kernel
theorem dK_oldItem_72 : decode mK_oldItem.2.1 72 = .ok (.iinc 5 (1), 3) := by decide +kernel
theorem dK_oldItem_75 : decode mK_oldItem.2.1 75 = .ok (.goto (-28), 3) := by decide +kernel
theorem dK_oldItem_78 : decode mK_oldItem.2.1 78 = .ok (.aload_n 0, 1) := by decide +kernel
theorem dK_oldItem_79 : decode mK_oldItem.2.1 79 = .ok (.getfield 20, 3) := by decide +kernel
theorem dK_oldItem_82 : decode mK_oldItem.2.1 82 = .ok (.getfield 76, 3) := by decide +kernel
theorem dK_oldItem_85 : decode mK_oldItem.2.1 85 = .ok (.iload 4, 2) := by decide +kernel
theorem dK_oldItem_87 : decode mK_oldItem.2.1 87 = .ok (.aload_n 0, 1) := by decide +kernel
theorem dK_oldItem_88 : decode mK_oldItem.2.1 88 = .ok (.getfield 23, 3) := by decide +kernel
theorem dK_oldItem_91 : decode mK_oldItem.2.1 91 = .ok (.iload_n 3, 1) := by decide +kernel
theorem dK_oldItem_92 : decode mK_oldItem.2.1 92 = .ok (.iaload, 1) := by decide +kernel
theorem dK_oldItem_93 : decode mK_oldItem.2.1 93 = .ok (.invokevirtual 130, 3) := by decide +kernel
theorem dK_oldItem_96 : decode mK_oldItem.2.1 96 = .ok (.ireturn, 1) := by decide +kernel
end
section
theorem dM_init_0 : decode mM_init.2.1 0 = .ok (.aload_n 0, 1) := by decide +kernel
theorem dM_init_1 : decode mM_init.2.1 1 = .ok (.invokespecial 1, 3) := by decide +kernel
theorem dM_init_4 : decode mM_init.2.1 4 = .ok (.aload_n 0, 1) := by decide +kernel
theorem dM_init_5 : decode mM_init.2.1 5 = .ok (.sipush (160), 3) := by decide +kernel
theorem dM_init_8 : decode mM_init.2.1 8 = .ok (.newarray .char, 2) := by decide +kernel
theorem dM_init_10 : decode mM_init.2.1 10 = .ok (.putfield 7, 3) := by decide +kernel
theorem dM_init_13 : decode mM_init.2.1 13 = .ok (.aload_n 0, 1) := by decide +kernel
theorem dM_init_14 : decode mM_init.2.1 14 = .ok (.bipush (40), 2) := by decide +kernel
theorem dM_init_16 : decode mM_init.2.1 16 = .ok (.newarray .char, 2) := by decide +kernel
theorem dM_init_18 : decode mM_init.2.1 18 = .ok (.putfield 13, 3) := by decide +kernel
theorem dM_init_21 : decode mM_init.2.1 21 = .ok (.aload_n 0, 1) := by decide +kernel
theorem dM_init_22 : decode mM_init.2.1 22 = .ok (.sipush (160), 3) := by decide +kernel
theorem dM_init_25 : decode mM_init.2.1 25 = .ok (.newarray .int, 2) := by decide +kernel
theorem dM_init_27 : decode mM_init.2.1 27 = .ok (.putfield 16, 3) := by decide +kernel
theorem dM_init_30 : decode mM_init.2.1 30 = .ok (.aload_n 0, 1) := by decide +kernel
theorem dM_init_31 : decode mM_init.2.1 31 = .ok (.sipush (160), 3) := by decide +kernel
theorem dM_init_34 : decode mM_init.2.1 34 = .ok (.newarray .int, 2) := by decide +kernel
theorem dM_init_36 : decode mM_init.2.1 36 = .ok (.putfield 20, 3) := by decide +kernel
theorem dM_init_39 : decode mM_init.2.1 39 = .ok (.aload_n 0, 1) := by decide +kernel
theorem dM_init_40 : decode mM_init.2.1 40 = .ok (.sipush (160), 3) := by decide +kernel
theorem dM_init_43 : decode mM_init.2.1 43 = .ok (.newarray .int, 2) := by decide +kernel
theorem dM_init_45 : decode mM_init.2.1 45 = .ok (.putfield 23, 3) := by decide +kernel
theorem dM_init_48 : decode mM_init.2.1 48 = .ok (.aload_n 0, 1) := by decide +kernel
theorem dM_init_49 : decode mM_init.2.1 49 = .ok (.sipush (160), 3) := by decide +kernel
theorem dM_init_52 : decode mM_init.2.1 52 = .ok (.newarray .int, 2) := by decide +kernel
theorem dM_init_54 : decode mM_init.2.1 54 = .ok (.putfield 26, 3) := by decide +kernel
theorem dM_init_57 : decode mM_init.2.1 57 = .ok (.aload_n 0, 1) := by decide +kernel
theorem dM_init_58 : decode mM_init.2.1 58 = .ok (.sipush (160), 3) := by decide +kernel
theorem dM_init_61 : decode mM_init.2.1 61 = .ok (.newarray .int, 2) := by decide +kernel
theorem dM_init_63 : decode mM_init.2.1 63 = .ok (.putfield 29, 3) := by decide +kernel
theorem dM_init_66 : decode mM_init.2.1 66 = .ok (.aload_n 0, 1) := by decide +kernel
theorem dM_init_67 : decode mM_init.2.1 67 = .ok (.sipush (160), 3) := by decide +kernel
theorem dM_init_70 : decode mM_init.2.1 70 = .ok (.newarray .int, 2) := by decide +kernel
theorem dM_init_72 : decode mM_init.2.1 72 = .ok (.putfield 32, 3) := by decide +kernel
theorem dM_init_75 : decode mM_init.2.1 75 = .ok (.aload_n 0, 1) := by decide +kernel
theorem dM_init_76 : decode mM_init.2.1 76 = .ok (.sipush (160), 3) := by decide +kernel
theorem dM_init_79 : decode mM_init.2.1 79 = .ok (.newarray .int, 2) := by decide +kernel
theorem dM_init_81 : decode mM_init.2.1 81 = .ok (.putfield 35, 3) := by decide +kernel
theorem dM_init_84 : decode mM_init.2.1 84 = .ok (.aload_n 0, 1) := by decide +kernel
theorem dM_init_85 : decode mM_init.2.1 85 = .ok (.sipush (160), 3) := by decide +kernel
theorem dM_init_88 : decode mM_init.2.1 88 = .ok (.newarray .int, 2) := by decide +kernel
theorem dM_init_90 : decode mM_init.2.1 90 = .ok (.putfield 38, 3) := by decide +kernel
theorem dM_init_93 : decode mM_init.2.1 93 = .ok (.aload_n 0, 1) := by decide +kernel
theorem dM_init_94 : decode mM_init.2.1 94 = .ok (.sipush (160), 3) := by decide +kernel
theorem dM_init_97 : decode mM_init.2.1 97 = .ok (.newarray .int, 2) := by decide +kernel
theorem dM_init_99 : decode mM_init.2.1 99 = .ok (.putfield 41, 3) := by decide +kernel
theorem dM_init_102 : decode mM_init.2.1 102 = .ok (.aload_n 0, 1) := by decide +kernel
theorem dM_init_103 : decode mM_init.2.1 103 = .ok (.sipush (160), 3) := by decide +kernel
theorem dM_init_106 : decode mM_init.2.1 106 = .ok (.newarray .int, 2) := by decide +kernel
theorem dM_init_108 : decode mM_init.2.1 108 = .ok (.putfield 44, 3) := by decide +kernel
theorem dM_init_111 : decode mM_init.2.1 111 = .ok (.aload_n 0, 1) := by decide +kernel
theorem dM_init_112 : decode mM_init.2.1 112 = .ok (.sipush (160), 3) := by decide +kernel
theorem dM_init_115 : decode mM_init.2.1 115 = .ok (.newarray .boolean, 2) := by decide +kernel
theorem dM_init_117 : decode mM_init.2.1 117 = .ok (.putfield 47, 3) := by decide +kernel
theorem dM_init_120 : decode mM_init.2.1 120 = .ok (.aload_n 0, 1) := by decide +kernel
theorem dM_init_121 : decode mM_init.2.1 121 = .ok (.sipush (160), 3) := by decide +kernel
theorem dM_init_124 : decode mM_init.2.1 124 = .ok (.newarray .boolean, 2) := by decide +kernel
theorem dM_init_126 : decode mM_init.2.1 126 = .ok (.putfield 51, 3) := by decide +kernel
theorem dM_init_129 : decode mM_init.2.1 129 = .ok (.aload_n 0, 1) := by decide +kernel
theorem dM_init_130 : decode mM_init.2.1 130 = .ok (.sipush (160), 3) := by decide +kernel
theorem dM_init_133 : decode mM_init.2.1 133 = .ok (.newarray .int, 2) := by decide +kernel
theorem dM_init_135 : decode mM_init.2.1 135 = .ok (.putfield 54, 3) := by decide +kernel
theorem dM_init_138 : decode mM_init.2.1 138 = .ok (.aload_n 0, 1) := by decide +kernel
theorem dM_init_139 : decode mM_init.2.1 139 = .ok (.sipush (160), 3) := by decide +kernel
theorem dM_init_142 : decode mM_init.2.1 142 = .ok (.newarray .int, 2) := by decide +kernel
theorem dM_init_144 : decode mM_init.2.1 144 = .ok (.putfield 57, 3) := by decide +kernel
theorem dM_init_147 : decode mM_init.2.1 147 = .ok (.aload_n 0, 1) := by decide +kernel
theorem dM_init_148 : decode mM_init.2.1 148 = .ok (.sipush (160), 3) := by decide +kernel
theorem dM_init_151 : decode mM_init.2.1 151 = .ok (.newarray .int, 2) := by decide +kernel
theorem dM_init_153 : decode mM_init.2.1 153 = .ok (.putfield 60, 3) := by decide +kernel
theorem dM_init_156 : decode mM_init.2.1 156 = .ok (.aload_n 0, 1) := by decide +kernel
theorem dM_init_157 : decode mM_init.2.1 157 = .ok (.sipush (160), 3) := by decide +kernel
theorem dM_init_160 : decode mM_init.2.1 160 = .ok (.newarray .int, 2) := by decide +kernel
theorem dM_init_162 : decode mM_init.2.1 162 = .ok (.putfield 63, 3) := by decide +kernel
theorem dM_init_165 : decode mM_init.2.1 165 = .ok (.aload_n 0, 1) := by decide +kernel
theorem dM_init_166 : decode mM_init.2.1 166 = .ok (.sipush (160), 3) := by decide +kernel
theorem dM_init_169 : decode mM_init.2.1 169 = .ok (.newarray .int, 2) := by decide +kernel
theorem dM_init_171 : decode mM_init.2.1 171 = .ok (.putfield 66, 3) := by decide +kernel
theorem dM_init_174 : decode mM_init.2.1 174 = .ok (.aload_n 0, 1) := by decide +kernel
theorem dM_init_175 : decode mM_init.2.1 175 = .ok (.iconst (-1), 1) := by decide +kernel
theorem dM_init_176 : decode mM_init.2.1 176 = .ok (.putfield 69, 3) := by decide +kernel
theorem dM_init_179 : decode mM_init.2.1 179 = .ok (.aload_n 0, 1) := by decide +kernel
theorem dM_init_180 : decode mM_init.2.1 180 = .ok (.bipush (13), 2) := by decide +kernel
theorem dM_init_182 : decode mM_init.2.1 182 = .ok (.newarray .int, 2) := by decide +kernel
theorem dM_init_184 : decode mM_init.2.1 184 = .ok (.putfield 73, 3) := by decide +kernel
theorem dM_init_187 : decode mM_init.2.1 187 = .ok (.aload_n 0, 1) := by decide +kernel
theorem dM_init_188 : decode mM_init.2.1 188 = .ok (.bipush (13), 2) := by decide +kernel
theorem dM_init_190 : decode mM_init.2.1 190 = .ok (.newarray .int, 2) := by decide +kernel
theorem dM_init_192 : decode mM_init.2.1 192 = .ok (.putfield 76, 3) := by decide +kernel
theorem dM_init_195 : decode mM_init.2.1 195 = .ok (.aload_n 0, 1) := by decide +kernel
theorem dM_init_196 : decode mM_init.2.1 196 = .ok (.bipush (16), 2) := by decide +kernel
theorem dM_init_198 : decode mM_init.2.1 198 = .ok (.newarray .int, 2) := by decide +kernel
theorem dM_init_200 : decode mM_init.2.1 200 = .ok (.putfield 79, 3) := by decide +kernel
theorem dM_init_203 : decode mM_init.2.1 203 = .ok (.aload_n 0, 1) := by decide +kernel
theorem dM_init_204 : decode mM_init.2.1 204 = .ok (.bipush (16), 2) := by decide +kernel
theorem dM_init_206 : decode mM_init.2.1 206 = .ok (.newarray .int, 2) := by decide +kernel
theorem dM_init_208 : decode mM_init.2.1 208 = .ok (.putfield 82, 3) := by decide +kernel
theorem dM_init_211 : decode mM_init.2.1 211 = .ok (.aload_n 0, 1) := by decide +kernel
theorem dM_init_212 : decode mM_init.2.1 212 = .ok (.bipush (16), 2) := by decide +kernel
theorem dM_init_214 : decode mM_init.2.1 214 = .ok (.newarray .int, 2) := by decide +kernel
theorem dM_init_216 : decode mM_init.2.1 216 = .ok (.putfield 85, 3) := by decide +kernel
theorem dM_init_219 : decode mM_init.2.1 219 = .ok (.aload_n 0, 1) := by decide +kernel
theorem dM_init_220 : decode mM_init.2.1 220 = .ok (.bipush (16), 2) := by decide +kernel
theorem dM_init_222 : decode mM_init.2.1 222 = .ok (.newarray .int, 2) := by decide +kernel
theorem dM_init_224 : decode mM_init.2.1 224 = .ok (.putfield 88, 3) := by decide +kernel
theorem dM_init_227 : decode mM_init.2.1 227 = .ok (.aload_n 0, 1) := by decide +kernel
theorem dM_init_228 : decode mM_init.2.1 228 = .ok (.bipush (16), 2) := by decide +kernel
theorem dM_init_230 : decode mM_init.2.1 230 = .ok (.newarray .int, 2) := by decide +kernel
theorem dM_init_232 : decode mM_init.2.1 232 = .ok (.putfield 91, 3) := by decide +kernel
theorem dM_init_235 : decode mM_init.2.1 235 = .ok (.aload_n 0, 1) := by decide +kernel
theorem dM_init_236 : decode mM_init.2.1 236 = .ok (.bipush (16), 2) := by decide +kernel
theorem dM_init_238 : decode mM_init.2.1 238 = .ok (.newarray .boolean, 2) := by decide +kernel
theorem dM_init_240 : decode mM_init.2.1 240 = .ok (.putfield 94, 3) := by decide +kernel
theorem dM_init_243 : decode mM_init.2.1 243 = .ok (.return_, 1) := by decide +kernel
theorem dM_thrown_0 : decode mM_thrown.2.1 0 = .ok (.aload_n 0, 1) := by decide +kernel
theorem dM_thrown_1 : decode mM_thrown.2.1 1 = .ok (.getfield 97, 3) := by decide +kernel
theorem dM_thrown_4 : decode mM_thrown.2.1 4 = .ok (.ireturn, 1) := by decide +kernel
theorem dM_type_0 : decode mM_type.2.1 0 = .ok (.aload_n 0, 1) := by decide +kernel
theorem dM_type_1 : decode mM_type.2.1 1 = .ok (.iconst 0, 1) := by decide +kernel
theorem dM_type_2 : decode mM_type.2.1 2 = .ok (.putfield 97, 3) := by decide +kernel
theorem dM_type_5 : decode mM_type.2.1 5 = .ok (.iload_n 1, 1) := by decide +kernel
theorem dM_type_6 : decode mM_type.2.1 6 = .ok (.bipush (10), 2) := by decide +kernel
theorem dM_type_8 : decode mM_type.2.1 8 = .ok (.if_icmp .eq (15), 3) := by decide +kernel
theorem dM_type_11 : decode mM_type.2.1 11 = .ok (.iload_n 1, 1) := by decide +kernel
theorem dM_type_12 : decode mM_type.2.1 12 = .ok (.bipush (32), 2) := by decide +kernel
theorem dM_type_14 : decode mM_type.2.1 14 = .ok (.if_icmp .lt (18), 3) := by decide +kernel
theorem dM_type_17 : decode mM_type.2.1 17 = .ok (.iload_n 1, 1) := by decide +kernel
theorem dM_type_18 : decode mM_type.2.1 18 = .ok (.bipush (126), 2) := by decide +kernel
theorem dM_type_20 : decode mM_type.2.1 20 = .ok (.if_icmp .gt (12), 3) := by decide +kernel
theorem dM_type_23 : decode mM_type.2.1 23 = .ok (.aload_n 0, 1) := by decide +kernel
theorem dM_type_24 : decode mM_type.2.1 24 = .ok (.getfield 100, 3) := by decide +kernel
theorem dM_type_27 : decode mM_type.2.1 27 = .ok (.bipush (40), 2) := by decide +kernel
theorem dM_type_29 : decode mM_type.2.1 29 = .ok (.if_icmp .ne (5), 3) := by decide +kernel
theorem dM_type_32 : decode mM_type.2.1 32 = .ok (.iconst 0, 1) := by decide +kernel
theorem dM_type_33 : decode mM_type.2.1 33 = .ok (.ireturn, 1) := by decide +kernel
theorem dM_type_34 : decode mM_type.2.1 34 = .ok (.aload_n 0, 1) := by decide +kernel
theorem dM_type_35 : decode mM_type.2.1 35 = .ok (.getfield 13, 3) := by decide +kernel
theorem dM_type_38 : decode mM_type.2.1 38 = .ok (.aload_n 0, 1) := by decide +kernel
theorem dM_type_39 : decode mM_type.2.1 39 = .ok (.getfield 100, 3) := by decide +kernel
theorem dM_type_42 : decode mM_type.2.1 42 = .ok (.iload_n 1, 1) := by decide +kernel
theorem dM_type_43 : decode mM_type.2.1 43 = .ok (.castore, 1) := by decide +kernel
theorem dM_type_44 : decode mM_type.2.1 44 = .ok (.aload_n 0, 1) := by decide +kernel
theorem dM_type_45 : decode mM_type.2.1 45 = .ok (.dup, 1) := by decide +kernel
theorem dM_type_46 : decode mM_type.2.1 46 = .ok (.getfield 100, 3) := by decide +kernel
theorem dM_type_49 : decode mM_type.2.1 49 = .ok (.iconst 1, 1) := by decide +kernel
theorem dM_type_50 : decode mM_type.2.1 50 = .ok (.iadd, 1) := by decide +kernel
theorem dM_type_51 : decode mM_type.2.1 51 = .ok (.putfield 100, 3) := by decide +kernel
theorem dM_type_54 : decode mM_type.2.1 54 = .ok (.iconst 1, 1) := by decide +kernel
theorem dM_type_55 : decode mM_type.2.1 55 = .ok (.ireturn, 1) := by decide +kernel
theorem dM_wipe_0 : decode mM_wipe.2.1 0 = .ok (.aload_n 0, 1) := by decide +kernel
theorem dM_wipe_1 : decode mM_wipe.2.1 1 = .ok (.iconst 0, 1) := by decide +kernel
theorem dM_wipe_2 : decode mM_wipe.2.1 2 = .ok (.putfield 97, 3) := by decide +kernel
theorem dM_wipe_5 : decode mM_wipe.2.1 5 = .ok (.aload_n 0, 1) := by decide +kernel
theorem dM_wipe_6 : decode mM_wipe.2.1 6 = .ok (.getfield 100, 3) := by decide +kernel
theorem dM_wipe_9 : decode mM_wipe.2.1 9 = .ok (.istore_n 1, 1) := by decide +kernel
theorem dM_wipe_10 : decode mM_wipe.2.1 10 = .ok (.aload_n 0, 1) := by decide +kernel
theorem dM_wipe_11 : decode mM_wipe.2.1 11 = .ok (.iconst 0, 1) := by decide +kernel
theorem dM_wipe_12 : decode mM_wipe.2.1 12 = .ok (.putfield 100, 3) := by decide +kernel
theorem dM_wipe_15 : decode mM_wipe.2.1 15 = .ok (.iload_n 1, 1) := by decide +kernel
theorem dM_wipe_16 : decode mM_wipe.2.1 16 = .ok (.ireturn, 1) := by decide +kernel
theorem dM_change_0 : decode mM_change.2.1 0 = .ok (.aload_n 0, 1) := by decide +kernel
theorem dM_change_1 : decode mM_change.2.1 1 = .ok (.getfield 100, 3) := by decide +kernel
theorem dM_change_4 : decode mM_change.2.1 4 = .ok (.iload_n 2, 1) := by decide +kernel
theorem dM_change_5 : decode mM_change.2.1 5 = .ok (.isub, 1) := by decide +kernel
theorem dM_change_6 : decode mM_change.2.1 6 = .ok (.istore_n 3, 1) := by decide +kernel
theorem dM_change_7 : decode mM_change.2.1 7 = .ok (.iload_n 3, 1) := by decide +kernel
theorem dM_change_8 : decode mM_change.2.1 8 = .ok (.ifCond .le (44), 3) := by decide +kernel
theorem dM_change_11 : decode mM_change.2.1 11 = .ok (.aload_n 0, 1) := by decide +kernel
theorem dM_change_12 : decode mM_change.2.1 12 = .ok (.getfield 103, 3) := by decide +kernel
theorem dM_change_15 : decode mM_change.2.1 15 = .ok (.iconst 1, 1) := by decide +kernel
theorem dM_change_16 : decode mM_change.2.1 16 = .ok (.isub, 1) := by decide +kernel
theorem dM_change_17 : decode mM_change.2.1 17 = .ok (.istore 4, 2) := by decide +kernel
theorem dM_change_19 : decode mM_change.2.1 19 = .ok (.iload 4, 2) := by decide +kernel
theorem dM_change_21 : decode mM_change.2.1 21 = .ok (.iload_n 1, 1) := by decide +kernel
theorem dM_change_22 : decode mM_change.2.1 22 = .ok (.iload_n 2, 1) := by decide +kernel
theorem dM_change_23 : decode mM_change.2.1 23 = .ok (.iadd, 1) := by decide +kernel
theorem dM_change_24 : decode mM_change.2.1 24 = .ok (.if_icmp .lt (25), 3) := by decide +kernel
theorem dM_change_27 : decode mM_change.2.1 27 = .ok (.aload_n 0, 1) := by decide +kernel
theorem dM_change_28 : decode mM_change.2.1 28 = .ok (.getfield 7, 3) := by decide +kernel
theorem dM_change_31 : decode mM_change.2.1 31 = .ok (.iload 4, 2) := by decide +kernel
theorem dM_change_33 : decode mM_change.2.1 33 = .ok (.iload_n 3, 1) := by decide +kernel
theorem dM_change_34 : decode mM_change.2.1 34 = .ok (.iadd, 1) := by decide +kernel
theorem dM_change_35 : decode mM_change.2.1 35 = .ok (.aload_n 0, 1) := by decide +kernel
theorem dM_change_36 : decode mM_change.2.1 36 = .ok (.getfield 7, 3) := by decide +kernel
theorem dM_change_39 : decode mM_change.2.1 39 = .ok (.iload 4, 2) := by decide +kernel
theorem dM_change_41 : decode mM_change.2.1 41 = .ok (.caload, 1) := by decide +kernel
theorem dM_change_42 : decode mM_change.2.1 42 = .ok (.castore, 1) := by decide +kernel
theorem dM_change_43 : decode mM_change.2.1 43 = .ok (.iinc 4 (-1), 3) := by decide +kernel
theorem dM_change_46 : decode mM_change.2.1 46 = .ok (.goto (-27), 3) := by decide +kernel
theorem dM_change_49 : decode mM_change.2.1 49 = .ok (.goto (39), 3) := by decide +kernel
theorem dM_change_52 : decode mM_change.2.1 52 = .ok (.iload_n 1, 1) := by decide +kernel
theorem dM_change_53 : decode mM_change.2.1 53 = .ok (.iload_n 2, 1) := by decide +kernel
theorem dM_change_54 : decode mM_change.2.1 54 = .ok (.iadd, 1) := by decide +kernel
theorem dM_change_55 : decode mM_change.2.1 55 = .ok (.istore 4, 2) := by decide +kernel
theorem dM_change_57 : decode mM_change.2.1 57 = .ok (.iload 4, 2) := by decide +kernel
theorem dM_change_59 : decode mM_change.2.1 59 = .ok (.aload_n 0, 1) := by decide +kernel
theorem dM_change_60 : decode mM_change.2.1 60 = .ok (.getfield 103, 3) := by decide +kernel
theorem dM_change_63 : decode mM_change.2.1 63 = .ok (.if_icmp .ge (25), 3) := by decide +kernel
theorem dM_change_66 : decode mM_change.2.1 66 = .ok (.aload_n 0, 1) := by decide +kernel
theorem dM_change_67 : decode mM_change.2.1 67 = .ok (.getfield 7, 3) := by decide +kernel
theorem dM_change_70 : decode mM_change.2.1 70 = .ok (.iload 4, 2) := by decide +kernel
theorem dM_change_72 : decode mM_change.2.1 72 = .ok (.iload_n 3, 1) := by decide +kernel
theorem dM_change_73 : decode mM_change.2.1 73 = .ok (.iadd, 1) := by decide +kernel
theorem dM_change_74 : decode mM_change.2.1 74 = .ok (.aload_n 0, 1) := by decide +kernel
theorem dM_change_75 : decode mM_change.2.1 75 = .ok (.getfield 7, 3) := by decide +kernel
theorem dM_change_78 : decode mM_change.2.1 78 = .ok (.iload 4, 2) := by decide +kernel
theorem dM_change_80 : decode mM_change.2.1 80 = .ok (.caload, 1) := by decide +kernel
theorem dM_change_81 : decode mM_change.2.1 81 = .ok (.castore, 1) := by decide +kernel
theorem dM_change_82 : decode mM_change.2.1 82 = .ok (.iinc 4 (1), 3) := by decide +kernel
theorem dM_change_85 : decode mM_change.2.1 85 = .ok (.goto (-28), 3) := by decide +kernel
theorem dM_change_88 : decode mM_change.2.1 88 = .ok (.iconst 0, 1) := by decide +kernel
theorem dM_change_89 : decode mM_change.2.1 89 = .ok (.istore 4, 2) := by decide +kernel
theorem dM_change_91 : decode mM_change.2.1 91 = .ok (.iload 4, 2) := by decide +kernel
theorem dM_change_93 : decode mM_change.2.1 93 = .ok (.aload_n 0, 1) := by decide +kernel
theorem dM_change_94 : decode mM_change.2.1 94 = .ok (.getfield 100, 3) := by decide +kernel
theorem dM_change_97 : decode mM_change.2.1 97 = .ok (.if_icmp .ge (25), 3) := by decide +kernel
theorem dM_change_100 : decode mM_change.2.1 100 = .ok (.aload_n 0, 1) := by decide +kernel
theorem dM_change_101 : decode mM_change.2.1 101 = .ok (.getfield 7, 3) := by decide +kernel
theorem dM_change_104 : decode mM_change.2.1 104 = .ok (.iload_n 1, 1) := by decide +kernel
theorem dM_change_105 : decode mM_change.2.1 105 = .ok (.iload 4, 2) := by decide +kernel
theorem dM_change_107 : decode mM_change.2.1 107 = .ok (.iadd, 1) := by decide +kernel
theorem dM_change_108 : decode mM_change.2.1 108 = .ok (.aload_n 0, 1) := by decide +kernel
theorem dM_change_109 : decode mM_change.2.1 109 = .ok (.getfield 13, 3) := by decide +kernel
theorem dM_change_112 : decode mM_change.2.1 112 = .ok (.iload 4, 2) := by decide +kernel
theorem dM_change_114 : decode mM_change.2.1 114 = .ok (.caload, 1) := by decide +kernel
theorem dM_change_115 : decode mM_change.2.1 115 = .ok (.castore, 1) := by decide +kernel
theorem dM_change_116 : decode mM_change.2.1 116 = .ok (.iinc 4 (1), 3) := by decide +kernel
theorem dM_change_119 : decode mM_change.2.1 119 = .ok (.goto (-28), 3) := by decide +kernel
theorem dM_change_122 : decode mM_change.2.1 122 = .ok (.aload_n 0, 1) := by decide +kernel
theorem dM_change_123 : decode mM_change.2.1 123 = .ok (.aload_n 0, 1) := by decide +kernel
theorem dM_change_124 : decode mM_change.2.1 124 = .ok (.getfield 103, 3) := by decide +kernel
theorem dM_change_127 : decode mM_change.2.1 127 = .ok (.iload_n 3, 1) := by decide +kernel
theorem dM_change_128 : decode mM_change.2.1 128 = .ok (.iadd, 1) := by decide +kernel
theorem dM_change_129 : decode mM_change.2.1 129 = .ok (.putfield 103, 3) := by decide +kernel
theorem dM_change_132 : decode mM_change.2.1 132 = .ok (.aload_n 0, 1) := by decide +kernel
theorem dM_change_133 : decode mM_change.2.1 133 = .ok (.iconst 0, 1) := by decide +kernel
theorem dM_change_134 : decode mM_change.2.1 134 = .ok (.putfield 100, 3) := by decide +kernel
theorem dM_change_137 : decode mM_change.2.1 137 = .ok (.return_, 1) := by decide +kernel
theorem dM_isLetter_0 : decode mM_isLetter.2.1 0 = .ok (.iload_n 0, 1) := by decide +kernel
theorem dM_isLetter_1 : decode mM_isLetter.2.1 1 = .ok (.bipush (97), 2) := by decide +kernel
theorem dM_isLetter_3 : decode mM_isLetter.2.1 3 = .ok (.if_icmp .lt (13), 3) := by decide +kernel
theorem dM_isLetter_6 : decode mM_isLetter.2.1 6 = .ok (.iload_n 0, 1) := by decide +kernel
theorem dM_isLetter_7 : decode mM_isLetter.2.1 7 = .ok (.bipush (122), 2) := by decide +kernel
theorem dM_isLetter_9 : decode mM_isLetter.2.1 9 = .ok (.if_icmp .gt (7), 3) := by decide +kernel
theorem dM_isLetter_12 : decode mM_isLetter.2.1 12 = .ok (.iconst 1, 1) := by decide +kernel
theorem dM_isLetter_13 : decode mM_isLetter.2.1 13 = .ok (.goto (4), 3) := by decide +kernel
theorem dM_isLetter_16 : decode mM_isLetter.2.1 16 = .ok (.iconst 0, 1) := by decide +kernel
theorem dM_isLetter_17 : decode mM_isLetter.2.1 17 = .ok (.ireturn, 1) := by decide +kernel
theorem dM_isDigit_0 : decode mM_isDigit.2.1 0 = .ok (.iload_n 0, 1) := by decide +kernel
theorem dM_isDigit_1 : decode mM_isDigit.2.1 1 = .ok (.bipush (48), 2) := by decide +kernel
theorem dM_isDigit_3 : decode mM_isDigit.2.1 3 = .ok (.if_icmp .lt (13), 3) := by decide +kernel
theorem dM_isDigit_6 : decode mM_isDigit.2.1 6 = .ok (.iload_n 0, 1) := by decide +kernel
theorem dM_isDigit_7 : decode mM_isDigit.2.1 7 = .ok (.bipush (57), 2) := by decide +kernel
theorem dM_isDigit_9 : decode mM_isDigit.2.1 9 = .ok (.if_icmp .gt (7), 3) := by decide +kernel
theorem dM_isDigit_12 : decode mM_isDigit.2.1 12 = .ok (.iconst 1, 1) := by decide +kernel
theorem dM_isDigit_13 : decode mM_isDigit.2.1 13 = .ok (.goto (4), 3) := by decide +kernel
theorem dM_isDigit_16 : decode mM_isDigit.2.1 16 = .ok (.iconst 0, 1) := by decide +kernel
theorem dM_isDigit_17 : decode mM_isDigit.2.1 17 = .ok (.ireturn, 1) := by decide +kernel
theorem dM_isSign_0 : decode mM_isSign.2.1 0 = .ok (.iload_n 0, 1) := by decide +kernel
theorem dM_isSign_1 : decode mM_isSign.2.1 1 = .ok (.bipush (61), 2) := by decide +kernel
theorem dM_isSign_3 : decode mM_isSign.2.1 3 = .ok (.if_icmp .eq (57), 3) := by decide +kernel
theorem dM_isSign_6 : decode mM_isSign.2.1 6 = .ok (.iload_n 0, 1) := by decide +kernel
theorem dM_isSign_7 : decode mM_isSign.2.1 7 = .ok (.bipush (59), 2) := by decide +kernel
theorem dM_isSign_9 : decode mM_isSign.2.1 9 = .ok (.if_icmp .eq (51), 3) := by decide +kernel
theorem dM_isSign_12 : decode mM_isSign.2.1 12 = .ok (.iload_n 0, 1) := by decide +kernel
theorem dM_isSign_13 : decode mM_isSign.2.1 13 = .ok (.bipush (43), 2) := by decide +kernel
theorem dM_isSign_15 : decode mM_isSign.2.1 15 = .ok (.if_icmp .eq (45), 3) := by decide +kernel
theorem dM_isSign_18 : decode mM_isSign.2.1 18 = .ok (.iload_n 0, 1) := by decide +kernel
theorem dM_isSign_19 : decode mM_isSign.2.1 19 = .ok (.bipush (45), 2) := by decide +kernel
theorem dM_isSign_21 : decode mM_isSign.2.1 21 = .ok (.if_icmp .eq (39), 3) := by decide +kernel
theorem dM_isSign_24 : decode mM_isSign.2.1 24 = .ok (.iload_n 0, 1) := by decide +kernel
theorem dM_isSign_25 : decode mM_isSign.2.1 25 = .ok (.bipush (42), 2) := by decide +kernel
theorem dM_isSign_27 : decode mM_isSign.2.1 27 = .ok (.if_icmp .eq (33), 3) := by decide +kernel
theorem dM_isSign_30 : decode mM_isSign.2.1 30 = .ok (.iload_n 0, 1) := by decide +kernel
theorem dM_isSign_31 : decode mM_isSign.2.1 31 = .ok (.bipush (40), 2) := by decide +kernel
theorem dM_isSign_33 : decode mM_isSign.2.1 33 = .ok (.if_icmp .eq (27), 3) := by decide +kernel
theorem dM_isSign_36 : decode mM_isSign.2.1 36 = .ok (.iload_n 0, 1) := by decide +kernel
theorem dM_isSign_37 : decode mM_isSign.2.1 37 = .ok (.bipush (41), 2) := by decide +kernel
theorem dM_isSign_39 : decode mM_isSign.2.1 39 = .ok (.if_icmp .eq (21), 3) := by decide +kernel
theorem dM_isSign_42 : decode mM_isSign.2.1 42 = .ok (.iload_n 0, 1) := by decide +kernel
theorem dM_isSign_43 : decode mM_isSign.2.1 43 = .ok (.bipush (123), 2) := by decide +kernel
theorem dM_isSign_45 : decode mM_isSign.2.1 45 = .ok (.if_icmp .eq (15), 3) := by decide +kernel
theorem dM_isSign_48 : decode mM_isSign.2.1 48 = .ok (.iload_n 0, 1) := by decide +kernel
theorem dM_isSign_49 : decode mM_isSign.2.1 49 = .ok (.bipush (125), 2) := by decide +kernel
theorem dM_isSign_51 : decode mM_isSign.2.1 51 = .ok (.if_icmp .eq (9), 3) := by decide +kernel
theorem dM_isSign_54 : decode mM_isSign.2.1 54 = .ok (.iload_n 0, 1) := by decide +kernel
theorem dM_isSign_55 : decode mM_isSign.2.1 55 = .ok (.bipush (44), 2) := by decide +kernel
theorem dM_isSign_57 : decode mM_isSign.2.1 57 = .ok (.if_icmp .ne (7), 3) := by decide +kernel
theorem dM_isSign_60 : decode mM_isSign.2.1 60 = .ok (.iconst 1, 1) := by decide +kernel
theorem dM_isSign_61 : decode mM_isSign.2.1 61 = .ok (.goto (4), 3) := by decide +kernel
theorem dM_isSign_64 : decode mM_isSign.2.1 64 = .ok (.iconst 0, 1) := by decide +kernel
theorem dM_isSign_65 : decode mM_isSign.2.1 65 = .ok (.ireturn, 1) := by decide +kernel
theorem dM_skip_0 : decode mM_skip.2.1 0 = .ok (.iload_n 1, 1) := by decide +kernel
theorem dM_skip_1 : decode mM_skip.2.1 1 = .ok (.istore_n 2, 1) := by decide +kernel
theorem dM_skip_2 : decode mM_skip.2.1 2 = .ok (.iconst 0, 1) := by decide +kernel
theorem dM_skip_3 : decode mM_skip.2.1 3 = .ok (.istore_n 3, 1) := by decide +kernel
theorem dM_skip_4 : decode mM_skip.2.1 4 = .ok (.iload_n 2, 1) := by decide +kernel
theorem dM_skip_5 : decode mM_skip.2.1 5 = .ok (.aload_n 0, 1) := by decide +kernel
theorem dM_skip_6 : decode mM_skip.2.1 6 = .ok (.getfield 103, 3) := by decide +kernel
theorem dM_skip_9 : decode mM_skip.2.1 9 = .ok (.if_icmp .ge (78), 3) := by decide +kernel
theorem dM_skip_12 : decode mM_skip.2.1 12 = .ok (.iload_n 3, 1) := by decide +kernel
theorem dM_skip_13 : decode mM_skip.2.1 13 = .ok (.ifCond .ne (36), 3) := by decide +kernel
theorem dM_skip_16 : decode mM_skip.2.1 16 = .ok (.aload_n 0, 1) := by decide +kernel
theorem dM_skip_17 : decode mM_skip.2.1 17 = .ok (.getfield 7, 3) := by decide +kernel
theorem dM_skip_20 : decode mM_skip.2.1 20 = .ok (.iload_n 2, 1) := by decide +kernel
theorem dM_skip_21 : decode mM_skip.2.1 21 = .ok (.caload, 1) := by decide +kernel
theorem dM_skip_22 : decode mM_skip.2.1 22 = .ok (.bipush (32), 2) := by decide +kernel
theorem dM_skip_24 : decode mM_skip.2.1 24 = .ok (.if_icmp .eq (25), 3) := by decide +kernel
theorem dM_skip_27 : decode mM_skip.2.1 27 = .ok (.aload_n 0, 1) := by decide +kernel
theorem dM_skip_28 : decode mM_skip.2.1 28 = .ok (.getfield 7, 3) := by decide +kernel
theorem dM_skip_31 : decode mM_skip.2.1 31 = .ok (.iload_n 2, 1) := by decide +kernel
theorem dM_skip_32 : decode mM_skip.2.1 32 = .ok (.caload, 1) := by decide +kernel
theorem dM_skip_33 : decode mM_skip.2.1 33 = .ok (.bipush (10), 2) := by decide +kernel
theorem dM_skip_35 : decode mM_skip.2.1 35 = .ok (.if_icmp .eq (14), 3) := by decide +kernel
theorem dM_skip_38 : decode mM_skip.2.1 38 = .ok (.aload_n 0, 1) := by decide +kernel
theorem dM_skip_39 : decode mM_skip.2.1 39 = .ok (.getfield 7, 3) := by decide +kernel
theorem dM_skip_42 : decode mM_skip.2.1 42 = .ok (.iload_n 2, 1) := by decide +kernel
theorem dM_skip_43 : decode mM_skip.2.1 43 = .ok (.caload, 1) := by decide +kernel
theorem dM_skip_44 : decode mM_skip.2.1 44 = .ok (.bipush (35), 2) := by decide +kernel
theorem dM_skip_46 : decode mM_skip.2.1 46 = .ok (.if_icmp .ne (41), 3) := by decide +kernel
theorem dM_skip_49 : decode mM_skip.2.1 49 = .ok (.aload_n 0, 1) := by decide +kernel
theorem dM_skip_50 : decode mM_skip.2.1 50 = .ok (.getfield 7, 3) := by decide +kernel
theorem dM_skip_53 : decode mM_skip.2.1 53 = .ok (.iload_n 2, 1) := by decide +kernel
theorem dM_skip_54 : decode mM_skip.2.1 54 = .ok (.caload, 1) := by decide +kernel
theorem dM_skip_55 : decode mM_skip.2.1 55 = .ok (.bipush (35), 2) := by decide +kernel
theorem dM_skip_57 : decode mM_skip.2.1 57 = .ok (.if_icmp .eq (18), 3) := by decide +kernel
theorem dM_skip_60 : decode mM_skip.2.1 60 = .ok (.iload_n 3, 1) := by decide +kernel
theorem dM_skip_61 : decode mM_skip.2.1 61 = .ok (.ifCond .eq (18), 3) := by decide +kernel
theorem dM_skip_64 : decode mM_skip.2.1 64 = .ok (.aload_n 0, 1) := by decide +kernel
theorem dM_skip_65 : decode mM_skip.2.1 65 = .ok (.getfield 7, 3) := by decide +kernel
theorem dM_skip_68 : decode mM_skip.2.1 68 = .ok (.iload_n 2, 1) := by decide +kernel
theorem dM_skip_69 : decode mM_skip.2.1 69 = .ok (.caload, 1) := by decide +kernel
theorem dM_skip_70 : decode mM_skip.2.1 70 = .ok (.bipush (10), 2) := by decide +kernel
theorem dM_skip_72 : decode mM_skip.2.1 72 = .ok (.if_icmp .eq (7), 3) := by decide +kernel
theorem dM_skip_75 : decode mM_skip.2.1 75 = .ok (.iconst 1, 1) := by decide +kernel
theorem dM_skip_76 : decode mM_skip.2.1 76 = .ok (.goto (4), 3) := by decide +kernel
theorem dM_skip_79 : decode mM_skip.2.1 79 = .ok (.iconst 0, 1) := by decide +kernel
theorem dM_skip_80 : decode mM_skip.2.1 80 = .ok (.istore_n 3, 1) := by decide +kernel
theorem dM_skip_81 : decode mM_skip.2.1 81 = .ok (.iinc 2 (1), 3) := by decide +kernel
theorem dM_skip_84 : decode mM_skip.2.1 84 = .ok (.goto (-80), 3) := by decide +kernel
theorem dM_skip_87 : decode mM_skip.2.1 87 = .ok (.iload_n 2, 1) := by decide +kernel
theorem dM_skip_88 : decode mM_skip.2.1 88 = .ok (.ireturn, 1) := by decide +kernel
theorem dM_addToken_0 : decode mM_addToken.2.1 0 = .ok (.aload_n 0, 1) := by decide +kernel
theorem dM_addToken_1 : decode mM_addToken.2.1 1 = .ok (.getfield 16, 3) := by decide +kernel
theorem dM_addToken_4 : decode mM_addToken.2.1 4 = .ok (.aload_n 0, 1) := by decide +kernel
theorem dM_addToken_5 : decode mM_addToken.2.1 5 = .ok (.getfield 106, 3) := by decide +kernel
theorem dM_addToken_8 : decode mM_addToken.2.1 8 = .ok (.iload_n 1, 1) := by decide +kernel
theorem dM_addToken_9 : decode mM_addToken.2.1 9 = .ok (.iastore, 1) := by decide +kernel
theorem dM_addToken_10 : decode mM_addToken.2.1 10 = .ok (.aload_n 0, 1) := by decide +kernel
theorem dM_addToken_11 : decode mM_addToken.2.1 11 = .ok (.getfield 20, 3) := by decide +kernel
theorem dM_addToken_14 : decode mM_addToken.2.1 14 = .ok (.aload_n 0, 1) := by decide +kernel
theorem dM_addToken_15 : decode mM_addToken.2.1 15 = .ok (.getfield 106, 3) := by decide +kernel
theorem dM_addToken_18 : decode mM_addToken.2.1 18 = .ok (.iload_n 2, 1) := by decide +kernel
theorem dM_addToken_19 : decode mM_addToken.2.1 19 = .ok (.iload_n 1, 1) := by decide +kernel
theorem dM_addToken_20 : decode mM_addToken.2.1 20 = .ok (.isub, 1) := by decide +kernel
theorem dM_addToken_21 : decode mM_addToken.2.1 21 = .ok (.iastore, 1) := by decide +kernel
theorem dM_addToken_22 : decode mM_addToken.2.1 22 = .ok (.aload_n 0, 1) := by decide +kernel
theorem dM_addToken_23 : decode mM_addToken.2.1 23 = .ok (.getfield 23, 3) := by decide +kernel
theorem dM_addToken_26 : decode mM_addToken.2.1 26 = .ok (.aload_n 0, 1) := by decide +kernel
theorem dM_addToken_27 : decode mM_addToken.2.1 27 = .ok (.getfield 106, 3) := by decide +kernel
theorem dM_addToken_30 : decode mM_addToken.2.1 30 = .ok (.iload_n 3, 1) := by decide +kernel
theorem dM_addToken_31 : decode mM_addToken.2.1 31 = .ok (.iastore, 1) := by decide +kernel
theorem dM_addToken_32 : decode mM_addToken.2.1 32 = .ok (.aload_n 0, 1) := by decide +kernel
theorem dM_addToken_33 : decode mM_addToken.2.1 33 = .ok (.dup, 1) := by decide +kernel
theorem dM_addToken_34 : decode mM_addToken.2.1 34 = .ok (.getfield 106, 3) := by decide +kernel
theorem dM_addToken_37 : decode mM_addToken.2.1 37 = .ok (.iconst 1, 1) := by decide +kernel
theorem dM_addToken_38 : decode mM_addToken.2.1 38 = .ok (.iadd, 1) := by decide +kernel
theorem dM_addToken_39 : decode mM_addToken.2.1 39 = .ok (.putfield 106, 3) := by decide +kernel
theorem dM_addToken_42 : decode mM_addToken.2.1 42 = .ok (.return_, 1) := by decide +kernel
theorem dM_findTokens_0 : decode mM_findTokens.2.1 0 = .ok (.aload_n 0, 1) := by decide +kernel
theorem dM_findTokens_1 : decode mM_findTokens.2.1 1 = .ok (.iconst 0, 1) := by decide +kernel
theorem dM_findTokens_2 : decode mM_findTokens.2.1 2 = .ok (.putfield 106, 3) := by decide +kernel
theorem dM_findTokens_5 : decode mM_findTokens.2.1 5 = .ok (.aload_n 0, 1) := by decide +kernel
theorem dM_findTokens_6 : decode mM_findTokens.2.1 6 = .ok (.iconst 0, 1) := by decide +kernel
theorem dM_findTokens_7 : decode mM_findTokens.2.1 7 = .ok (.invokevirtual 109, 3) := by decide +kernel
theorem dM_findTokens_10 : decode mM_findTokens.2.1 10 = .ok (.istore_n 1, 1) := by decide +kernel
theorem dM_findTokens_11 : decode mM_findTokens.2.1 11 = .ok (.iload_n 1, 1) := by decide +kernel
theorem dM_findTokens_12 : decode mM_findTokens.2.1 12 = .ok (.aload_n 0, 1) := by decide +kernel
theorem dM_findTokens_13 : decode mM_findTokens.2.1 13 = .ok (.getfield 103, 3) := by decide +kernel
theorem dM_findTokens_16 : decode mM_findTokens.2.1 16 = .ok (.if_icmp .ge (189), 3) := by decide +kernel
theorem dM_findTokens_19 : decode mM_findTokens.2.1 19 = .ok (.aload_n 0, 1) := by decide +kernel
theorem dM_findTokens_20 : decode mM_findTokens.2.1 20 = .ok (.getfield 7, 3) := by decide +kernel
theorem dM_findTokens_23 : decode mM_findTokens.2.1 23 = .ok (.iload_n 1, 1) := by decide +kernel
theorem dM_findTokens_24 : decode mM_findTokens.2.1 24 = .ok (.caload, 1) := by decide +kernel
theorem dM_findTokens_25 : decode mM_findTokens.2.1 25 = .ok (.istore_n 2, 1) := by decide +kernel
theorem dM_findTokens_26 : decode mM_findTokens.2.1 26 = .ok (.iload_n 1, 1) := by decide +kernel
theorem dM_findTokens_27 : decode mM_findTokens.2.1 27 = .ok (.iconst 1, 1) := by decide +kernel
theorem dM_findTokens_28 : decode mM_findTokens.2.1 28 = .ok (.iadd, 1) := by decide +kernel
theorem dM_findTokens_29 : decode mM_findTokens.2.1 29 = .ok (.istore_n 3, 1) := by decide +kernel
theorem dM_findTokens_30 : decode mM_findTokens.2.1 30 = .ok (.iload_n 2, 1) := by decide +kernel
theorem dM_findTokens_31 : decode mM_findTokens.2.1 31 = .ok (.invokestatic 113, 3) := by decide +kernel
theorem dM_findTokens_34 : decode mM_findTokens.2.1 34 = .ok (.ifCond .eq (7), 3) := by decide +kernel
theorem dM_findTokens_37 : decode mM_findTokens.2.1 37 = .ok (.iconst 0, 1) := by decide +kernel
theorem dM_findTokens_38 : decode mM_findTokens.2.1 38 = .ok (.goto (26), 3) := by decide +kernel
theorem dM_findTokens_41 : decode mM_findTokens.2.1 41 = .ok (.iload_n 2, 1) := by decide +kernel
theorem dM_findTokens_42 : decode mM_findTokens.2.1 42 = .ok (.invokestatic 117, 3) := by decide +kernel
theorem dM_findTokens_45 : decode mM_findTokens.2.1 45 = .ok (.ifCond .eq (7), 3) := by decide +kernel
theorem dM_findTokens_48 : decode mM_findTokens.2.1 48 = .ok (.iconst 1, 1) := by decide +kernel
theorem dM_findTokens_49 : decode mM_findTokens.2.1 49 = .ok (.goto (15), 3) := by decide +kernel
theorem dM_findTokens_52 : decode mM_findTokens.2.1 52 = .ok (.iload_n 2, 1) := by decide +kernel
theorem dM_findTokens_53 : decode mM_findTokens.2.1 53 = .ok (.invokestatic 120, 3) := by decide +kernel
theorem dM_findTokens_56 : decode mM_findTokens.2.1 56 = .ok (.ifCond .eq (7), 3) := by decide +kernel
theorem dM_findTokens_59 : decode mM_findTokens.2.1 59 = .ok (.iconst 3, 1) := by decide +kernel
theorem dM_findTokens_60 : decode mM_findTokens.2.1 60 = .ok (.goto (4), 3) := by decide +kernel
theorem dM_findTokens_63 : decode mM_findTokens.2.1 63 = .ok (.iconst 4, 1) := by decide +kernel
theorem dM_findTokens_64 : decode mM_findTokens.2.1 64 = .ok (.istore 4, 2) := by decide +kernel
theorem dM_findTokens_66 : decode mM_findTokens.2.1 66 = .ok (.iload 4, 2) := by decide +kernel
theorem dM_findTokens_68 : decode mM_findTokens.2.1 68 = .ok (.ifCond .eq (9), 3) := by decide +kernel
theorem dM_findTokens_71 : decode mM_findTokens.2.1 71 = .ok (.iload 4, 2) := by decide +kernel
theorem dM_findTokens_73 : decode mM_findTokens.2.1 73 = .ok (.iconst 1, 1) := by decide +kernel
theorem dM_findTokens_74 : decode mM_findTokens.2.1 74 = .ok (.if_icmp .ne (49), 3) := by decide +kernel
theorem dM_findTokens_77 : decode mM_findTokens.2.1 77 = .ok (.iload_n 3, 1) := by decide +kernel
theorem dM_findTokens_78 : decode mM_findTokens.2.1 78 = .ok (.aload_n 0, 1) := by decide +kernel
theorem dM_findTokens_79 : decode mM_findTokens.2.1 79 = .ok (.getfield 103, 3) := by decide +kernel
theorem dM_findTokens_82 : decode mM_findTokens.2.1 82 = .ok (.if_icmp .ge (41), 3) := by decide +kernel
theorem dM_findTokens_85 : decode mM_findTokens.2.1 85 = .ok (.iload 4, 2) := by decide +kernel
theorem dM_findTokens_87 : decode mM_findTokens.2.1 87 = .ok (.ifCond .ne (18), 3) := by decide +kernel
theorem dM_findTokens_90 : decode mM_findTokens.2.1 90 = .ok (.aload_n 0, 1) := by decide +kernel
theorem dM_findTokens_91 : decode mM_findTokens.2.1 91 = .ok (.getfield 7, 3) := by decide +kernel
theorem dM_findTokens_94 : decode mM_findTokens.2.1 94 = .ok (.iload_n 3, 1) := by decide +kernel
theorem dM_findTokens_95 : decode mM_findTokens.2.1 95 = .ok (.caload, 1) := by decide +kernel
theorem dM_findTokens_96 : decode mM_findTokens.2.1 96 = .ok (.invokestatic 113, 3) := by decide +kernel
theorem dM_findTokens_99 : decode mM_findTokens.2.1 99 = .ok (.ifCond .eq (24), 3) := by decide +kernel
theorem dM_findTokens_102 : decode mM_findTokens.2.1 102 = .ok (.goto (15), 3) := by decide +kernel
theorem dM_findTokens_105 : decode mM_findTokens.2.1 105 = .ok (.aload_n 0, 1) := by decide +kernel
theorem dM_findTokens_106 : decode mM_findTokens.2.1 106 = .ok (.getfield 7, 3) := by decide +kernel
theorem dM_findTokens_109 : decode mM_findTokens.2.1 109 = .ok (.iload_n 3, 1) := by decide +kernel
theorem dM_findTokens_110 : decode mM_findTokens.2.1 110 = .ok (.caload, 1) := by decide +kernel
theorem dM_findTokens_111 : decode mM_findTokens.2.1 111 = .ok (.invokestatic 117, 3) := by decide +kernel
theorem dM_findTokens_114 : decode mM_findTokens.2.1 114 = .ok (.ifCond .eq (9), 3) := by decide +kernel
theorem dM_findTokens_117 : decode mM_findTokens.2.1 117 = .ok (.iinc 3 (1), 3) := by decide +kernel
theorem dM_findTokens_120 : decode mM_findTokens.2.1 120 = .ok (.goto (-43), 3) := by decide +kernel
theorem dM_findTokens_123 : decode mM_findTokens.2.1 123 = .ok (.iload_n 2, 1) := by decide +kernel
theorem dM_findTokens_124 : decode mM_findTokens.2.1 124 = .ok (.bipush (34), 2) := by decide +kernel
theorem dM_findTokens_126 : decode mM_findTokens.2.1 126 = .ok (.if_icmp .ne (62), 3) := by decide +kernel
theorem dM_findTokens_129 : decode mM_findTokens.2.1 129 = .ok (.iload_n 3, 1) := by decide +kernel
theorem dM_findTokens_130 : decode mM_findTokens.2.1 130 = .ok (.aload_n 0, 1) := by decide +kernel
theorem dM_findTokens_131 : decode mM_findTokens.2.1 131 = .ok (.getfield 103, 3) := by decide +kernel
theorem dM_findTokens_134 : decode mM_findTokens.2.1 134 = .ok (.if_icmp .ge (20), 3) := by decide +kernel
theorem dM_findTokens_137 : decode mM_findTokens.2.1 137 = .ok (.aload_n 0, 1) := by decide +kernel
theorem dM_findTokens_138 : decode mM_findTokens.2.1 138 = .ok (.getfield 7, 3) := by decide +kernel
theorem dM_findTokens_141 : decode mM_findTokens.2.1 141 = .ok (.iload_n 3, 1) := by decide +kernel
theorem dM_findTokens_142 : decode mM_findTokens.2.1 142 = .ok (.caload, 1) := by decide +kernel
theorem dM_findTokens_143 : decode mM_findTokens.2.1 143 = .ok (.bipush (34), 2) := by decide +kernel
theorem dM_findTokens_145 : decode mM_findTokens.2.1 145 = .ok (.if_icmp .eq (9), 3) := by decide +kernel
theorem dM_findTokens_148 : decode mM_findTokens.2.1 148 = .ok (.iinc 3 (1), 3) := by decide +kernel
theorem dM_findTokens_151 : decode mM_findTokens.2.1 151 = .ok (.goto (-22), 3) := by decide +kernel
theorem dM_findTokens_154 : decode mM_findTokens.2.1 154 = .ok (.iload_n 3, 1) := by decide +kernel
theorem dM_findTokens_155 : decode mM_findTokens.2.1 155 = .ok (.aload_n 0, 1) := by decide +kernel
theorem dM_findTokens_156 : decode mM_findTokens.2.1 156 = .ok (.getfield 103, 3) := by decide +kernel
end
section
theorem dM_findTokens_159 : decode mM_findTokens.2.1 159 = .ok (.if_icmp .ge (7), 3) := by decide +kernel
theorem dM_findTokens_162 : decode mM_findTokens.2.1 162 = .ok (.iconst 2, 1) := by decide +kernel
theorem dM_findTokens_163 : decode mM_findTokens.2.1 163 = .ok (.goto (4), 3) := by decide +kernel
theorem dM_findTokens_166 : decode mM_findTokens.2.1 166 = .ok (.iconst 4, 1) := by decide +kernel
theorem dM_findTokens_167 : decode mM_findTokens.2.1 167 = .ok (.istore 4, 2) := by decide +kernel
theorem dM_findTokens_169 : decode mM_findTokens.2.1 169 = .ok (.iload_n 3, 1) := by decide +kernel
theorem dM_findTokens_170 : decode mM_findTokens.2.1 170 = .ok (.aload_n 0, 1) := by decide +kernel
theorem dM_findTokens_171 : decode mM_findTokens.2.1 171 = .ok (.getfield 103, 3) := by decide +kernel
theorem dM_findTokens_174 : decode mM_findTokens.2.1 174 = .ok (.if_icmp .ge (9), 3) := by decide +kernel
theorem dM_findTokens_177 : decode mM_findTokens.2.1 177 = .ok (.iload_n 3, 1) := by decide +kernel
theorem dM_findTokens_178 : decode mM_findTokens.2.1 178 = .ok (.iconst 1, 1) := by decide +kernel
theorem dM_findTokens_179 : decode mM_findTokens.2.1 179 = .ok (.iadd, 1) := by decide +kernel
theorem dM_findTokens_180 : decode mM_findTokens.2.1 180 = .ok (.goto (7), 3) := by decide +kernel
theorem dM_findTokens_183 : decode mM_findTokens.2.1 183 = .ok (.aload_n 0, 1) := by decide +kernel
theorem dM_findTokens_184 : decode mM_findTokens.2.1 184 = .ok (.getfield 103, 3) := by decide +kernel
theorem dM_findTokens_187 : decode mM_findTokens.2.1 187 = .ok (.istore_n 3, 1) := by decide +kernel
theorem dM_findTokens_188 : decode mM_findTokens.2.1 188 = .ok (.aload_n 0, 1) := by decide +kernel
theorem dM_findTokens_189 : decode mM_findTokens.2.1 189 = .ok (.iload_n 1, 1) := by decide +kernel
theorem dM_findTokens_190 : decode mM_findTokens.2.1 190 = .ok (.iload_n 3, 1) := by decide +kernel
theorem dM_findTokens_191 : decode mM_findTokens.2.1 191 = .ok (.iload 4, 2) := by decide +kernel
theorem dM_findTokens_193 : decode mM_findTokens.2.1 193 = .ok (.invokevirtual 123, 3) := by decide +kernel
theorem dM_findTokens_196 : decode mM_findTokens.2.1 196 = .ok (.aload_n 0, 1) := by decide +kernel
theorem dM_findTokens_197 : decode mM_findTokens.2.1 197 = .ok (.iload_n 3, 1) := by decide +kernel
theorem dM_findTokens_198 : decode mM_findTokens.2.1 198 = .ok (.invokevirtual 109, 3) := by decide +kernel
theorem dM_findTokens_201 : decode mM_findTokens.2.1 201 = .ok (.istore_n 1, 1) := by decide +kernel
theorem dM_findTokens_202 : decode mM_findTokens.2.1 202 = .ok (.goto (-191), 3) := by decide +kernel
theorem dM_findTokens_205 : decode mM_findTokens.2.1 205 = .ok (.return_, 1) := by decide +kernel
theorem dM_is_0 : decode mM_is.2.1 0 = .ok (.aload_n 0, 1) := by decide +kernel
theorem dM_is_1 : decode mM_is.2.1 1 = .ok (.getfield 23, 3) := by decide +kernel
theorem dM_is_4 : decode mM_is.2.1 4 = .ok (.iload_n 1, 1) := by decide +kernel
theorem dM_is_5 : decode mM_is.2.1 5 = .ok (.iaload, 1) := by decide +kernel
theorem dM_is_6 : decode mM_is.2.1 6 = .ok (.iconst 3, 1) := by decide +kernel
theorem dM_is_7 : decode mM_is.2.1 7 = .ok (.if_icmp .ne (22), 3) := by decide +kernel
theorem dM_is_10 : decode mM_is.2.1 10 = .ok (.aload_n 0, 1) := by decide +kernel
theorem dM_is_11 : decode mM_is.2.1 11 = .ok (.getfield 7, 3) := by decide +kernel
theorem dM_is_14 : decode mM_is.2.1 14 = .ok (.aload_n 0, 1) := by decide +kernel
theorem dM_is_15 : decode mM_is.2.1 15 = .ok (.getfield 16, 3) := by decide +kernel
theorem dM_is_18 : decode mM_is.2.1 18 = .ok (.iload_n 1, 1) := by decide +kernel
theorem dM_is_19 : decode mM_is.2.1 19 = .ok (.iaload, 1) := by decide +kernel
theorem dM_is_20 : decode mM_is.2.1 20 = .ok (.caload, 1) := by decide +kernel
theorem dM_is_21 : decode mM_is.2.1 21 = .ok (.iload_n 2, 1) := by decide +kernel
theorem dM_is_22 : decode mM_is.2.1 22 = .ok (.if_icmp .ne (7), 3) := by decide +kernel
theorem dM_is_25 : decode mM_is.2.1 25 = .ok (.iconst 1, 1) := by decide +kernel
theorem dM_is_26 : decode mM_is.2.1 26 = .ok (.goto (4), 3) := by decide +kernel
theorem dM_is_29 : decode mM_is.2.1 29 = .ok (.iconst 0, 1) := by decide +kernel
theorem dM_is_30 : decode mM_is.2.1 30 = .ok (.ireturn, 1) := by decide +kernel
theorem dM_top_0 : decode mM_top.2.1 0 = .ok (.aload_n 0, 1) := by decide +kernel
theorem dM_top_1 : decode mM_top.2.1 1 = .ok (.getfield 127, 3) := by decide +kernel
theorem dM_top_4 : decode mM_top.2.1 4 = .ok (.ifCond .ne (7), 3) := by decide +kernel
theorem dM_top_7 : decode mM_top.2.1 7 = .ok (.iconst 0, 1) := by decide +kernel
theorem dM_top_8 : decode mM_top.2.1 8 = .ok (.goto (14), 3) := by decide +kernel
theorem dM_top_11 : decode mM_top.2.1 11 = .ok (.aload_n 0, 1) := by decide +kernel
theorem dM_top_12 : decode mM_top.2.1 12 = .ok (.getfield 73, 3) := by decide +kernel
theorem dM_top_15 : decode mM_top.2.1 15 = .ok (.aload_n 0, 1) := by decide +kernel
theorem dM_top_16 : decode mM_top.2.1 16 = .ok (.getfield 127, 3) := by decide +kernel
theorem dM_top_19 : decode mM_top.2.1 19 = .ok (.iconst 1, 1) := by decide +kernel
theorem dM_top_20 : decode mM_top.2.1 20 = .ok (.isub, 1) := by decide +kernel
theorem dM_top_21 : decode mM_top.2.1 21 = .ok (.iaload, 1) := by decide +kernel
theorem dM_top_22 : decode mM_top.2.1 22 = .ok (.ireturn, 1) := by decide +kernel
theorem dM_push_0 : decode mM_push.2.1 0 = .ok (.aload_n 0, 1) := by decide +kernel
theorem dM_push_1 : decode mM_push.2.1 1 = .ok (.getfield 127, 3) := by decide +kernel
theorem dM_push_4 : decode mM_push.2.1 4 = .ok (.bipush (12), 2) := by decide +kernel
theorem dM_push_6 : decode mM_push.2.1 6 = .ok (.if_icmp .ne (5), 3) := by decide +kernel
theorem dM_push_9 : decode mM_push.2.1 9 = .ok (.iconst 0, 1) := by decide +kernel
theorem dM_push_10 : decode mM_push.2.1 10 = .ok (.ireturn, 1) := by decide +kernel
theorem dM_push_11 : decode mM_push.2.1 11 = .ok (.aload_n 0, 1) := by decide +kernel
theorem dM_push_12 : decode mM_push.2.1 12 = .ok (.getfield 73, 3) := by decide +kernel
theorem dM_push_15 : decode mM_push.2.1 15 = .ok (.aload_n 0, 1) := by decide +kernel
theorem dM_push_16 : decode mM_push.2.1 16 = .ok (.getfield 127, 3) := by decide +kernel
theorem dM_push_19 : decode mM_push.2.1 19 = .ok (.iload_n 1, 1) := by decide +kernel
theorem dM_push_20 : decode mM_push.2.1 20 = .ok (.iastore, 1) := by decide +kernel
theorem dM_push_21 : decode mM_push.2.1 21 = .ok (.aload_n 0, 1) := by decide +kernel
theorem dM_push_22 : decode mM_push.2.1 22 = .ok (.dup, 1) := by decide +kernel
theorem dM_push_23 : decode mM_push.2.1 23 = .ok (.getfield 127, 3) := by decide +kernel
theorem dM_push_26 : decode mM_push.2.1 26 = .ok (.iconst 1, 1) := by decide +kernel
theorem dM_push_27 : decode mM_push.2.1 27 = .ok (.iadd, 1) := by decide +kernel
theorem dM_push_28 : decode mM_push.2.1 28 = .ok (.putfield 127, 3) := by decide +kernel
theorem dM_push_31 : decode mM_push.2.1 31 = .ok (.iconst 1, 1) := by decide +kernel
theorem dM_push_32 : decode mM_push.2.1 32 = .ok (.ireturn, 1) := by decide +kernel
theorem dM_whole_0 : decode mM_whole.2.1 0 = .ok (.aload_n 0, 1) := by decide +kernel
theorem dM_whole_1 : decode mM_whole.2.1 1 = .ok (.invokevirtual 130, 3) := by decide +kernel
theorem dM_whole_4 : decode mM_whole.2.1 4 = .ok (.iconst 4, 1) := by decide +kernel
theorem dM_whole_5 : decode mM_whole.2.1 5 = .ok (.if_icmp .ne (16), 3) := by decide +kernel
theorem dM_whole_8 : decode mM_whole.2.1 8 = .ok (.aload_n 0, 1) := by decide +kernel
theorem dM_whole_9 : decode mM_whole.2.1 9 = .ok (.dup, 1) := by decide +kernel
theorem dM_whole_10 : decode mM_whole.2.1 10 = .ok (.getfield 127, 3) := by decide +kernel
theorem dM_whole_13 : decode mM_whole.2.1 13 = .ok (.iconst 1, 1) := by decide +kernel
theorem dM_whole_14 : decode mM_whole.2.1 14 = .ok (.isub, 1) := by decide +kernel
theorem dM_whole_15 : decode mM_whole.2.1 15 = .ok (.putfield 127, 3) := by decide +kernel
theorem dM_whole_18 : decode mM_whole.2.1 18 = .ok (.goto (-18), 3) := by decide +kernel
theorem dM_whole_21 : decode mM_whole.2.1 21 = .ok (.aload_n 0, 1) := by decide +kernel
theorem dM_whole_22 : decode mM_whole.2.1 22 = .ok (.iconst 5, 1) := by decide +kernel
theorem dM_whole_23 : decode mM_whole.2.1 23 = .ok (.putfield 134, 3) := by decide +kernel
theorem dM_whole_26 : decode mM_whole.2.1 26 = .ok (.return_, 1) := by decide +kernel
theorem dM_start_0 : decode mM_start.2.1 0 = .ok (.aload_n 0, 1) := by decide +kernel
theorem dM_start_1 : decode mM_start.2.1 1 = .ok (.getfield 38, 3) := by decide +kernel
theorem dM_start_4 : decode mM_start.2.1 4 = .ok (.aload_n 0, 1) := by decide +kernel
theorem dM_start_5 : decode mM_start.2.1 5 = .ok (.getfield 137, 3) := by decide +kernel
theorem dM_start_8 : decode mM_start.2.1 8 = .ok (.iload_n 1, 1) := by decide +kernel
theorem dM_start_9 : decode mM_start.2.1 9 = .ok (.iastore, 1) := by decide +kernel
theorem dM_start_10 : decode mM_start.2.1 10 = .ok (.aload_n 0, 1) := by decide +kernel
theorem dM_start_11 : decode mM_start.2.1 11 = .ok (.getfield 41, 3) := by decide +kernel
theorem dM_start_14 : decode mM_start.2.1 14 = .ok (.aload_n 0, 1) := by decide +kernel
theorem dM_start_15 : decode mM_start.2.1 15 = .ok (.getfield 137, 3) := by decide +kernel
theorem dM_start_18 : decode mM_start.2.1 18 = .ok (.iconst (-1), 1) := by decide +kernel
theorem dM_start_19 : decode mM_start.2.1 19 = .ok (.iastore, 1) := by decide +kernel
theorem dM_start_20 : decode mM_start.2.1 20 = .ok (.aload_n 0, 1) := by decide +kernel
theorem dM_start_21 : decode mM_start.2.1 21 = .ok (.getfield 44, 3) := by decide +kernel
theorem dM_start_24 : decode mM_start.2.1 24 = .ok (.aload_n 0, 1) := by decide +kernel
theorem dM_start_25 : decode mM_start.2.1 25 = .ok (.getfield 137, 3) := by decide +kernel
theorem dM_start_28 : decode mM_start.2.1 28 = .ok (.aload_n 0, 1) := by decide +kernel
theorem dM_start_29 : decode mM_start.2.1 29 = .ok (.getfield 140, 3) := by decide +kernel
theorem dM_start_32 : decode mM_start.2.1 32 = .ok (.iastore, 1) := by decide +kernel
theorem dM_start_33 : decode mM_start.2.1 33 = .ok (.aload_n 0, 1) := by decide +kernel
theorem dM_start_34 : decode mM_start.2.1 34 = .ok (.getfield 47, 3) := by decide +kernel
theorem dM_start_37 : decode mM_start.2.1 37 = .ok (.aload_n 0, 1) := by decide +kernel
theorem dM_start_38 : decode mM_start.2.1 38 = .ok (.getfield 137, 3) := by decide +kernel
theorem dM_start_41 : decode mM_start.2.1 41 = .ok (.iload_n 2, 1) := by decide +kernel
theorem dM_start_42 : decode mM_start.2.1 42 = .ok (.bastore, 1) := by decide +kernel
theorem dM_start_43 : decode mM_start.2.1 43 = .ok (.aload_n 0, 1) := by decide +kernel
theorem dM_start_44 : decode mM_start.2.1 44 = .ok (.getfield 51, 3) := by decide +kernel
theorem dM_start_47 : decode mM_start.2.1 47 = .ok (.aload_n 0, 1) := by decide +kernel
theorem dM_start_48 : decode mM_start.2.1 48 = .ok (.getfield 137, 3) := by decide +kernel
theorem dM_start_51 : decode mM_start.2.1 51 = .ok (.iconst 0, 1) := by decide +kernel
theorem dM_start_52 : decode mM_start.2.1 52 = .ok (.bastore, 1) := by decide +kernel
theorem dM_start_53 : decode mM_start.2.1 53 = .ok (.aload_n 0, 1) := by decide +kernel
theorem dM_start_54 : decode mM_start.2.1 54 = .ok (.aload_n 0, 1) := by decide +kernel
theorem dM_start_55 : decode mM_start.2.1 55 = .ok (.getfield 137, 3) := by decide +kernel
theorem dM_start_58 : decode mM_start.2.1 58 = .ok (.putfield 143, 3) := by decide +kernel
theorem dM_start_61 : decode mM_start.2.1 61 = .ok (.aload_n 0, 1) := by decide +kernel
theorem dM_start_62 : decode mM_start.2.1 62 = .ok (.dup, 1) := by decide +kernel
theorem dM_start_63 : decode mM_start.2.1 63 = .ok (.getfield 137, 3) := by decide +kernel
theorem dM_start_66 : decode mM_start.2.1 66 = .ok (.iconst 1, 1) := by decide +kernel
theorem dM_start_67 : decode mM_start.2.1 67 = .ok (.iadd, 1) := by decide +kernel
theorem dM_start_68 : decode mM_start.2.1 68 = .ok (.putfield 137, 3) := by decide +kernel
theorem dM_start_71 : decode mM_start.2.1 71 = .ok (.return_, 1) := by decide +kernel
theorem dM_finish_0 : decode mM_finish.2.1 0 = .ok (.aload_n 0, 1) := by decide +kernel
theorem dM_finish_1 : decode mM_finish.2.1 1 = .ok (.getfield 41, 3) := by decide +kernel
theorem dM_finish_4 : decode mM_finish.2.1 4 = .ok (.iload_n 1, 1) := by decide +kernel
theorem dM_finish_5 : decode mM_finish.2.1 5 = .ok (.iload_n 2, 1) := by decide +kernel
theorem dM_finish_6 : decode mM_finish.2.1 6 = .ok (.iastore, 1) := by decide +kernel
theorem dM_finish_7 : decode mM_finish.2.1 7 = .ok (.aload_n 0, 1) := by decide +kernel
theorem dM_finish_8 : decode mM_finish.2.1 8 = .ok (.iconst 0, 1) := by decide +kernel
theorem dM_finish_9 : decode mM_finish.2.1 9 = .ok (.putfield 134, 3) := by decide +kernel
theorem dM_finish_12 : decode mM_finish.2.1 12 = .ok (.aload_n 0, 1) := by decide +kernel
theorem dM_finish_13 : decode mM_finish.2.1 13 = .ok (.aload_n 0, 1) := by decide +kernel
theorem dM_finish_14 : decode mM_finish.2.1 14 = .ok (.getfield 127, 3) := by decide +kernel
theorem dM_finish_17 : decode mM_finish.2.1 17 = .ok (.ifCond .ne (10), 3) := by decide +kernel
theorem dM_finish_20 : decode mM_finish.2.1 20 = .ok (.aload_n 0, 1) := by decide +kernel
theorem dM_finish_21 : decode mM_finish.2.1 21 = .ok (.getfield 137, 3) := by decide +kernel
theorem dM_finish_24 : decode mM_finish.2.1 24 = .ok (.goto (7), 3) := by decide +kernel
theorem dM_finish_27 : decode mM_finish.2.1 27 = .ok (.aload_n 0, 1) := by decide +kernel
theorem dM_finish_28 : decode mM_finish.2.1 28 = .ok (.getfield 146, 3) := by decide +kernel
theorem dM_finish_31 : decode mM_finish.2.1 31 = .ok (.putfield 146, 3) := by decide +kernel
theorem dM_finish_34 : decode mM_finish.2.1 34 = .ok (.return_, 1) := by decide +kernel
theorem dM_readItem_0 : decode mM_readItem.2.1 0 = .ok (.aload_n 0, 1) := by decide +kernel
theorem dM_readItem_1 : decode mM_readItem.2.1 1 = .ok (.getfield 23, 3) := by decide +kernel
theorem dM_readItem_4 : decode mM_readItem.2.1 4 = .ok (.iload_n 1, 1) := by decide +kernel
theorem dM_readItem_5 : decode mM_readItem.2.1 5 = .ok (.iaload, 1) := by decide +kernel
theorem dM_readItem_6 : decode mM_readItem.2.1 6 = .ok (.ifCond .ne (16), 3) := by decide +kernel
theorem dM_readItem_9 : decode mM_readItem.2.1 9 = .ok (.aload_n 0, 1) := by decide +kernel
theorem dM_readItem_10 : decode mM_readItem.2.1 10 = .ok (.iload_n 1, 1) := by decide +kernel
theorem dM_readItem_11 : decode mM_readItem.2.1 11 = .ok (.iconst 0, 1) := by decide +kernel
theorem dM_readItem_12 : decode mM_readItem.2.1 12 = .ok (.invokevirtual 149, 3) := by decide +kernel
theorem dM_readItem_15 : decode mM_readItem.2.1 15 = .ok (.aload_n 0, 1) := by decide +kernel
theorem dM_readItem_16 : decode mM_readItem.2.1 16 = .ok (.iconst 1, 1) := by decide +kernel
theorem dM_readItem_17 : decode mM_readItem.2.1 17 = .ok (.putfield 134, 3) := by decide +kernel
theorem dM_readItem_20 : decode mM_readItem.2.1 20 = .ok (.iconst 1, 1) := by decide +kernel
theorem dM_readItem_21 : decode mM_readItem.2.1 21 = .ok (.ireturn, 1) := by decide +kernel
theorem dM_readItem_22 : decode mM_readItem.2.1 22 = .ok (.aload_n 0, 1) := by decide +kernel
theorem dM_readItem_23 : decode mM_readItem.2.1 23 = .ok (.iload_n 1, 1) := by decide +kernel
theorem dM_readItem_24 : decode mM_readItem.2.1 24 = .ok (.bipush (123), 2) := by decide +kernel
theorem dM_readItem_26 : decode mM_readItem.2.1 26 = .ok (.invokevirtual 153, 3) := by decide +kernel
theorem dM_readItem_29 : decode mM_readItem.2.1 29 = .ok (.ifCond .eq (44), 3) := by decide +kernel
theorem dM_readItem_32 : decode mM_readItem.2.1 32 = .ok (.aload_n 0, 1) := by decide +kernel
theorem dM_readItem_33 : decode mM_readItem.2.1 33 = .ok (.iconst 1, 1) := by decide +kernel
theorem dM_readItem_34 : decode mM_readItem.2.1 34 = .ok (.invokevirtual 157, 3) := by decide +kernel
theorem dM_readItem_37 : decode mM_readItem.2.1 37 = .ok (.ifCond .eq (36), 3) := by decide +kernel
theorem dM_readItem_40 : decode mM_readItem.2.1 40 = .ok (.aload_n 0, 1) := by decide +kernel
theorem dM_readItem_41 : decode mM_readItem.2.1 41 = .ok (.iload_n 1, 1) := by decide +kernel
theorem dM_readItem_42 : decode mM_readItem.2.1 42 = .ok (.iconst 1, 1) := by decide +kernel
theorem dM_readItem_43 : decode mM_readItem.2.1 43 = .ok (.invokevirtual 149, 3) := by decide +kernel
theorem dM_readItem_46 : decode mM_readItem.2.1 46 = .ok (.aload_n 0, 1) := by decide +kernel
theorem dM_readItem_47 : decode mM_readItem.2.1 47 = .ok (.getfield 76, 3) := by decide +kernel
theorem dM_readItem_50 : decode mM_readItem.2.1 50 = .ok (.aload_n 0, 1) := by decide +kernel
theorem dM_readItem_51 : decode mM_readItem.2.1 51 = .ok (.getfield 140, 3) := by decide +kernel
theorem dM_readItem_54 : decode mM_readItem.2.1 54 = .ok (.aload_n 0, 1) := by decide +kernel
theorem dM_readItem_55 : decode mM_readItem.2.1 55 = .ok (.getfield 137, 3) := by decide +kernel
theorem dM_readItem_58 : decode mM_readItem.2.1 58 = .ok (.iconst 1, 1) := by decide +kernel
theorem dM_readItem_59 : decode mM_readItem.2.1 59 = .ok (.isub, 1) := by decide +kernel
theorem dM_readItem_60 : decode mM_readItem.2.1 60 = .ok (.iastore, 1) := by decide +kernel
theorem dM_readItem_61 : decode mM_readItem.2.1 61 = .ok (.aload_n 0, 1) := by decide +kernel
theorem dM_readItem_62 : decode mM_readItem.2.1 62 = .ok (.dup, 1) := by decide +kernel
theorem dM_readItem_63 : decode mM_readItem.2.1 63 = .ok (.getfield 140, 3) := by decide +kernel
theorem dM_readItem_66 : decode mM_readItem.2.1 66 = .ok (.iconst 1, 1) := by decide +kernel
theorem dM_readItem_67 : decode mM_readItem.2.1 67 = .ok (.iadd, 1) := by decide +kernel
theorem dM_readItem_68 : decode mM_readItem.2.1 68 = .ok (.putfield 140, 3) := by decide +kernel
theorem dM_readItem_71 : decode mM_readItem.2.1 71 = .ok (.iconst 1, 1) := by decide +kernel
theorem dM_readItem_72 : decode mM_readItem.2.1 72 = .ok (.ireturn, 1) := by decide +kernel
theorem dM_readItem_73 : decode mM_readItem.2.1 73 = .ok (.aload_n 0, 1) := by decide +kernel
theorem dM_readItem_74 : decode mM_readItem.2.1 74 = .ok (.iload_n 1, 1) := by decide +kernel
theorem dM_readItem_75 : decode mM_readItem.2.1 75 = .ok (.bipush (125), 2) := by decide +kernel
theorem dM_readItem_77 : decode mM_readItem.2.1 77 = .ok (.invokevirtual 153, 3) := by decide +kernel
theorem dM_readItem_80 : decode mM_readItem.2.1 80 = .ok (.ifCond .eq (47), 3) := by decide +kernel
theorem dM_readItem_83 : decode mM_readItem.2.1 83 = .ok (.aload_n 0, 1) := by decide +kernel
theorem dM_readItem_84 : decode mM_readItem.2.1 84 = .ok (.invokevirtual 130, 3) := by decide +kernel
theorem dM_readItem_87 : decode mM_readItem.2.1 87 = .ok (.iconst 1, 1) := by decide +kernel
theorem dM_readItem_88 : decode mM_readItem.2.1 88 = .ok (.if_icmp .ne (39), 3) := by decide +kernel
theorem dM_readItem_91 : decode mM_readItem.2.1 91 = .ok (.aload_n 0, 1) := by decide +kernel
theorem dM_readItem_92 : decode mM_readItem.2.1 92 = .ok (.dup, 1) := by decide +kernel
theorem dM_readItem_93 : decode mM_readItem.2.1 93 = .ok (.getfield 127, 3) := by decide +kernel
theorem dM_readItem_96 : decode mM_readItem.2.1 96 = .ok (.iconst 1, 1) := by decide +kernel
theorem dM_readItem_97 : decode mM_readItem.2.1 97 = .ok (.isub, 1) := by decide +kernel
theorem dM_readItem_98 : decode mM_readItem.2.1 98 = .ok (.putfield 127, 3) := by decide +kernel
theorem dM_readItem_101 : decode mM_readItem.2.1 101 = .ok (.aload_n 0, 1) := by decide +kernel
theorem dM_readItem_102 : decode mM_readItem.2.1 102 = .ok (.dup, 1) := by decide +kernel
theorem dM_readItem_103 : decode mM_readItem.2.1 103 = .ok (.getfield 140, 3) := by decide +kernel
theorem dM_readItem_106 : decode mM_readItem.2.1 106 = .ok (.iconst 1, 1) := by decide +kernel
theorem dM_readItem_107 : decode mM_readItem.2.1 107 = .ok (.isub, 1) := by decide +kernel
theorem dM_readItem_108 : decode mM_readItem.2.1 108 = .ok (.putfield 140, 3) := by decide +kernel
theorem dM_readItem_111 : decode mM_readItem.2.1 111 = .ok (.aload_n 0, 1) := by decide +kernel
theorem dM_readItem_112 : decode mM_readItem.2.1 112 = .ok (.aload_n 0, 1) := by decide +kernel
theorem dM_readItem_113 : decode mM_readItem.2.1 113 = .ok (.getfield 76, 3) := by decide +kernel
theorem dM_readItem_116 : decode mM_readItem.2.1 116 = .ok (.aload_n 0, 1) := by decide +kernel
theorem dM_readItem_117 : decode mM_readItem.2.1 117 = .ok (.getfield 140, 3) := by decide +kernel
theorem dM_readItem_120 : decode mM_readItem.2.1 120 = .ok (.iaload, 1) := by decide +kernel
theorem dM_readItem_121 : decode mM_readItem.2.1 121 = .ok (.iload_n 1, 1) := by decide +kernel
theorem dM_readItem_122 : decode mM_readItem.2.1 122 = .ok (.invokevirtual 161, 3) := by decide +kernel
theorem dM_readItem_125 : decode mM_readItem.2.1 125 = .ok (.iconst 1, 1) := by decide +kernel
theorem dM_readItem_126 : decode mM_readItem.2.1 126 = .ok (.ireturn, 1) := by decide +kernel
theorem dM_readItem_127 : decode mM_readItem.2.1 127 = .ok (.iconst 0, 1) := by decide +kernel
theorem dM_readItem_128 : decode mM_readItem.2.1 128 = .ok (.ireturn, 1) := by decide +kernel
theorem dM_readNamed_0 : decode mM_readNamed.2.1 0 = .ok (.aload_n 0, 1) := by decide +kernel
theorem dM_readNamed_1 : decode mM_readNamed.2.1 1 = .ok (.iload_n 1, 1) := by decide +kernel
theorem dM_readNamed_2 : decode mM_readNamed.2.1 2 = .ok (.bipush (61), 2) := by decide +kernel
theorem dM_readNamed_4 : decode mM_readNamed.2.1 4 = .ok (.invokevirtual 153, 3) := by decide +kernel
theorem dM_readNamed_7 : decode mM_readNamed.2.1 7 = .ok (.ifCond .eq (20), 3) := by decide +kernel
theorem dM_readNamed_10 : decode mM_readNamed.2.1 10 = .ok (.aload_n 0, 1) := by decide +kernel
theorem dM_readNamed_11 : decode mM_readNamed.2.1 11 = .ok (.getfield 51, 3) := by decide +kernel
theorem dM_readNamed_14 : decode mM_readNamed.2.1 14 = .ok (.aload_n 0, 1) := by decide +kernel
theorem dM_readNamed_15 : decode mM_readNamed.2.1 15 = .ok (.getfield 143, 3) := by decide +kernel
theorem dM_readNamed_18 : decode mM_readNamed.2.1 18 = .ok (.iconst 1, 1) := by decide +kernel
theorem dM_readNamed_19 : decode mM_readNamed.2.1 19 = .ok (.bastore, 1) := by decide +kernel
theorem dM_readNamed_20 : decode mM_readNamed.2.1 20 = .ok (.aload_n 0, 1) := by decide +kernel
theorem dM_readNamed_21 : decode mM_readNamed.2.1 21 = .ok (.iconst 2, 1) := by decide +kernel
theorem dM_readNamed_22 : decode mM_readNamed.2.1 22 = .ok (.putfield 134, 3) := by decide +kernel
theorem dM_readNamed_25 : decode mM_readNamed.2.1 25 = .ok (.iconst 1, 1) := by decide +kernel
theorem dM_readNamed_26 : decode mM_readNamed.2.1 26 = .ok (.ireturn, 1) := by decide +kernel
theorem dM_readNamed_27 : decode mM_readNamed.2.1 27 = .ok (.aload_n 0, 1) := by decide +kernel
theorem dM_readNamed_28 : decode mM_readNamed.2.1 28 = .ok (.iconst 3, 1) := by decide +kernel
theorem dM_readNamed_29 : decode mM_readNamed.2.1 29 = .ok (.putfield 134, 3) := by decide +kernel
theorem dM_readNamed_32 : decode mM_readNamed.2.1 32 = .ok (.aload_n 0, 1) := by decide +kernel
theorem dM_readNamed_33 : decode mM_readNamed.2.1 33 = .ok (.iload_n 1, 1) := by decide +kernel
theorem dM_readNamed_34 : decode mM_readNamed.2.1 34 = .ok (.bipush (40), 2) := by decide +kernel
theorem dM_readNamed_36 : decode mM_readNamed.2.1 36 = .ok (.invokevirtual 153, 3) := by decide +kernel
theorem dM_readNamed_39 : decode mM_readNamed.2.1 39 = .ok (.ifCond .eq (15), 3) := by decide +kernel
theorem dM_readNamed_42 : decode mM_readNamed.2.1 42 = .ok (.aload_n 0, 1) := by decide +kernel
theorem dM_readNamed_43 : decode mM_readNamed.2.1 43 = .ok (.iconst 5, 1) := by decide +kernel
theorem dM_readNamed_44 : decode mM_readNamed.2.1 44 = .ok (.invokevirtual 157, 3) := by decide +kernel
theorem dM_readNamed_47 : decode mM_readNamed.2.1 47 = .ok (.ifCond .eq (7), 3) := by decide +kernel
theorem dM_readNamed_50 : decode mM_readNamed.2.1 50 = .ok (.iconst 1, 1) := by decide +kernel
theorem dM_readNamed_51 : decode mM_readNamed.2.1 51 = .ok (.goto (4), 3) := by decide +kernel
theorem dM_readNamed_54 : decode mM_readNamed.2.1 54 = .ok (.iconst 0, 1) := by decide +kernel
theorem dM_readNamed_55 : decode mM_readNamed.2.1 55 = .ok (.ireturn, 1) := by decide +kernel
theorem dM_readFactor_0 : decode mM_readFactor.2.1 0 = .ok (.aload_n 0, 1) := by decide +kernel
theorem dM_readFactor_1 : decode mM_readFactor.2.1 1 = .ok (.getfield 23, 3) := by decide +kernel
theorem dM_readFactor_4 : decode mM_readFactor.2.1 4 = .ok (.iload_n 1, 1) := by decide +kernel
theorem dM_readFactor_5 : decode mM_readFactor.2.1 5 = .ok (.iaload, 1) := by decide +kernel
theorem dM_readFactor_6 : decode mM_readFactor.2.1 6 = .ok (.iconst 1, 1) := by decide +kernel
theorem dM_readFactor_7 : decode mM_readFactor.2.1 7 = .ok (.if_icmp .eq (13), 3) := by decide +kernel
theorem dM_readFactor_10 : decode mM_readFactor.2.1 10 = .ok (.aload_n 0, 1) := by decide +kernel
theorem dM_readFactor_11 : decode mM_readFactor.2.1 11 = .ok (.getfield 23, 3) := by decide +kernel
theorem dM_readFactor_14 : decode mM_readFactor.2.1 14 = .ok (.iload_n 1, 1) := by decide +kernel
theorem dM_readFactor_15 : decode mM_readFactor.2.1 15 = .ok (.iaload, 1) := by decide +kernel
theorem dM_readFactor_16 : decode mM_readFactor.2.1 16 = .ok (.iconst 2, 1) := by decide +kernel
theorem dM_readFactor_17 : decode mM_readFactor.2.1 17 = .ok (.if_icmp .ne (9), 3) := by decide +kernel
theorem dM_readFactor_20 : decode mM_readFactor.2.1 20 = .ok (.aload_n 0, 1) := by decide +kernel
theorem dM_readFactor_21 : decode mM_readFactor.2.1 21 = .ok (.invokevirtual 165, 3) := by decide +kernel
theorem dM_readFactor_24 : decode mM_readFactor.2.1 24 = .ok (.iconst 1, 1) := by decide +kernel
theorem dM_readFactor_25 : decode mM_readFactor.2.1 25 = .ok (.ireturn, 1) := by decide +kernel
theorem dM_readFactor_26 : decode mM_readFactor.2.1 26 = .ok (.aload_n 0, 1) := by decide +kernel
theorem dM_readFactor_27 : decode mM_readFactor.2.1 27 = .ok (.getfield 23, 3) := by decide +kernel
theorem dM_readFactor_30 : decode mM_readFactor.2.1 30 = .ok (.iload_n 1, 1) := by decide +kernel
theorem dM_readFactor_31 : decode mM_readFactor.2.1 31 = .ok (.iaload, 1) := by decide +kernel
theorem dM_readFactor_32 : decode mM_readFactor.2.1 32 = .ok (.ifCond .ne (10), 3) := by decide +kernel
theorem dM_readFactor_35 : decode mM_readFactor.2.1 35 = .ok (.aload_n 0, 1) := by decide +kernel
theorem dM_readFactor_36 : decode mM_readFactor.2.1 36 = .ok (.iconst 4, 1) := by decide +kernel
theorem dM_readFactor_37 : decode mM_readFactor.2.1 37 = .ok (.putfield 134, 3) := by decide +kernel
theorem dM_readFactor_40 : decode mM_readFactor.2.1 40 = .ok (.iconst 1, 1) := by decide +kernel
theorem dM_readFactor_41 : decode mM_readFactor.2.1 41 = .ok (.ireturn, 1) := by decide +kernel
theorem dM_readFactor_42 : decode mM_readFactor.2.1 42 = .ok (.aload_n 0, 1) := by decide +kernel
theorem dM_readFactor_43 : decode mM_readFactor.2.1 43 = .ok (.iconst 2, 1) := by decide +kernel
theorem dM_readFactor_44 : decode mM_readFactor.2.1 44 = .ok (.putfield 134, 3) := by decide +kernel
theorem dM_readFactor_47 : decode mM_readFactor.2.1 47 = .ok (.aload_n 0, 1) := by decide +kernel
theorem dM_readFactor_48 : decode mM_readFactor.2.1 48 = .ok (.iload_n 1, 1) := by decide +kernel
theorem dM_readFactor_49 : decode mM_readFactor.2.1 49 = .ok (.bipush (40), 2) := by decide +kernel
theorem dM_readFactor_51 : decode mM_readFactor.2.1 51 = .ok (.invokevirtual 153, 3) := by decide +kernel
theorem dM_readFactor_54 : decode mM_readFactor.2.1 54 = .ok (.ifCond .eq (11), 3) := by decide +kernel
theorem dM_readFactor_57 : decode mM_readFactor.2.1 57 = .ok (.aload_n 0, 1) := by decide +kernel
theorem dM_readFactor_58 : decode mM_readFactor.2.1 58 = .ok (.iconst 2, 1) := by decide +kernel
theorem dM_readFactor_59 : decode mM_readFactor.2.1 59 = .ok (.invokevirtual 157, 3) := by decide +kernel
theorem dM_readFactor_62 : decode mM_readFactor.2.1 62 = .ok (.ifCond .ne (21), 3) := by decide +kernel
theorem dM_readFactor_65 : decode mM_readFactor.2.1 65 = .ok (.aload_n 0, 1) := by decide +kernel
theorem dM_readFactor_66 : decode mM_readFactor.2.1 66 = .ok (.iload_n 1, 1) := by decide +kernel
theorem dM_readFactor_67 : decode mM_readFactor.2.1 67 = .ok (.bipush (45), 2) := by decide +kernel
theorem dM_readFactor_69 : decode mM_readFactor.2.1 69 = .ok (.invokevirtual 153, 3) := by decide +kernel
theorem dM_readFactor_72 : decode mM_readFactor.2.1 72 = .ok (.ifCond .eq (15), 3) := by decide +kernel
theorem dM_readFactor_75 : decode mM_readFactor.2.1 75 = .ok (.aload_n 0, 1) := by decide +kernel
theorem dM_readFactor_76 : decode mM_readFactor.2.1 76 = .ok (.iconst 4, 1) := by decide +kernel
theorem dM_readFactor_77 : decode mM_readFactor.2.1 77 = .ok (.invokevirtual 157, 3) := by decide +kernel
theorem dM_readFactor_80 : decode mM_readFactor.2.1 80 = .ok (.ifCond .eq (7), 3) := by decide +kernel
theorem dM_readFactor_83 : decode mM_readFactor.2.1 83 = .ok (.iconst 1, 1) := by decide +kernel
theorem dM_readFactor_84 : decode mM_readFactor.2.1 84 = .ok (.goto (4), 3) := by decide +kernel
theorem dM_readFactor_87 : decode mM_readFactor.2.1 87 = .ok (.iconst 0, 1) := by decide +kernel
theorem dM_readFactor_88 : decode mM_readFactor.2.1 88 = .ok (.ireturn, 1) := by decide +kernel
theorem dM_close_0 : decode mM_close.2.1 0 = .ok (.aload_n 0, 1) := by decide +kernel
theorem dM_close_1 : decode mM_close.2.1 1 = .ok (.invokevirtual 130, 3) := by decide +kernel
theorem dM_close_4 : decode mM_close.2.1 4 = .ok (.istore_n 1, 1) := by decide +kernel
theorem dM_close_5 : decode mM_close.2.1 5 = .ok (.aload_n 0, 1) := by decide +kernel
theorem dM_close_6 : decode mM_close.2.1 6 = .ok (.dup, 1) := by decide +kernel
theorem dM_close_7 : decode mM_close.2.1 7 = .ok (.getfield 127, 3) := by decide +kernel
theorem dM_close_10 : decode mM_close.2.1 10 = .ok (.iconst 1, 1) := by decide +kernel
theorem dM_close_11 : decode mM_close.2.1 11 = .ok (.isub, 1) := by decide +kernel
theorem dM_close_12 : decode mM_close.2.1 12 = .ok (.putfield 127, 3) := by decide +kernel
theorem dM_close_15 : decode mM_close.2.1 15 = .ok (.iload_n 1, 1) := by decide +kernel
theorem dM_close_16 : decode mM_close.2.1 16 = .ok (.iconst 5, 1) := by decide +kernel
theorem dM_close_17 : decode mM_close.2.1 17 = .ok (.if_icmp .ne (12), 3) := by decide +kernel
theorem dM_close_20 : decode mM_close.2.1 20 = .ok (.aload_n 0, 1) := by decide +kernel
theorem dM_close_21 : decode mM_close.2.1 21 = .ok (.bipush (6), 2) := by decide +kernel
theorem dM_close_23 : decode mM_close.2.1 23 = .ok (.putfield 134, 3) := by decide +kernel
theorem dM_close_26 : decode mM_close.2.1 26 = .ok (.goto (7), 3) := by decide +kernel
theorem dM_close_29 : decode mM_close.2.1 29 = .ok (.aload_n 0, 1) := by decide +kernel
theorem dM_close_30 : decode mM_close.2.1 30 = .ok (.invokevirtual 165, 3) := by decide +kernel
theorem dM_close_33 : decode mM_close.2.1 33 = .ok (.iconst 1, 1) := by decide +kernel
theorem dM_close_34 : decode mM_close.2.1 34 = .ok (.ireturn, 1) := by decide +kernel
theorem dM_readBehind_0 : decode mM_readBehind.2.1 0 = .ok (.aload_n 0, 1) := by decide +kernel
theorem dM_readBehind_1 : decode mM_readBehind.2.1 1 = .ok (.invokevirtual 130, 3) := by decide +kernel
theorem dM_readBehind_4 : decode mM_readBehind.2.1 4 = .ok (.istore_n 2, 1) := by decide +kernel
theorem dM_readBehind_5 : decode mM_readBehind.2.1 5 = .ok (.iload_n 2, 1) := by decide +kernel
theorem dM_readBehind_6 : decode mM_readBehind.2.1 6 = .ok (.iconst 2, 1) := by decide +kernel
theorem dM_readBehind_7 : decode mM_readBehind.2.1 7 = .ok (.if_icmp .eq (13), 3) := by decide +kernel
theorem dM_readBehind_10 : decode mM_readBehind.2.1 10 = .ok (.iload_n 2, 1) := by decide +kernel
theorem dM_readBehind_11 : decode mM_readBehind.2.1 11 = .ok (.iconst 3, 1) := by decide +kernel
theorem dM_readBehind_12 : decode mM_readBehind.2.1 12 = .ok (.if_icmp .eq (8), 3) := by decide +kernel
theorem dM_readBehind_15 : decode mM_readBehind.2.1 15 = .ok (.iload_n 2, 1) := by decide +kernel
theorem dM_readBehind_16 : decode mM_readBehind.2.1 16 = .ok (.iconst 5, 1) := by decide +kernel
theorem dM_readBehind_17 : decode mM_readBehind.2.1 17 = .ok (.if_icmp .ne (7), 3) := by decide +kernel
theorem dM_readBehind_20 : decode mM_readBehind.2.1 20 = .ok (.iconst 1, 1) := by decide +kernel
theorem dM_readBehind_21 : decode mM_readBehind.2.1 21 = .ok (.goto (4), 3) := by decide +kernel
theorem dM_readBehind_24 : decode mM_readBehind.2.1 24 = .ok (.iconst 0, 1) := by decide +kernel
theorem dM_readBehind_25 : decode mM_readBehind.2.1 25 = .ok (.istore_n 3, 1) := by decide +kernel
theorem dM_readBehind_26 : decode mM_readBehind.2.1 26 = .ok (.aload_n 0, 1) := by decide +kernel
theorem dM_readBehind_27 : decode mM_readBehind.2.1 27 = .ok (.iload_n 1, 1) := by decide +kernel
theorem dM_readBehind_28 : decode mM_readBehind.2.1 28 = .ok (.bipush (43), 2) := by decide +kernel
theorem dM_readBehind_30 : decode mM_readBehind.2.1 30 = .ok (.invokevirtual 153, 3) := by decide +kernel
theorem dM_readBehind_33 : decode mM_readBehind.2.1 33 = .ok (.ifCond .ne (42), 3) := by decide +kernel
theorem dM_readBehind_36 : decode mM_readBehind.2.1 36 = .ok (.aload_n 0, 1) := by decide +kernel
theorem dM_readBehind_37 : decode mM_readBehind.2.1 37 = .ok (.iload_n 1, 1) := by decide +kernel
theorem dM_readBehind_38 : decode mM_readBehind.2.1 38 = .ok (.bipush (45), 2) := by decide +kernel
theorem dM_readBehind_40 : decode mM_readBehind.2.1 40 = .ok (.invokevirtual 153, 3) := by decide +kernel
theorem dM_readBehind_43 : decode mM_readBehind.2.1 43 = .ok (.ifCond .ne (32), 3) := by decide +kernel
theorem dM_readBehind_46 : decode mM_readBehind.2.1 46 = .ok (.aload_n 0, 1) := by decide +kernel
theorem dM_readBehind_47 : decode mM_readBehind.2.1 47 = .ok (.iload_n 1, 1) := by decide +kernel
theorem dM_readBehind_48 : decode mM_readBehind.2.1 48 = .ok (.bipush (42), 2) := by decide +kernel
theorem dM_readBehind_50 : decode mM_readBehind.2.1 50 = .ok (.invokevirtual 153, 3) := by decide +kernel
theorem dM_readBehind_53 : decode mM_readBehind.2.1 53 = .ok (.ifCond .ne (22), 3) := by decide +kernel
theorem dM_readBehind_56 : decode mM_readBehind.2.1 56 = .ok (.aload_n 0, 1) := by decide +kernel
theorem dM_readBehind_57 : decode mM_readBehind.2.1 57 = .ok (.iload_n 1, 1) := by decide +kernel
theorem dM_readBehind_58 : decode mM_readBehind.2.1 58 = .ok (.bipush (44), 2) := by decide +kernel
theorem dM_readBehind_60 : decode mM_readBehind.2.1 60 = .ok (.invokevirtual 153, 3) := by decide +kernel
theorem dM_readBehind_63 : decode mM_readBehind.2.1 63 = .ok (.ifCond .eq (19), 3) := by decide +kernel
theorem dM_readBehind_66 : decode mM_readBehind.2.1 66 = .ok (.iload_n 3, 1) := by decide +kernel
theorem dM_readBehind_67 : decode mM_readBehind.2.1 67 = .ok (.ifCond .eq (15), 3) := by decide +kernel
theorem dM_readBehind_70 : decode mM_readBehind.2.1 70 = .ok (.iload_n 2, 1) := by decide +kernel
theorem dM_readBehind_71 : decode mM_readBehind.2.1 71 = .ok (.iconst 2, 1) := by decide +kernel
theorem dM_readBehind_72 : decode mM_readBehind.2.1 72 = .ok (.if_icmp .eq (10), 3) := by decide +kernel
theorem dM_readBehind_75 : decode mM_readBehind.2.1 75 = .ok (.aload_n 0, 1) := by decide +kernel
theorem dM_readBehind_76 : decode mM_readBehind.2.1 76 = .ok (.iconst 2, 1) := by decide +kernel
theorem dM_readBehind_77 : decode mM_readBehind.2.1 77 = .ok (.putfield 134, 3) := by decide +kernel
theorem dM_readBehind_80 : decode mM_readBehind.2.1 80 = .ok (.iconst 1, 1) := by decide +kernel
theorem dM_readBehind_81 : decode mM_readBehind.2.1 81 = .ok (.ireturn, 1) := by decide +kernel
theorem dM_readBehind_82 : decode mM_readBehind.2.1 82 = .ok (.aload_n 0, 1) := by decide +kernel
theorem dM_readBehind_83 : decode mM_readBehind.2.1 83 = .ok (.iload_n 1, 1) := by decide +kernel
theorem dM_readBehind_84 : decode mM_readBehind.2.1 84 = .ok (.bipush (41), 2) := by decide +kernel
theorem dM_readBehind_86 : decode mM_readBehind.2.1 86 = .ok (.invokevirtual 153, 3) := by decide +kernel
theorem dM_readBehind_89 : decode mM_readBehind.2.1 89 = .ok (.ifCond .eq (12), 3) := by decide +kernel
theorem dM_readBehind_92 : decode mM_readBehind.2.1 92 = .ok (.iload_n 3, 1) := by decide +kernel
theorem dM_readBehind_93 : decode mM_readBehind.2.1 93 = .ok (.ifCond .eq (8), 3) := by decide +kernel
theorem dM_readBehind_96 : decode mM_readBehind.2.1 96 = .ok (.aload_n 0, 1) := by decide +kernel
theorem dM_readBehind_97 : decode mM_readBehind.2.1 97 = .ok (.invokevirtual 168, 3) := by decide +kernel
theorem dM_readBehind_100 : decode mM_readBehind.2.1 100 = .ok (.ireturn, 1) := by decide +kernel
theorem dM_readBehind_101 : decode mM_readBehind.2.1 101 = .ok (.aload_n 0, 1) := by decide +kernel
theorem dM_readBehind_102 : decode mM_readBehind.2.1 102 = .ok (.iload_n 1, 1) := by decide +kernel
theorem dM_readBehind_103 : decode mM_readBehind.2.1 103 = .ok (.bipush (59), 2) := by decide +kernel
theorem dM_readBehind_105 : decode mM_readBehind.2.1 105 = .ok (.invokevirtual 153, 3) := by decide +kernel
theorem dM_readBehind_108 : decode mM_readBehind.2.1 108 = .ok (.ifCond .eq (18), 3) := by decide +kernel
theorem dM_readBehind_111 : decode mM_readBehind.2.1 111 = .ok (.iload_n 3, 1) := by decide +kernel
theorem dM_readBehind_112 : decode mM_readBehind.2.1 112 = .ok (.ifCond .ne (14), 3) := by decide +kernel
theorem dM_readBehind_115 : decode mM_readBehind.2.1 115 = .ok (.aload_n 0, 1) := by decide +kernel
theorem dM_readBehind_116 : decode mM_readBehind.2.1 116 = .ok (.aload_n 0, 1) := by decide +kernel
theorem dM_readBehind_117 : decode mM_readBehind.2.1 117 = .ok (.getfield 143, 3) := by decide +kernel
theorem dM_readBehind_120 : decode mM_readBehind.2.1 120 = .ok (.iload_n 1, 1) := by decide +kernel
theorem dM_readBehind_121 : decode mM_readBehind.2.1 121 = .ok (.invokevirtual 161, 3) := by decide +kernel
theorem dM_readBehind_124 : decode mM_readBehind.2.1 124 = .ok (.iconst 1, 1) := by decide +kernel
theorem dM_readBehind_125 : decode mM_readBehind.2.1 125 = .ok (.ireturn, 1) := by decide +kernel
theorem dM_readBehind_126 : decode mM_readBehind.2.1 126 = .ok (.iconst 0, 1) := by decide +kernel
theorem dM_readBehind_127 : decode mM_readBehind.2.1 127 = .ok (.ireturn, 1) := by decide +kernel
theorem dM_readToken_0 : decode mM_readToken.2.1 0 = .ok (.aload_n 0, 1) := by decide +kernel
theorem dM_readToken_1 : decode mM_readToken.2.1 1 = .ok (.getfield 134, 3) := by decide +kernel
theorem dM_readToken_4 : decode mM_readToken.2.1 4 = .ok (.iconst 4, 1) := by decide +kernel
theorem dM_readToken_5 : decode mM_readToken.2.1 5 = .ok (.if_icmp .ne (24), 3) := by decide +kernel
theorem dM_readToken_8 : decode mM_readToken.2.1 8 = .ok (.aload_n 0, 1) := by decide +kernel
theorem dM_readToken_9 : decode mM_readToken.2.1 9 = .ok (.iload_n 1, 1) := by decide +kernel
theorem dM_readToken_10 : decode mM_readToken.2.1 10 = .ok (.bipush (40), 2) := by decide +kernel
theorem dM_readToken_12 : decode mM_readToken.2.1 12 = .ok (.invokevirtual 153, 3) := by decide +kernel
theorem dM_readToken_15 : decode mM_readToken.2.1 15 = .ok (.ifCond .eq (14), 3) := by decide +kernel
theorem dM_readToken_18 : decode mM_readToken.2.1 18 = .ok (.aload_n 0, 1) := by decide +kernel
theorem dM_readToken_19 : decode mM_readToken.2.1 19 = .ok (.iconst 3, 1) := by decide +kernel
theorem dM_readToken_20 : decode mM_readToken.2.1 20 = .ok (.putfield 134, 3) := by decide +kernel
theorem dM_readToken_23 : decode mM_readToken.2.1 23 = .ok (.aload_n 0, 1) := by decide +kernel
theorem dM_readToken_24 : decode mM_readToken.2.1 24 = .ok (.iconst 3, 1) := by decide +kernel
theorem dM_readToken_25 : decode mM_readToken.2.1 25 = .ok (.invokevirtual 157, 3) := by decide +kernel
theorem dM_readToken_28 : decode mM_readToken.2.1 28 = .ok (.ireturn, 1) := by decide +kernel
theorem dM_readToken_29 : decode mM_readToken.2.1 29 = .ok (.aload_n 0, 1) := by decide +kernel
theorem dM_readToken_30 : decode mM_readToken.2.1 30 = .ok (.getfield 134, 3) := by decide +kernel
theorem dM_readToken_33 : decode mM_readToken.2.1 33 = .ok (.iconst 4, 1) := by decide +kernel
theorem dM_readToken_34 : decode mM_readToken.2.1 34 = .ok (.if_icmp .ne (7), 3) := by decide +kernel
theorem dM_readToken_37 : decode mM_readToken.2.1 37 = .ok (.aload_n 0, 1) := by decide +kernel
theorem dM_readToken_38 : decode mM_readToken.2.1 38 = .ok (.invokevirtual 165, 3) := by decide +kernel
theorem dM_readToken_41 : decode mM_readToken.2.1 41 = .ok (.aload_n 0, 1) := by decide +kernel
theorem dM_readToken_42 : decode mM_readToken.2.1 42 = .ok (.getfield 134, 3) := by decide +kernel
theorem dM_readToken_45 : decode mM_readToken.2.1 45 = .ok (.tableswitch (86) (0) (5) #[39, 45, 51, 57, 86, 80], 39) := by decide +kernel
theorem dM_readToken_84 : decode mM_readToken.2.1 84 = .ok (.aload_n 0, 1) := by decide +kernel
theorem dM_readToken_85 : decode mM_readToken.2.1 85 = .ok (.iload_n 1, 1) := by decide +kernel
theorem dM_readToken_86 : decode mM_readToken.2.1 86 = .ok (.invokevirtual 172, 3) := by decide +kernel
theorem dM_readToken_89 : decode mM_readToken.2.1 89 = .ok (.ireturn, 1) := by decide +kernel
theorem dM_readToken_90 : decode mM_readToken.2.1 90 = .ok (.aload_n 0, 1) := by decide +kernel
theorem dM_readToken_91 : decode mM_readToken.2.1 91 = .ok (.iload_n 1, 1) := by decide +kernel
theorem dM_readToken_92 : decode mM_readToken.2.1 92 = .ok (.invokevirtual 175, 3) := by decide +kernel
theorem dM_readToken_95 : decode mM_readToken.2.1 95 = .ok (.ireturn, 1) := by decide +kernel
theorem dM_readToken_96 : decode mM_readToken.2.1 96 = .ok (.aload_n 0, 1) := by decide +kernel
theorem dM_readToken_97 : decode mM_readToken.2.1 97 = .ok (.iload_n 1, 1) := by decide +kernel
theorem dM_readToken_98 : decode mM_readToken.2.1 98 = .ok (.invokevirtual 178, 3) := by decide +kernel
theorem dM_readToken_101 : decode mM_readToken.2.1 101 = .ok (.ireturn, 1) := by decide +kernel
theorem dM_readToken_102 : decode mM_readToken.2.1 102 = .ok (.aload_n 0, 1) := by decide +kernel
theorem dM_readToken_103 : decode mM_readToken.2.1 103 = .ok (.iload_n 1, 1) := by decide +kernel
theorem dM_readToken_104 : decode mM_readToken.2.1 104 = .ok (.bipush (41), 2) := by decide +kernel
theorem dM_readToken_106 : decode mM_readToken.2.1 106 = .ok (.invokevirtual 153, 3) := by decide +kernel
theorem dM_readToken_109 : decode mM_readToken.2.1 109 = .ok (.ifCond .eq (10), 3) := by decide +kernel
theorem dM_readToken_112 : decode mM_readToken.2.1 112 = .ok (.aload_n 0, 1) := by decide +kernel
end
section
theorem dM_readToken_113 : decode mM_readToken.2.1 113 = .ok (.invokevirtual 168, 3) := by decide +kernel
theorem dM_readToken_116 : decode mM_readToken.2.1 116 = .ok (.goto (8), 3) := by decide +kernel
theorem dM_readToken_119 : decode mM_readToken.2.1 119 = .ok (.aload_n 0, 1) := by decide +kernel
theorem dM_readToken_120 : decode mM_readToken.2.1 120 = .ok (.iload_n 1, 1) := by decide +kernel
theorem dM_readToken_121 : decode mM_readToken.2.1 121 = .ok (.invokevirtual 178, 3) := by decide +kernel
theorem dM_readToken_124 : decode mM_readToken.2.1 124 = .ok (.ireturn, 1) := by decide +kernel
theorem dM_readToken_125 : decode mM_readToken.2.1 125 = .ok (.aload_n 0, 1) := by decide +kernel
theorem dM_readToken_126 : decode mM_readToken.2.1 126 = .ok (.iload_n 1, 1) := by decide +kernel
theorem dM_readToken_127 : decode mM_readToken.2.1 127 = .ok (.invokevirtual 181, 3) := by decide +kernel
theorem dM_readToken_130 : decode mM_readToken.2.1 130 = .ok (.ireturn, 1) := by decide +kernel
theorem dM_readToken_131 : decode mM_readToken.2.1 131 = .ok (.aload_n 0, 1) := by decide +kernel
theorem dM_readToken_132 : decode mM_readToken.2.1 132 = .ok (.iload_n 1, 1) := by decide +kernel
theorem dM_readToken_133 : decode mM_readToken.2.1 133 = .ok (.bipush (59), 2) := by decide +kernel
theorem dM_readToken_135 : decode mM_readToken.2.1 135 = .ok (.invokevirtual 153, 3) := by decide +kernel
theorem dM_readToken_138 : decode mM_readToken.2.1 138 = .ok (.ifCond .eq (14), 3) := by decide +kernel
theorem dM_readToken_141 : decode mM_readToken.2.1 141 = .ok (.aload_n 0, 1) := by decide +kernel
theorem dM_readToken_142 : decode mM_readToken.2.1 142 = .ok (.aload_n 0, 1) := by decide +kernel
theorem dM_readToken_143 : decode mM_readToken.2.1 143 = .ok (.getfield 143, 3) := by decide +kernel
theorem dM_readToken_146 : decode mM_readToken.2.1 146 = .ok (.iload_n 1, 1) := by decide +kernel
theorem dM_readToken_147 : decode mM_readToken.2.1 147 = .ok (.invokevirtual 161, 3) := by decide +kernel
theorem dM_readToken_150 : decode mM_readToken.2.1 150 = .ok (.iconst 1, 1) := by decide +kernel
theorem dM_readToken_151 : decode mM_readToken.2.1 151 = .ok (.ireturn, 1) := by decide +kernel
theorem dM_readToken_152 : decode mM_readToken.2.1 152 = .ok (.iconst 0, 1) := by decide +kernel
theorem dM_readToken_153 : decode mM_readToken.2.1 153 = .ok (.ireturn, 1) := by decide +kernel
theorem dM_read_0 : decode mM_read.2.1 0 = .ok (.aload_n 0, 1) := by decide +kernel
theorem dM_read_1 : decode mM_read.2.1 1 = .ok (.iconst 0, 1) := by decide +kernel
theorem dM_read_2 : decode mM_read.2.1 2 = .ok (.putfield 127, 3) := by decide +kernel
theorem dM_read_5 : decode mM_read.2.1 5 = .ok (.aload_n 0, 1) := by decide +kernel
theorem dM_read_6 : decode mM_read.2.1 6 = .ok (.iconst 0, 1) := by decide +kernel
theorem dM_read_7 : decode mM_read.2.1 7 = .ok (.putfield 140, 3) := by decide +kernel
theorem dM_read_10 : decode mM_read.2.1 10 = .ok (.aload_n 0, 1) := by decide +kernel
theorem dM_read_11 : decode mM_read.2.1 11 = .ok (.iconst 0, 1) := by decide +kernel
theorem dM_read_12 : decode mM_read.2.1 12 = .ok (.putfield 137, 3) := by decide +kernel
theorem dM_read_15 : decode mM_read.2.1 15 = .ok (.aload_n 0, 1) := by decide +kernel
theorem dM_read_16 : decode mM_read.2.1 16 = .ok (.iconst 0, 1) := by decide +kernel
theorem dM_read_17 : decode mM_read.2.1 17 = .ok (.putfield 146, 3) := by decide +kernel
theorem dM_read_20 : decode mM_read.2.1 20 = .ok (.aload_n 0, 1) := by decide +kernel
theorem dM_read_21 : decode mM_read.2.1 21 = .ok (.iconst 0, 1) := by decide +kernel
theorem dM_read_22 : decode mM_read.2.1 22 = .ok (.putfield 134, 3) := by decide +kernel
theorem dM_read_25 : decode mM_read.2.1 25 = .ok (.iconst 0, 1) := by decide +kernel
theorem dM_read_26 : decode mM_read.2.1 26 = .ok (.istore_n 1, 1) := by decide +kernel
theorem dM_read_27 : decode mM_read.2.1 27 = .ok (.iload_n 1, 1) := by decide +kernel
theorem dM_read_28 : decode mM_read.2.1 28 = .ok (.aload_n 0, 1) := by decide +kernel
theorem dM_read_29 : decode mM_read.2.1 29 = .ok (.getfield 106, 3) := by decide +kernel
theorem dM_read_32 : decode mM_read.2.1 32 = .ok (.if_icmp .ge (17), 3) := by decide +kernel
theorem dM_read_35 : decode mM_read.2.1 35 = .ok (.aload_n 0, 1) := by decide +kernel
theorem dM_read_36 : decode mM_read.2.1 36 = .ok (.iload_n 1, 1) := by decide +kernel
theorem dM_read_37 : decode mM_read.2.1 37 = .ok (.invokevirtual 184, 3) := by decide +kernel
theorem dM_read_40 : decode mM_read.2.1 40 = .ok (.ifCond .eq (9), 3) := by decide +kernel
theorem dM_read_43 : decode mM_read.2.1 43 = .ok (.iinc 1 (1), 3) := by decide +kernel
theorem dM_read_46 : decode mM_read.2.1 46 = .ok (.goto (-19), 3) := by decide +kernel
theorem dM_read_49 : decode mM_read.2.1 49 = .ok (.iload_n 1, 1) := by decide +kernel
theorem dM_read_50 : decode mM_read.2.1 50 = .ok (.aload_n 0, 1) := by decide +kernel
theorem dM_read_51 : decode mM_read.2.1 51 = .ok (.getfield 106, 3) := by decide +kernel
theorem dM_read_54 : decode mM_read.2.1 54 = .ok (.if_icmp .ne (21), 3) := by decide +kernel
theorem dM_read_57 : decode mM_read.2.1 57 = .ok (.aload_n 0, 1) := by decide +kernel
theorem dM_read_58 : decode mM_read.2.1 58 = .ok (.getfield 134, 3) := by decide +kernel
theorem dM_read_61 : decode mM_read.2.1 61 = .ok (.ifCond .ne (14), 3) := by decide +kernel
theorem dM_read_64 : decode mM_read.2.1 64 = .ok (.aload_n 0, 1) := by decide +kernel
theorem dM_read_65 : decode mM_read.2.1 65 = .ok (.getfield 127, 3) := by decide +kernel
theorem dM_read_68 : decode mM_read.2.1 68 = .ok (.ifCond .ne (7), 3) := by decide +kernel
theorem dM_read_71 : decode mM_read.2.1 71 = .ok (.iconst 1, 1) := by decide +kernel
theorem dM_read_72 : decode mM_read.2.1 72 = .ok (.goto (4), 3) := by decide +kernel
theorem dM_read_75 : decode mM_read.2.1 75 = .ok (.iconst 0, 1) := by decide +kernel
theorem dM_read_76 : decode mM_read.2.1 76 = .ok (.istore_n 2, 1) := by decide +kernel
theorem dM_read_77 : decode mM_read.2.1 77 = .ok (.aload_n 0, 1) := by decide +kernel
theorem dM_read_78 : decode mM_read.2.1 78 = .ok (.iload_n 2, 1) := by decide +kernel
theorem dM_read_79 : decode mM_read.2.1 79 = .ok (.ifCond .eq (7), 3) := by decide +kernel
theorem dM_read_82 : decode mM_read.2.1 82 = .ok (.iconst (-1), 1) := by decide +kernel
theorem dM_read_83 : decode mM_read.2.1 83 = .ok (.goto (24), 3) := by decide +kernel
theorem dM_read_86 : decode mM_read.2.1 86 = .ok (.iload_n 1, 1) := by decide +kernel
theorem dM_read_87 : decode mM_read.2.1 87 = .ok (.aload_n 0, 1) := by decide +kernel
theorem dM_read_88 : decode mM_read.2.1 88 = .ok (.getfield 106, 3) := by decide +kernel
theorem dM_read_91 : decode mM_read.2.1 91 = .ok (.if_icmp .ge (12), 3) := by decide +kernel
theorem dM_read_94 : decode mM_read.2.1 94 = .ok (.aload_n 0, 1) := by decide +kernel
theorem dM_read_95 : decode mM_read.2.1 95 = .ok (.getfield 16, 3) := by decide +kernel
theorem dM_read_98 : decode mM_read.2.1 98 = .ok (.iload_n 1, 1) := by decide +kernel
theorem dM_read_99 : decode mM_read.2.1 99 = .ok (.iaload, 1) := by decide +kernel
theorem dM_read_100 : decode mM_read.2.1 100 = .ok (.goto (7), 3) := by decide +kernel
theorem dM_read_103 : decode mM_read.2.1 103 = .ok (.aload_n 0, 1) := by decide +kernel
theorem dM_read_104 : decode mM_read.2.1 104 = .ok (.getfield 103, 3) := by decide +kernel
theorem dM_read_107 : decode mM_read.2.1 107 = .ok (.putfield 69, 3) := by decide +kernel
theorem dM_read_110 : decode mM_read.2.1 110 = .ok (.return_, 1) := by decide +kernel
theorem dM_numberValue_0 : decode mM_numberValue.2.1 0 = .ok (.iconst 0, 1) := by decide +kernel
theorem dM_numberValue_1 : decode mM_numberValue.2.1 1 = .ok (.istore_n 2, 1) := by decide +kernel
theorem dM_numberValue_2 : decode mM_numberValue.2.1 2 = .ok (.iconst 0, 1) := by decide +kernel
theorem dM_numberValue_3 : decode mM_numberValue.2.1 3 = .ok (.istore_n 3, 1) := by decide +kernel
theorem dM_numberValue_4 : decode mM_numberValue.2.1 4 = .ok (.iload_n 3, 1) := by decide +kernel
theorem dM_numberValue_5 : decode mM_numberValue.2.1 5 = .ok (.aload_n 0, 1) := by decide +kernel
theorem dM_numberValue_6 : decode mM_numberValue.2.1 6 = .ok (.getfield 20, 3) := by decide +kernel
theorem dM_numberValue_9 : decode mM_numberValue.2.1 9 = .ok (.iload_n 1, 1) := by decide +kernel
theorem dM_numberValue_10 : decode mM_numberValue.2.1 10 = .ok (.iaload, 1) := by decide +kernel
theorem dM_numberValue_11 : decode mM_numberValue.2.1 11 = .ok (.if_icmp .ge (31), 3) := by decide +kernel
theorem dM_numberValue_14 : decode mM_numberValue.2.1 14 = .ok (.bipush (10), 2) := by decide +kernel
theorem dM_numberValue_16 : decode mM_numberValue.2.1 16 = .ok (.iload_n 2, 1) := by decide +kernel
theorem dM_numberValue_17 : decode mM_numberValue.2.1 17 = .ok (.imul, 1) := by decide +kernel
theorem dM_numberValue_18 : decode mM_numberValue.2.1 18 = .ok (.aload_n 0, 1) := by decide +kernel
theorem dM_numberValue_19 : decode mM_numberValue.2.1 19 = .ok (.getfield 7, 3) := by decide +kernel
theorem dM_numberValue_22 : decode mM_numberValue.2.1 22 = .ok (.aload_n 0, 1) := by decide +kernel
theorem dM_numberValue_23 : decode mM_numberValue.2.1 23 = .ok (.getfield 16, 3) := by decide +kernel
theorem dM_numberValue_26 : decode mM_numberValue.2.1 26 = .ok (.iload_n 1, 1) := by decide +kernel
theorem dM_numberValue_27 : decode mM_numberValue.2.1 27 = .ok (.iaload, 1) := by decide +kernel
theorem dM_numberValue_28 : decode mM_numberValue.2.1 28 = .ok (.iload_n 3, 1) := by decide +kernel
theorem dM_numberValue_29 : decode mM_numberValue.2.1 29 = .ok (.iadd, 1) := by decide +kernel
theorem dM_numberValue_30 : decode mM_numberValue.2.1 30 = .ok (.caload, 1) := by decide +kernel
theorem dM_numberValue_31 : decode mM_numberValue.2.1 31 = .ok (.bipush (48), 2) := by decide +kernel
theorem dM_numberValue_33 : decode mM_numberValue.2.1 33 = .ok (.isub, 1) := by decide +kernel
theorem dM_numberValue_34 : decode mM_numberValue.2.1 34 = .ok (.iadd, 1) := by decide +kernel
theorem dM_numberValue_35 : decode mM_numberValue.2.1 35 = .ok (.istore_n 2, 1) := by decide +kernel
theorem dM_numberValue_36 : decode mM_numberValue.2.1 36 = .ok (.iinc 3 (1), 3) := by decide +kernel
theorem dM_numberValue_39 : decode mM_numberValue.2.1 39 = .ok (.goto (-35), 3) := by decide +kernel
theorem dM_numberValue_42 : decode mM_numberValue.2.1 42 = .ok (.iload_n 2, 1) := by decide +kernel
theorem dM_numberValue_43 : decode mM_numberValue.2.1 43 = .ok (.ireturn, 1) := by decide +kernel
theorem dM_sameLetters_0 : decode mM_sameLetters.2.1 0 = .ok (.aload_n 0, 1) := by decide +kernel
theorem dM_sameLetters_1 : decode mM_sameLetters.2.1 1 = .ok (.getfield 20, 3) := by decide +kernel
theorem dM_sameLetters_4 : decode mM_sameLetters.2.1 4 = .ok (.iload_n 1, 1) := by decide +kernel
theorem dM_sameLetters_5 : decode mM_sameLetters.2.1 5 = .ok (.iaload, 1) := by decide +kernel
theorem dM_sameLetters_6 : decode mM_sameLetters.2.1 6 = .ok (.aload_n 0, 1) := by decide +kernel
theorem dM_sameLetters_7 : decode mM_sameLetters.2.1 7 = .ok (.getfield 20, 3) := by decide +kernel
theorem dM_sameLetters_10 : decode mM_sameLetters.2.1 10 = .ok (.iload_n 2, 1) := by decide +kernel
theorem dM_sameLetters_11 : decode mM_sameLetters.2.1 11 = .ok (.iaload, 1) := by decide +kernel
theorem dM_sameLetters_12 : decode mM_sameLetters.2.1 12 = .ok (.if_icmp .ne (7), 3) := by decide +kernel
theorem dM_sameLetters_15 : decode mM_sameLetters.2.1 15 = .ok (.iconst 1, 1) := by decide +kernel
theorem dM_sameLetters_16 : decode mM_sameLetters.2.1 16 = .ok (.goto (4), 3) := by decide +kernel
theorem dM_sameLetters_19 : decode mM_sameLetters.2.1 19 = .ok (.iconst 0, 1) := by decide +kernel
theorem dM_sameLetters_20 : decode mM_sameLetters.2.1 20 = .ok (.istore_n 3, 1) := by decide +kernel
theorem dM_sameLetters_21 : decode mM_sameLetters.2.1 21 = .ok (.iconst 0, 1) := by decide +kernel
theorem dM_sameLetters_22 : decode mM_sameLetters.2.1 22 = .ok (.istore 4, 2) := by decide +kernel
theorem dM_sameLetters_24 : decode mM_sameLetters.2.1 24 = .ok (.iload 4, 2) := by decide +kernel
theorem dM_sameLetters_26 : decode mM_sameLetters.2.1 26 = .ok (.aload_n 0, 1) := by decide +kernel
theorem dM_sameLetters_27 : decode mM_sameLetters.2.1 27 = .ok (.getfield 20, 3) := by decide +kernel
theorem dM_sameLetters_30 : decode mM_sameLetters.2.1 30 = .ok (.iload_n 2, 1) := by decide +kernel
theorem dM_sameLetters_31 : decode mM_sameLetters.2.1 31 = .ok (.iaload, 1) := by decide +kernel
theorem dM_sameLetters_32 : decode mM_sameLetters.2.1 32 = .ok (.if_icmp .ge (50), 3) := by decide +kernel
theorem dM_sameLetters_35 : decode mM_sameLetters.2.1 35 = .ok (.iload_n 3, 1) := by decide +kernel
theorem dM_sameLetters_36 : decode mM_sameLetters.2.1 36 = .ok (.ifCond .eq (46), 3) := by decide +kernel
theorem dM_sameLetters_39 : decode mM_sameLetters.2.1 39 = .ok (.aload_n 0, 1) := by decide +kernel
theorem dM_sameLetters_40 : decode mM_sameLetters.2.1 40 = .ok (.getfield 7, 3) := by decide +kernel
theorem dM_sameLetters_43 : decode mM_sameLetters.2.1 43 = .ok (.aload_n 0, 1) := by decide +kernel
theorem dM_sameLetters_44 : decode mM_sameLetters.2.1 44 = .ok (.getfield 16, 3) := by decide +kernel
theorem dM_sameLetters_47 : decode mM_sameLetters.2.1 47 = .ok (.iload_n 1, 1) := by decide +kernel
theorem dM_sameLetters_48 : decode mM_sameLetters.2.1 48 = .ok (.iaload, 1) := by decide +kernel
theorem dM_sameLetters_49 : decode mM_sameLetters.2.1 49 = .ok (.iload 4, 2) := by decide +kernel
theorem dM_sameLetters_51 : decode mM_sameLetters.2.1 51 = .ok (.iadd, 1) := by decide +kernel
theorem dM_sameLetters_52 : decode mM_sameLetters.2.1 52 = .ok (.caload, 1) := by decide +kernel
theorem dM_sameLetters_53 : decode mM_sameLetters.2.1 53 = .ok (.aload_n 0, 1) := by decide +kernel
theorem dM_sameLetters_54 : decode mM_sameLetters.2.1 54 = .ok (.getfield 7, 3) := by decide +kernel
theorem dM_sameLetters_57 : decode mM_sameLetters.2.1 57 = .ok (.aload_n 0, 1) := by decide +kernel
theorem dM_sameLetters_58 : decode mM_sameLetters.2.1 58 = .ok (.getfield 16, 3) := by decide +kernel
theorem dM_sameLetters_61 : decode mM_sameLetters.2.1 61 = .ok (.iload_n 2, 1) := by decide +kernel
theorem dM_sameLetters_62 : decode mM_sameLetters.2.1 62 = .ok (.iaload, 1) := by decide +kernel
theorem dM_sameLetters_63 : decode mM_sameLetters.2.1 63 = .ok (.iload 4, 2) := by decide +kernel
theorem dM_sameLetters_65 : decode mM_sameLetters.2.1 65 = .ok (.iadd, 1) := by decide +kernel
theorem dM_sameLetters_66 : decode mM_sameLetters.2.1 66 = .ok (.caload, 1) := by decide +kernel
theorem dM_sameLetters_67 : decode mM_sameLetters.2.1 67 = .ok (.if_icmp .ne (7), 3) := by decide +kernel
theorem dM_sameLetters_70 : decode mM_sameLetters.2.1 70 = .ok (.iconst 1, 1) := by decide +kernel
theorem dM_sameLetters_71 : decode mM_sameLetters.2.1 71 = .ok (.goto (4), 3) := by decide +kernel
theorem dM_sameLetters_74 : decode mM_sameLetters.2.1 74 = .ok (.iconst 0, 1) := by decide +kernel
theorem dM_sameLetters_75 : decode mM_sameLetters.2.1 75 = .ok (.istore_n 3, 1) := by decide +kernel
theorem dM_sameLetters_76 : decode mM_sameLetters.2.1 76 = .ok (.iinc 4 (1), 3) := by decide +kernel
theorem dM_sameLetters_79 : decode mM_sameLetters.2.1 79 = .ok (.goto (-55), 3) := by decide +kernel
theorem dM_sameLetters_82 : decode mM_sameLetters.2.1 82 = .ok (.iload_n 3, 1) := by decide +kernel
theorem dM_sameLetters_83 : decode mM_sameLetters.2.1 83 = .ok (.ireturn, 1) := by decide +kernel
theorem dM_named_0 : decode mM_named.2.1 0 = .ok (.iconst 0, 1) := by decide +kernel
theorem dM_named_1 : decode mM_named.2.1 1 = .ok (.istore_n 3, 1) := by decide +kernel
theorem dM_named_2 : decode mM_named.2.1 2 = .ok (.iconst 0, 1) := by decide +kernel
theorem dM_named_3 : decode mM_named.2.1 3 = .ok (.istore 4, 2) := by decide +kernel
theorem dM_named_5 : decode mM_named.2.1 5 = .ok (.iload 4, 2) := by decide +kernel
theorem dM_named_7 : decode mM_named.2.1 7 = .ok (.iload_n 1, 1) := by decide +kernel
theorem dM_named_8 : decode mM_named.2.1 8 = .ok (.if_icmp .ge (46), 3) := by decide +kernel
theorem dM_named_11 : decode mM_named.2.1 11 = .ok (.aload_n 0, 1) := by decide +kernel
theorem dM_named_12 : decode mM_named.2.1 12 = .ok (.getfield 51, 3) := by decide +kernel
theorem dM_named_15 : decode mM_named.2.1 15 = .ok (.iload 4, 2) := by decide +kernel
theorem dM_named_17 : decode mM_named.2.1 17 = .ok (.baload, 1) := by decide +kernel
theorem dM_named_18 : decode mM_named.2.1 18 = .ok (.ifCond .eq (28), 3) := by decide +kernel
theorem dM_named_21 : decode mM_named.2.1 21 = .ok (.aload_n 0, 1) := by decide +kernel
theorem dM_named_22 : decode mM_named.2.1 22 = .ok (.aload_n 0, 1) := by decide +kernel
theorem dM_named_23 : decode mM_named.2.1 23 = .ok (.getfield 38, 3) := by decide +kernel
theorem dM_named_26 : decode mM_named.2.1 26 = .ok (.iload 4, 2) := by decide +kernel
theorem dM_named_28 : decode mM_named.2.1 28 = .ok (.iaload, 1) := by decide +kernel
theorem dM_named_29 : decode mM_named.2.1 29 = .ok (.iload_n 2, 1) := by decide +kernel
theorem dM_named_30 : decode mM_named.2.1 30 = .ok (.invokevirtual 187, 3) := by decide +kernel
theorem dM_named_33 : decode mM_named.2.1 33 = .ok (.ifCond .eq (13), 3) := by decide +kernel
theorem dM_named_36 : decode mM_named.2.1 36 = .ok (.aload_n 0, 1) := by decide +kernel
theorem dM_named_37 : decode mM_named.2.1 37 = .ok (.getfield 57, 3) := by decide +kernel
theorem dM_named_40 : decode mM_named.2.1 40 = .ok (.iload 4, 2) := by decide +kernel
theorem dM_named_42 : decode mM_named.2.1 42 = .ok (.iaload, 1) := by decide +kernel
theorem dM_named_43 : decode mM_named.2.1 43 = .ok (.goto (4), 3) := by decide +kernel
theorem dM_named_46 : decode mM_named.2.1 46 = .ok (.iload_n 3, 1) := by decide +kernel
theorem dM_named_47 : decode mM_named.2.1 47 = .ok (.istore_n 3, 1) := by decide +kernel
theorem dM_named_48 : decode mM_named.2.1 48 = .ok (.iinc 4 (1), 3) := by decide +kernel
theorem dM_named_51 : decode mM_named.2.1 51 = .ok (.goto (-46), 3) := by decide +kernel
theorem dM_named_54 : decode mM_named.2.1 54 = .ok (.iload_n 3, 1) := by decide +kernel
theorem dM_named_55 : decode mM_named.2.1 55 = .ok (.ireturn, 1) := by decide +kernel
theorem dM_enter_0 : decode mM_enter.2.1 0 = .ok (.aload_n 0, 1) := by decide +kernel
theorem dM_enter_1 : decode mM_enter.2.1 1 = .ok (.dup, 1) := by decide +kernel
theorem dM_enter_2 : decode mM_enter.2.1 2 = .ok (.getfield 191, 3) := by decide +kernel
theorem dM_enter_5 : decode mM_enter.2.1 5 = .ok (.iconst 1, 1) := by decide +kernel
theorem dM_enter_6 : decode mM_enter.2.1 6 = .ok (.iadd, 1) := by decide +kernel
theorem dM_enter_7 : decode mM_enter.2.1 7 = .ok (.putfield 191, 3) := by decide +kernel
theorem dM_enter_10 : decode mM_enter.2.1 10 = .ok (.aload_n 0, 1) := by decide +kernel
theorem dM_enter_11 : decode mM_enter.2.1 11 = .ok (.getfield 79, 3) := by decide +kernel
theorem dM_enter_14 : decode mM_enter.2.1 14 = .ok (.aload_n 0, 1) := by decide +kernel
theorem dM_enter_15 : decode mM_enter.2.1 15 = .ok (.getfield 191, 3) := by decide +kernel
theorem dM_enter_18 : decode mM_enter.2.1 18 = .ok (.iconst 0, 1) := by decide +kernel
theorem dM_enter_19 : decode mM_enter.2.1 19 = .ok (.iastore, 1) := by decide +kernel
theorem dM_enter_20 : decode mM_enter.2.1 20 = .ok (.aload_n 0, 1) := by decide +kernel
theorem dM_enter_21 : decode mM_enter.2.1 21 = .ok (.getfield 82, 3) := by decide +kernel
theorem dM_enter_24 : decode mM_enter.2.1 24 = .ok (.aload_n 0, 1) := by decide +kernel
theorem dM_enter_25 : decode mM_enter.2.1 25 = .ok (.getfield 191, 3) := by decide +kernel
theorem dM_enter_28 : decode mM_enter.2.1 28 = .ok (.iconst 1, 1) := by decide +kernel
theorem dM_enter_29 : decode mM_enter.2.1 29 = .ok (.iastore, 1) := by decide +kernel
theorem dM_enter_30 : decode mM_enter.2.1 30 = .ok (.aload_n 0, 1) := by decide +kernel
theorem dM_enter_31 : decode mM_enter.2.1 31 = .ok (.getfield 85, 3) := by decide +kernel
theorem dM_enter_34 : decode mM_enter.2.1 34 = .ok (.aload_n 0, 1) := by decide +kernel
theorem dM_enter_35 : decode mM_enter.2.1 35 = .ok (.getfield 191, 3) := by decide +kernel
theorem dM_enter_38 : decode mM_enter.2.1 38 = .ok (.iconst 1, 1) := by decide +kernel
theorem dM_enter_39 : decode mM_enter.2.1 39 = .ok (.iastore, 1) := by decide +kernel
theorem dM_enter_40 : decode mM_enter.2.1 40 = .ok (.aload_n 0, 1) := by decide +kernel
theorem dM_enter_41 : decode mM_enter.2.1 41 = .ok (.getfield 88, 3) := by decide +kernel
theorem dM_enter_44 : decode mM_enter.2.1 44 = .ok (.aload_n 0, 1) := by decide +kernel
theorem dM_enter_45 : decode mM_enter.2.1 45 = .ok (.getfield 191, 3) := by decide +kernel
theorem dM_enter_48 : decode mM_enter.2.1 48 = .ok (.iconst 0, 1) := by decide +kernel
theorem dM_enter_49 : decode mM_enter.2.1 49 = .ok (.iastore, 1) := by decide +kernel
theorem dM_enter_50 : decode mM_enter.2.1 50 = .ok (.aload_n 0, 1) := by decide +kernel
theorem dM_enter_51 : decode mM_enter.2.1 51 = .ok (.getfield 94, 3) := by decide +kernel
theorem dM_enter_54 : decode mM_enter.2.1 54 = .ok (.aload_n 0, 1) := by decide +kernel
theorem dM_enter_55 : decode mM_enter.2.1 55 = .ok (.getfield 191, 3) := by decide +kernel
theorem dM_enter_58 : decode mM_enter.2.1 58 = .ok (.iload_n 1, 1) := by decide +kernel
theorem dM_enter_59 : decode mM_enter.2.1 59 = .ok (.bastore, 1) := by decide +kernel
theorem dM_enter_60 : decode mM_enter.2.1 60 = .ok (.aload_n 0, 1) := by decide +kernel
theorem dM_enter_61 : decode mM_enter.2.1 61 = .ok (.getfield 91, 3) := by decide +kernel
theorem dM_enter_64 : decode mM_enter.2.1 64 = .ok (.aload_n 0, 1) := by decide +kernel
theorem dM_enter_65 : decode mM_enter.2.1 65 = .ok (.getfield 191, 3) := by decide +kernel
theorem dM_enter_68 : decode mM_enter.2.1 68 = .ok (.iload_n 2, 1) := by decide +kernel
theorem dM_enter_69 : decode mM_enter.2.1 69 = .ok (.iastore, 1) := by decide +kernel
theorem dM_enter_70 : decode mM_enter.2.1 70 = .ok (.return_, 1) := by decide +kernel
theorem dM_take_0 : decode mM_take.2.1 0 = .ok (.aload_n 0, 1) := by decide +kernel
theorem dM_take_1 : decode mM_take.2.1 1 = .ok (.getfield 85, 3) := by decide +kernel
theorem dM_take_4 : decode mM_take.2.1 4 = .ok (.aload_n 0, 1) := by decide +kernel
theorem dM_take_5 : decode mM_take.2.1 5 = .ok (.getfield 191, 3) := by decide +kernel
theorem dM_take_8 : decode mM_take.2.1 8 = .ok (.aload_n 0, 1) := by decide +kernel
theorem dM_take_9 : decode mM_take.2.1 9 = .ok (.getfield 88, 3) := by decide +kernel
theorem dM_take_12 : decode mM_take.2.1 12 = .ok (.aload_n 0, 1) := by decide +kernel
theorem dM_take_13 : decode mM_take.2.1 13 = .ok (.getfield 191, 3) := by decide +kernel
theorem dM_take_16 : decode mM_take.2.1 16 = .ok (.iaload, 1) := by decide +kernel
theorem dM_take_17 : decode mM_take.2.1 17 = .ok (.iconst 2, 1) := by decide +kernel
theorem dM_take_18 : decode mM_take.2.1 18 = .ok (.irem, 1) := by decide +kernel
theorem dM_take_19 : decode mM_take.2.1 19 = .ok (.iconst 1, 1) := by decide +kernel
theorem dM_take_20 : decode mM_take.2.1 20 = .ok (.if_icmp .ne (18), 3) := by decide +kernel
theorem dM_take_23 : decode mM_take.2.1 23 = .ok (.aload_n 0, 1) := by decide +kernel
theorem dM_take_24 : decode mM_take.2.1 24 = .ok (.getfield 85, 3) := by decide +kernel
theorem dM_take_27 : decode mM_take.2.1 27 = .ok (.aload_n 0, 1) := by decide +kernel
theorem dM_take_28 : decode mM_take.2.1 28 = .ok (.getfield 191, 3) := by decide +kernel
theorem dM_take_31 : decode mM_take.2.1 31 = .ok (.iaload, 1) := by decide +kernel
theorem dM_take_32 : decode mM_take.2.1 32 = .ok (.iload_n 1, 1) := by decide +kernel
theorem dM_take_33 : decode mM_take.2.1 33 = .ok (.imul, 1) := by decide +kernel
theorem dM_take_34 : decode mM_take.2.1 34 = .ok (.ineg, 1) := by decide +kernel
theorem dM_take_35 : decode mM_take.2.1 35 = .ok (.goto (14), 3) := by decide +kernel
theorem dM_take_38 : decode mM_take.2.1 38 = .ok (.aload_n 0, 1) := by decide +kernel
theorem dM_take_39 : decode mM_take.2.1 39 = .ok (.getfield 85, 3) := by decide +kernel
theorem dM_take_42 : decode mM_take.2.1 42 = .ok (.aload_n 0, 1) := by decide +kernel
theorem dM_take_43 : decode mM_take.2.1 43 = .ok (.getfield 191, 3) := by decide +kernel
theorem dM_take_46 : decode mM_take.2.1 46 = .ok (.iaload, 1) := by decide +kernel
theorem dM_take_47 : decode mM_take.2.1 47 = .ok (.iload_n 1, 1) := by decide +kernel
theorem dM_take_48 : decode mM_take.2.1 48 = .ok (.imul, 1) := by decide +kernel
theorem dM_take_49 : decode mM_take.2.1 49 = .ok (.iastore, 1) := by decide +kernel
theorem dM_take_50 : decode mM_take.2.1 50 = .ok (.aload_n 0, 1) := by decide +kernel
theorem dM_take_51 : decode mM_take.2.1 51 = .ok (.getfield 88, 3) := by decide +kernel
theorem dM_take_54 : decode mM_take.2.1 54 = .ok (.aload_n 0, 1) := by decide +kernel
theorem dM_take_55 : decode mM_take.2.1 55 = .ok (.getfield 191, 3) := by decide +kernel
theorem dM_take_58 : decode mM_take.2.1 58 = .ok (.iconst 0, 1) := by decide +kernel
theorem dM_take_59 : decode mM_take.2.1 59 = .ok (.iastore, 1) := by decide +kernel
theorem dM_take_60 : decode mM_take.2.1 60 = .ok (.return_, 1) := by decide +kernel
theorem dM_total_0 : decode mM_total.2.1 0 = .ok (.aload_n 0, 1) := by decide +kernel
theorem dM_total_1 : decode mM_total.2.1 1 = .ok (.getfield 79, 3) := by decide +kernel
theorem dM_total_4 : decode mM_total.2.1 4 = .ok (.aload_n 0, 1) := by decide +kernel
theorem dM_total_5 : decode mM_total.2.1 5 = .ok (.getfield 191, 3) := by decide +kernel
theorem dM_total_8 : decode mM_total.2.1 8 = .ok (.iaload, 1) := by decide +kernel
theorem dM_total_9 : decode mM_total.2.1 9 = .ok (.aload_n 0, 1) := by decide +kernel
theorem dM_total_10 : decode mM_total.2.1 10 = .ok (.getfield 82, 3) := by decide +kernel
theorem dM_total_13 : decode mM_total.2.1 13 = .ok (.aload_n 0, 1) := by decide +kernel
theorem dM_total_14 : decode mM_total.2.1 14 = .ok (.getfield 191, 3) := by decide +kernel
theorem dM_total_17 : decode mM_total.2.1 17 = .ok (.iaload, 1) := by decide +kernel
theorem dM_total_18 : decode mM_total.2.1 18 = .ok (.aload_n 0, 1) := by decide +kernel
theorem dM_total_19 : decode mM_total.2.1 19 = .ok (.getfield 85, 3) := by decide +kernel
theorem dM_total_22 : decode mM_total.2.1 22 = .ok (.aload_n 0, 1) := by decide +kernel
theorem dM_total_23 : decode mM_total.2.1 23 = .ok (.getfield 191, 3) := by decide +kernel
theorem dM_total_26 : decode mM_total.2.1 26 = .ok (.iaload, 1) := by decide +kernel
theorem dM_total_27 : decode mM_total.2.1 27 = .ok (.imul, 1) := by decide +kernel
theorem dM_total_28 : decode mM_total.2.1 28 = .ok (.iadd, 1) := by decide +kernel
theorem dM_total_29 : decode mM_total.2.1 29 = .ok (.ireturn, 1) := by decide +kernel
theorem dM_restart_0 : decode mM_restart.2.1 0 = .ok (.aload_n 0, 1) := by decide +kernel
theorem dM_restart_1 : decode mM_restart.2.1 1 = .ok (.getfield 79, 3) := by decide +kernel
theorem dM_restart_4 : decode mM_restart.2.1 4 = .ok (.aload_n 0, 1) := by decide +kernel
theorem dM_restart_5 : decode mM_restart.2.1 5 = .ok (.getfield 191, 3) := by decide +kernel
theorem dM_restart_8 : decode mM_restart.2.1 8 = .ok (.iload_n 1, 1) := by decide +kernel
theorem dM_restart_9 : decode mM_restart.2.1 9 = .ok (.iastore, 1) := by decide +kernel
theorem dM_restart_10 : decode mM_restart.2.1 10 = .ok (.aload_n 0, 1) := by decide +kernel
theorem dM_restart_11 : decode mM_restart.2.1 11 = .ok (.getfield 82, 3) := by decide +kernel
theorem dM_restart_14 : decode mM_restart.2.1 14 = .ok (.aload_n 0, 1) := by decide +kernel
theorem dM_restart_15 : decode mM_restart.2.1 15 = .ok (.getfield 191, 3) := by decide +kernel
theorem dM_restart_18 : decode mM_restart.2.1 18 = .ok (.iload_n 2, 1) := by decide +kernel
theorem dM_restart_19 : decode mM_restart.2.1 19 = .ok (.iastore, 1) := by decide +kernel
theorem dM_restart_20 : decode mM_restart.2.1 20 = .ok (.aload_n 0, 1) := by decide +kernel
theorem dM_restart_21 : decode mM_restart.2.1 21 = .ok (.getfield 85, 3) := by decide +kernel
theorem dM_restart_24 : decode mM_restart.2.1 24 = .ok (.aload_n 0, 1) := by decide +kernel
theorem dM_restart_25 : decode mM_restart.2.1 25 = .ok (.getfield 191, 3) := by decide +kernel
theorem dM_restart_28 : decode mM_restart.2.1 28 = .ok (.iconst 1, 1) := by decide +kernel
theorem dM_restart_29 : decode mM_restart.2.1 29 = .ok (.iastore, 1) := by decide +kernel
theorem dM_restart_30 : decode mM_restart.2.1 30 = .ok (.return_, 1) := by decide +kernel
theorem dM_leave_0 : decode mM_leave.2.1 0 = .ok (.aload_n 0, 1) := by decide +kernel
theorem dM_leave_1 : decode mM_leave.2.1 1 = .ok (.getfield 94, 3) := by decide +kernel
theorem dM_leave_4 : decode mM_leave.2.1 4 = .ok (.aload_n 0, 1) := by decide +kernel
theorem dM_leave_5 : decode mM_leave.2.1 5 = .ok (.getfield 191, 3) := by decide +kernel
theorem dM_leave_8 : decode mM_leave.2.1 8 = .ok (.baload, 1) := by decide +kernel
theorem dM_leave_9 : decode mM_leave.2.1 9 = .ok (.ifCond .ne (10), 3) := by decide +kernel
theorem dM_leave_12 : decode mM_leave.2.1 12 = .ok (.aload_n 0, 1) := by decide +kernel
theorem dM_leave_13 : decode mM_leave.2.1 13 = .ok (.invokevirtual 194, 3) := by decide +kernel
theorem dM_leave_16 : decode mM_leave.2.1 16 = .ok (.goto (36), 3) := by decide +kernel
theorem dM_leave_19 : decode mM_leave.2.1 19 = .ok (.iload_n 1, 1) := by decide +kernel
theorem dM_leave_20 : decode mM_leave.2.1 20 = .ok (.ifCond .eq (15), 3) := by decide +kernel
theorem dM_leave_23 : decode mM_leave.2.1 23 = .ok (.aload_n 0, 1) := by decide +kernel
theorem dM_leave_24 : decode mM_leave.2.1 24 = .ok (.getfield 91, 3) := by decide +kernel
theorem dM_leave_27 : decode mM_leave.2.1 27 = .ok (.aload_n 0, 1) := by decide +kernel
theorem dM_leave_28 : decode mM_leave.2.1 28 = .ok (.getfield 191, 3) := by decide +kernel
theorem dM_leave_31 : decode mM_leave.2.1 31 = .ok (.iaload, 1) := by decide +kernel
theorem dM_leave_32 : decode mM_leave.2.1 32 = .ok (.goto (20), 3) := by decide +kernel
theorem dM_leave_35 : decode mM_leave.2.1 35 = .ok (.bipush (31), 2) := by decide +kernel
theorem dM_leave_37 : decode mM_leave.2.1 37 = .ok (.aload_n 0, 1) := by decide +kernel
theorem dM_leave_38 : decode mM_leave.2.1 38 = .ok (.getfield 91, 3) := by decide +kernel
theorem dM_leave_41 : decode mM_leave.2.1 41 = .ok (.aload_n 0, 1) := by decide +kernel
theorem dM_leave_42 : decode mM_leave.2.1 42 = .ok (.getfield 191, 3) := by decide +kernel
theorem dM_leave_45 : decode mM_leave.2.1 45 = .ok (.iaload, 1) := by decide +kernel
theorem dM_leave_46 : decode mM_leave.2.1 46 = .ok (.imul, 1) := by decide +kernel
theorem dM_leave_47 : decode mM_leave.2.1 47 = .ok (.aload_n 0, 1) := by decide +kernel
theorem dM_leave_48 : decode mM_leave.2.1 48 = .ok (.invokevirtual 194, 3) := by decide +kernel
theorem dM_leave_51 : decode mM_leave.2.1 51 = .ok (.iadd, 1) := by decide +kernel
theorem dM_leave_52 : decode mM_leave.2.1 52 = .ok (.istore_n 2, 1) := by decide +kernel
theorem dM_leave_53 : decode mM_leave.2.1 53 = .ok (.aload_n 0, 1) := by decide +kernel
theorem dM_leave_54 : decode mM_leave.2.1 54 = .ok (.dup, 1) := by decide +kernel
theorem dM_leave_55 : decode mM_leave.2.1 55 = .ok (.getfield 191, 3) := by decide +kernel
theorem dM_leave_58 : decode mM_leave.2.1 58 = .ok (.iconst 1, 1) := by decide +kernel
theorem dM_leave_59 : decode mM_leave.2.1 59 = .ok (.isub, 1) := by decide +kernel
theorem dM_leave_60 : decode mM_leave.2.1 60 = .ok (.putfield 191, 3) := by decide +kernel
theorem dM_leave_63 : decode mM_leave.2.1 63 = .ok (.iload_n 2, 1) := by decide +kernel
theorem dM_leave_64 : decode mM_leave.2.1 64 = .ok (.ireturn, 1) := by decide +kernel
theorem dM_operate_0 : decode mM_operate.2.1 0 = .ok (.aload_n 0, 1) := by decide +kernel
theorem dM_operate_1 : decode mM_operate.2.1 1 = .ok (.iload_n 1, 1) := by decide +kernel
theorem dM_operate_2 : decode mM_operate.2.1 2 = .ok (.bipush (44), 2) := by decide +kernel
theorem dM_operate_4 : decode mM_operate.2.1 4 = .ok (.invokevirtual 153, 3) := by decide +kernel
theorem dM_operate_7 : decode mM_operate.2.1 7 = .ok (.ifCond .eq (38), 3) := by decide +kernel
theorem dM_operate_10 : decode mM_operate.2.1 10 = .ok (.aload_n 0, 1) := by decide +kernel
theorem dM_operate_11 : decode mM_operate.2.1 11 = .ok (.getfield 91, 3) := by decide +kernel
theorem dM_operate_14 : decode mM_operate.2.1 14 = .ok (.aload_n 0, 1) := by decide +kernel
theorem dM_operate_15 : decode mM_operate.2.1 15 = .ok (.getfield 191, 3) := by decide +kernel
theorem dM_operate_18 : decode mM_operate.2.1 18 = .ok (.bipush (31), 2) := by decide +kernel
theorem dM_operate_20 : decode mM_operate.2.1 20 = .ok (.aload_n 0, 1) := by decide +kernel
theorem dM_operate_21 : decode mM_operate.2.1 21 = .ok (.getfield 91, 3) := by decide +kernel
theorem dM_operate_24 : decode mM_operate.2.1 24 = .ok (.aload_n 0, 1) := by decide +kernel
theorem dM_operate_25 : decode mM_operate.2.1 25 = .ok (.getfield 191, 3) := by decide +kernel
theorem dM_operate_28 : decode mM_operate.2.1 28 = .ok (.iaload, 1) := by decide +kernel
theorem dM_operate_29 : decode mM_operate.2.1 29 = .ok (.imul, 1) := by decide +kernel
theorem dM_operate_30 : decode mM_operate.2.1 30 = .ok (.aload_n 0, 1) := by decide +kernel
theorem dM_operate_31 : decode mM_operate.2.1 31 = .ok (.invokevirtual 194, 3) := by decide +kernel
theorem dM_operate_34 : decode mM_operate.2.1 34 = .ok (.iadd, 1) := by decide +kernel
theorem dM_operate_35 : decode mM_operate.2.1 35 = .ok (.iastore, 1) := by decide +kernel
theorem dM_operate_36 : decode mM_operate.2.1 36 = .ok (.aload_n 0, 1) := by decide +kernel
theorem dM_operate_37 : decode mM_operate.2.1 37 = .ok (.iconst 0, 1) := by decide +kernel
theorem dM_operate_38 : decode mM_operate.2.1 38 = .ok (.iconst 1, 1) := by decide +kernel
theorem dM_operate_39 : decode mM_operate.2.1 39 = .ok (.invokevirtual 197, 3) := by decide +kernel
theorem dM_operate_42 : decode mM_operate.2.1 42 = .ok (.goto (36), 3) := by decide +kernel
theorem dM_operate_45 : decode mM_operate.2.1 45 = .ok (.aload_n 0, 1) := by decide +kernel
theorem dM_operate_46 : decode mM_operate.2.1 46 = .ok (.iload_n 1, 1) := by decide +kernel
theorem dM_operate_47 : decode mM_operate.2.1 47 = .ok (.bipush (42), 2) := by decide +kernel
theorem dM_operate_49 : decode mM_operate.2.1 49 = .ok (.invokevirtual 153, 3) := by decide +kernel
theorem dM_operate_52 : decode mM_operate.2.1 52 = .ok (.ifCond .ne (26), 3) := by decide +kernel
theorem dM_operate_55 : decode mM_operate.2.1 55 = .ok (.aload_n 0, 1) := by decide +kernel
theorem dM_operate_56 : decode mM_operate.2.1 56 = .ok (.aload_n 0, 1) := by decide +kernel
theorem dM_operate_57 : decode mM_operate.2.1 57 = .ok (.invokevirtual 194, 3) := by decide +kernel
theorem dM_operate_60 : decode mM_operate.2.1 60 = .ok (.aload_n 0, 1) := by decide +kernel
theorem dM_operate_61 : decode mM_operate.2.1 61 = .ok (.iload_n 1, 1) := by decide +kernel
theorem dM_operate_62 : decode mM_operate.2.1 62 = .ok (.bipush (43), 2) := by decide +kernel
theorem dM_operate_64 : decode mM_operate.2.1 64 = .ok (.invokevirtual 153, 3) := by decide +kernel
theorem dM_operate_67 : decode mM_operate.2.1 67 = .ok (.ifCond .eq (7), 3) := by decide +kernel
theorem dM_operate_70 : decode mM_operate.2.1 70 = .ok (.iconst 1, 1) := by decide +kernel
theorem dM_operate_71 : decode mM_operate.2.1 71 = .ok (.goto (4), 3) := by decide +kernel
theorem dM_operate_74 : decode mM_operate.2.1 74 = .ok (.iconst (-1), 1) := by decide +kernel
theorem dM_operate_75 : decode mM_operate.2.1 75 = .ok (.invokevirtual 197, 3) := by decide +kernel
theorem dM_operate_78 : decode mM_operate.2.1 78 = .ok (.return_, 1) := by decide +kernel
theorem dM_valueOf_0 : decode mM_valueOf.2.1 0 = .ok (.aload_n 0, 1) := by decide +kernel
theorem dM_valueOf_1 : decode mM_valueOf.2.1 1 = .ok (.iconst (-1), 1) := by decide +kernel
theorem dM_valueOf_2 : decode mM_valueOf.2.1 2 = .ok (.putfield 191, 3) := by decide +kernel
theorem dM_valueOf_5 : decode mM_valueOf.2.1 5 = .ok (.aload_n 0, 1) := by decide +kernel
theorem dM_valueOf_6 : decode mM_valueOf.2.1 6 = .ok (.iconst 0, 1) := by decide +kernel
theorem dM_valueOf_7 : decode mM_valueOf.2.1 7 = .ok (.iconst 0, 1) := by decide +kernel
theorem dM_valueOf_8 : decode mM_valueOf.2.1 8 = .ok (.invokevirtual 200, 3) := by decide +kernel
theorem dM_valueOf_11 : decode mM_valueOf.2.1 11 = .ok (.iconst 1, 1) := by decide +kernel
theorem dM_valueOf_12 : decode mM_valueOf.2.1 12 = .ok (.istore 4, 2) := by decide +kernel
theorem dM_valueOf_14 : decode mM_valueOf.2.1 14 = .ok (.iload_n 2, 1) := by decide +kernel
theorem dM_valueOf_15 : decode mM_valueOf.2.1 15 = .ok (.istore 5, 2) := by decide +kernel
theorem dM_valueOf_17 : decode mM_valueOf.2.1 17 = .ok (.iload 5, 2) := by decide +kernel
theorem dM_valueOf_19 : decode mM_valueOf.2.1 19 = .ok (.iload_n 3, 1) := by decide +kernel
theorem dM_valueOf_20 : decode mM_valueOf.2.1 20 = .ok (.if_icmp .ge (261), 3) := by decide +kernel
theorem dM_valueOf_23 : decode mM_valueOf.2.1 23 = .ok (.aload_n 0, 1) := by decide +kernel
theorem dM_valueOf_24 : decode mM_valueOf.2.1 24 = .ok (.iload 5, 2) := by decide +kernel
theorem dM_valueOf_26 : decode mM_valueOf.2.1 26 = .ok (.bipush (40), 2) := by decide +kernel
theorem dM_valueOf_28 : decode mM_valueOf.2.1 28 = .ok (.invokevirtual 153, 3) := by decide +kernel
theorem dM_valueOf_31 : decode mM_valueOf.2.1 31 = .ok (.ifCond .eq (58), 3) := by decide +kernel
theorem dM_valueOf_34 : decode mM_valueOf.2.1 34 = .ok (.aload_n 0, 1) := by decide +kernel
theorem dM_valueOf_35 : decode mM_valueOf.2.1 35 = .ok (.getfield 23, 3) := by decide +kernel
theorem dM_valueOf_38 : decode mM_valueOf.2.1 38 = .ok (.iload 5, 2) := by decide +kernel
theorem dM_valueOf_40 : decode mM_valueOf.2.1 40 = .ok (.iconst 1, 1) := by decide +kernel
theorem dM_valueOf_41 : decode mM_valueOf.2.1 41 = .ok (.isub, 1) := by decide +kernel
theorem dM_valueOf_42 : decode mM_valueOf.2.1 42 = .ok (.iaload, 1) := by decide +kernel
theorem dM_valueOf_43 : decode mM_valueOf.2.1 43 = .ok (.ifCond .ne (13), 3) := by decide +kernel
theorem dM_valueOf_46 : decode mM_valueOf.2.1 46 = .ok (.iload 5, 2) := by decide +kernel
theorem dM_valueOf_48 : decode mM_valueOf.2.1 48 = .ok (.iload_n 2, 1) := by decide +kernel
theorem dM_valueOf_49 : decode mM_valueOf.2.1 49 = .ok (.if_icmp .le (7), 3) := by decide +kernel
theorem dM_valueOf_52 : decode mM_valueOf.2.1 52 = .ok (.iconst 1, 1) := by decide +kernel
theorem dM_valueOf_53 : decode mM_valueOf.2.1 53 = .ok (.goto (4), 3) := by decide +kernel
theorem dM_valueOf_56 : decode mM_valueOf.2.1 56 = .ok (.iconst 0, 1) := by decide +kernel
theorem dM_valueOf_57 : decode mM_valueOf.2.1 57 = .ok (.istore 6, 2) := by decide +kernel
theorem dM_valueOf_59 : decode mM_valueOf.2.1 59 = .ok (.aload_n 0, 1) := by decide +kernel
theorem dM_valueOf_60 : decode mM_valueOf.2.1 60 = .ok (.iload 6, 2) := by decide +kernel
theorem dM_valueOf_62 : decode mM_valueOf.2.1 62 = .ok (.iload 6, 2) := by decide +kernel
theorem dM_valueOf_64 : decode mM_valueOf.2.1 64 = .ok (.ifCond .eq (15), 3) := by decide +kernel
theorem dM_valueOf_67 : decode mM_valueOf.2.1 67 = .ok (.aload_n 0, 1) := by decide +kernel
theorem dM_valueOf_68 : decode mM_valueOf.2.1 68 = .ok (.getfield 20, 3) := by decide +kernel
theorem dM_valueOf_71 : decode mM_valueOf.2.1 71 = .ok (.iload 5, 2) := by decide +kernel
theorem dM_valueOf_73 : decode mM_valueOf.2.1 73 = .ok (.iconst 1, 1) := by decide +kernel
theorem dM_valueOf_74 : decode mM_valueOf.2.1 74 = .ok (.isub, 1) := by decide +kernel
theorem dM_valueOf_75 : decode mM_valueOf.2.1 75 = .ok (.iaload, 1) := by decide +kernel
theorem dM_valueOf_76 : decode mM_valueOf.2.1 76 = .ok (.goto (4), 3) := by decide +kernel
theorem dM_valueOf_79 : decode mM_valueOf.2.1 79 = .ok (.iconst 0, 1) := by decide +kernel
theorem dM_valueOf_80 : decode mM_valueOf.2.1 80 = .ok (.invokevirtual 200, 3) := by decide +kernel
theorem dM_valueOf_83 : decode mM_valueOf.2.1 83 = .ok (.iconst 1, 1) := by decide +kernel
theorem dM_valueOf_84 : decode mM_valueOf.2.1 84 = .ok (.istore 4, 2) := by decide +kernel
theorem dM_valueOf_86 : decode mM_valueOf.2.1 86 = .ok (.goto (189), 3) := by decide +kernel
theorem dM_valueOf_89 : decode mM_valueOf.2.1 89 = .ok (.aload_n 0, 1) := by decide +kernel
theorem dM_valueOf_90 : decode mM_valueOf.2.1 90 = .ok (.iload 5, 2) := by decide +kernel
theorem dM_valueOf_92 : decode mM_valueOf.2.1 92 = .ok (.bipush (41), 2) := by decide +kernel
theorem dM_valueOf_94 : decode mM_valueOf.2.1 94 = .ok (.invokevirtual 153, 3) := by decide +kernel
theorem dM_valueOf_97 : decode mM_valueOf.2.1 97 = .ok (.ifCond .eq (31), 3) := by decide +kernel
theorem dM_valueOf_100 : decode mM_valueOf.2.1 100 = .ok (.aload_n 0, 1) := by decide +kernel
theorem dM_valueOf_101 : decode mM_valueOf.2.1 101 = .ok (.aload_n 0, 1) := by decide +kernel
theorem dM_valueOf_102 : decode mM_valueOf.2.1 102 = .ok (.iload 5, 2) := by decide +kernel
theorem dM_valueOf_104 : decode mM_valueOf.2.1 104 = .ok (.iconst 1, 1) := by decide +kernel
theorem dM_valueOf_105 : decode mM_valueOf.2.1 105 = .ok (.isub, 1) := by decide +kernel
theorem dM_valueOf_106 : decode mM_valueOf.2.1 106 = .ok (.bipush (40), 2) := by decide +kernel
end
section
theorem dM_valueOf_108 : decode mM_valueOf.2.1 108 = .ok (.invokevirtual 153, 3) := by decide +kernel
theorem dM_valueOf_111 : decode mM_valueOf.2.1 111 = .ok (.invokevirtual 204, 3) := by decide +kernel
theorem dM_valueOf_114 : decode mM_valueOf.2.1 114 = .ok (.istore 6, 2) := by decide +kernel
theorem dM_valueOf_116 : decode mM_valueOf.2.1 116 = .ok (.aload_n 0, 1) := by decide +kernel
theorem dM_valueOf_117 : decode mM_valueOf.2.1 117 = .ok (.iload 6, 2) := by decide +kernel
theorem dM_valueOf_119 : decode mM_valueOf.2.1 119 = .ok (.invokevirtual 208, 3) := by decide +kernel
theorem dM_valueOf_122 : decode mM_valueOf.2.1 122 = .ok (.iconst 0, 1) := by decide +kernel
theorem dM_valueOf_123 : decode mM_valueOf.2.1 123 = .ok (.istore 4, 2) := by decide +kernel
theorem dM_valueOf_125 : decode mM_valueOf.2.1 125 = .ok (.goto (150), 3) := by decide +kernel
theorem dM_valueOf_128 : decode mM_valueOf.2.1 128 = .ok (.aload_n 0, 1) := by decide +kernel
theorem dM_valueOf_129 : decode mM_valueOf.2.1 129 = .ok (.iload 5, 2) := by decide +kernel
theorem dM_valueOf_131 : decode mM_valueOf.2.1 131 = .ok (.bipush (45), 2) := by decide +kernel
theorem dM_valueOf_133 : decode mM_valueOf.2.1 133 = .ok (.invokevirtual 153, 3) := by decide +kernel
theorem dM_valueOf_136 : decode mM_valueOf.2.1 136 = .ok (.ifCond .eq (24), 3) := by decide +kernel
theorem dM_valueOf_139 : decode mM_valueOf.2.1 139 = .ok (.iload 4, 2) := by decide +kernel
theorem dM_valueOf_141 : decode mM_valueOf.2.1 141 = .ok (.ifCond .eq (19), 3) := by decide +kernel
theorem dM_valueOf_144 : decode mM_valueOf.2.1 144 = .ok (.aload_n 0, 1) := by decide +kernel
theorem dM_valueOf_145 : decode mM_valueOf.2.1 145 = .ok (.getfield 88, 3) := by decide +kernel
theorem dM_valueOf_148 : decode mM_valueOf.2.1 148 = .ok (.aload_n 0, 1) := by decide +kernel
theorem dM_valueOf_149 : decode mM_valueOf.2.1 149 = .ok (.getfield 191, 3) := by decide +kernel
theorem dM_valueOf_152 : decode mM_valueOf.2.1 152 = .ok (.dup2, 1) := by decide +kernel
theorem dM_valueOf_153 : decode mM_valueOf.2.1 153 = .ok (.iaload, 1) := by decide +kernel
theorem dM_valueOf_154 : decode mM_valueOf.2.1 154 = .ok (.iconst 1, 1) := by decide +kernel
theorem dM_valueOf_155 : decode mM_valueOf.2.1 155 = .ok (.iadd, 1) := by decide +kernel
theorem dM_valueOf_156 : decode mM_valueOf.2.1 156 = .ok (.iastore, 1) := by decide +kernel
theorem dM_valueOf_157 : decode mM_valueOf.2.1 157 = .ok (.goto (118), 3) := by decide +kernel
theorem dM_valueOf_160 : decode mM_valueOf.2.1 160 = .ok (.aload_n 0, 1) := by decide +kernel
theorem dM_valueOf_161 : decode mM_valueOf.2.1 161 = .ok (.getfield 23, 3) := by decide +kernel
theorem dM_valueOf_164 : decode mM_valueOf.2.1 164 = .ok (.iload 5, 2) := by decide +kernel
theorem dM_valueOf_166 : decode mM_valueOf.2.1 166 = .ok (.iaload, 1) := by decide +kernel
theorem dM_valueOf_167 : decode mM_valueOf.2.1 167 = .ok (.iconst 3, 1) := by decide +kernel
theorem dM_valueOf_168 : decode mM_valueOf.2.1 168 = .ok (.if_icmp .ne (15), 3) := by decide +kernel
theorem dM_valueOf_171 : decode mM_valueOf.2.1 171 = .ok (.aload_n 0, 1) := by decide +kernel
theorem dM_valueOf_172 : decode mM_valueOf.2.1 172 = .ok (.iload 5, 2) := by decide +kernel
theorem dM_valueOf_174 : decode mM_valueOf.2.1 174 = .ok (.invokevirtual 212, 3) := by decide +kernel
theorem dM_valueOf_177 : decode mM_valueOf.2.1 177 = .ok (.iconst 1, 1) := by decide +kernel
theorem dM_valueOf_178 : decode mM_valueOf.2.1 178 = .ok (.istore 4, 2) := by decide +kernel
theorem dM_valueOf_180 : decode mM_valueOf.2.1 180 = .ok (.goto (95), 3) := by decide +kernel
theorem dM_valueOf_183 : decode mM_valueOf.2.1 183 = .ok (.aload_n 0, 1) := by decide +kernel
theorem dM_valueOf_184 : decode mM_valueOf.2.1 184 = .ok (.getfield 23, 3) := by decide +kernel
theorem dM_valueOf_187 : decode mM_valueOf.2.1 187 = .ok (.iload 5, 2) := by decide +kernel
theorem dM_valueOf_189 : decode mM_valueOf.2.1 189 = .ok (.iaload, 1) := by decide +kernel
theorem dM_valueOf_190 : decode mM_valueOf.2.1 190 = .ok (.ifCond .ne (20), 3) := by decide +kernel
theorem dM_valueOf_193 : decode mM_valueOf.2.1 193 = .ok (.aload_n 0, 1) := by decide +kernel
theorem dM_valueOf_194 : decode mM_valueOf.2.1 194 = .ok (.iload 5, 2) := by decide +kernel
theorem dM_valueOf_196 : decode mM_valueOf.2.1 196 = .ok (.iconst 1, 1) := by decide +kernel
theorem dM_valueOf_197 : decode mM_valueOf.2.1 197 = .ok (.iadd, 1) := by decide +kernel
theorem dM_valueOf_198 : decode mM_valueOf.2.1 198 = .ok (.bipush (40), 2) := by decide +kernel
theorem dM_valueOf_200 : decode mM_valueOf.2.1 200 = .ok (.invokevirtual 153, 3) := by decide +kernel
theorem dM_valueOf_203 : decode mM_valueOf.2.1 203 = .ok (.ifCond .eq (7), 3) := by decide +kernel
theorem dM_valueOf_206 : decode mM_valueOf.2.1 206 = .ok (.iconst 1, 1) := by decide +kernel
theorem dM_valueOf_207 : decode mM_valueOf.2.1 207 = .ok (.goto (4), 3) := by decide +kernel
theorem dM_valueOf_210 : decode mM_valueOf.2.1 210 = .ok (.iconst 0, 1) := by decide +kernel
theorem dM_valueOf_211 : decode mM_valueOf.2.1 211 = .ok (.istore 6, 2) := by decide +kernel
theorem dM_valueOf_213 : decode mM_valueOf.2.1 213 = .ok (.iload 6, 2) := by decide +kernel
theorem dM_valueOf_215 : decode mM_valueOf.2.1 215 = .ok (.ifCond .ne (57), 3) := by decide +kernel
theorem dM_valueOf_218 : decode mM_valueOf.2.1 218 = .ok (.aload_n 0, 1) := by decide +kernel
theorem dM_valueOf_219 : decode mM_valueOf.2.1 219 = .ok (.aload_n 0, 1) := by decide +kernel
theorem dM_valueOf_220 : decode mM_valueOf.2.1 220 = .ok (.getfield 23, 3) := by decide +kernel
theorem dM_valueOf_223 : decode mM_valueOf.2.1 223 = .ok (.iload 5, 2) := by decide +kernel
theorem dM_valueOf_225 : decode mM_valueOf.2.1 225 = .ok (.iaload, 1) := by decide +kernel
theorem dM_valueOf_226 : decode mM_valueOf.2.1 226 = .ok (.iconst 1, 1) := by decide +kernel
theorem dM_valueOf_227 : decode mM_valueOf.2.1 227 = .ok (.if_icmp .ne (12), 3) := by decide +kernel
theorem dM_valueOf_230 : decode mM_valueOf.2.1 230 = .ok (.aload_n 0, 1) := by decide +kernel
theorem dM_valueOf_231 : decode mM_valueOf.2.1 231 = .ok (.iload 5, 2) := by decide +kernel
theorem dM_valueOf_233 : decode mM_valueOf.2.1 233 = .ok (.invokevirtual 215, 3) := by decide +kernel
theorem dM_valueOf_236 : decode mM_valueOf.2.1 236 = .ok (.goto (33), 3) := by decide +kernel
theorem dM_valueOf_239 : decode mM_valueOf.2.1 239 = .ok (.aload_n 0, 1) := by decide +kernel
theorem dM_valueOf_240 : decode mM_valueOf.2.1 240 = .ok (.getfield 23, 3) := by decide +kernel
theorem dM_valueOf_243 : decode mM_valueOf.2.1 243 = .ok (.iload 5, 2) := by decide +kernel
theorem dM_valueOf_245 : decode mM_valueOf.2.1 245 = .ok (.iaload, 1) := by decide +kernel
theorem dM_valueOf_246 : decode mM_valueOf.2.1 246 = .ok (.iconst 2, 1) := by decide +kernel
theorem dM_valueOf_247 : decode mM_valueOf.2.1 247 = .ok (.if_icmp .ne (15), 3) := by decide +kernel
theorem dM_valueOf_250 : decode mM_valueOf.2.1 250 = .ok (.aload_n 0, 1) := by decide +kernel
theorem dM_valueOf_251 : decode mM_valueOf.2.1 251 = .ok (.getfield 20, 3) := by decide +kernel
theorem dM_valueOf_254 : decode mM_valueOf.2.1 254 = .ok (.iload 5, 2) := by decide +kernel
theorem dM_valueOf_256 : decode mM_valueOf.2.1 256 = .ok (.iaload, 1) := by decide +kernel
theorem dM_valueOf_257 : decode mM_valueOf.2.1 257 = .ok (.iconst 2, 1) := by decide +kernel
theorem dM_valueOf_258 : decode mM_valueOf.2.1 258 = .ok (.isub, 1) := by decide +kernel
theorem dM_valueOf_259 : decode mM_valueOf.2.1 259 = .ok (.goto (10), 3) := by decide +kernel
theorem dM_valueOf_262 : decode mM_valueOf.2.1 262 = .ok (.aload_n 0, 1) := by decide +kernel
theorem dM_valueOf_263 : decode mM_valueOf.2.1 263 = .ok (.iload_n 1, 1) := by decide +kernel
theorem dM_valueOf_264 : decode mM_valueOf.2.1 264 = .ok (.iload 5, 2) := by decide +kernel
theorem dM_valueOf_266 : decode mM_valueOf.2.1 266 = .ok (.invokevirtual 218, 3) := by decide +kernel
theorem dM_valueOf_269 : decode mM_valueOf.2.1 269 = .ok (.invokevirtual 208, 3) := by decide +kernel
theorem dM_valueOf_272 : decode mM_valueOf.2.1 272 = .ok (.iconst 0, 1) := by decide +kernel
theorem dM_valueOf_273 : decode mM_valueOf.2.1 273 = .ok (.istore 4, 2) := by decide +kernel
theorem dM_valueOf_275 : decode mM_valueOf.2.1 275 = .ok (.iinc 5 (1), 3) := by decide +kernel
theorem dM_valueOf_278 : decode mM_valueOf.2.1 278 = .ok (.goto (-261), 3) := by decide +kernel
theorem dM_valueOf_281 : decode mM_valueOf.2.1 281 = .ok (.aload_n 0, 1) := by decide +kernel
theorem dM_valueOf_282 : decode mM_valueOf.2.1 282 = .ok (.invokevirtual 194, 3) := by decide +kernel
theorem dM_valueOf_285 : decode mM_valueOf.2.1 285 = .ok (.ireturn, 1) := by decide +kernel
theorem dM_countInside_0 : decode mM_countInside.2.1 0 = .ok (.iconst 0, 1) := by decide +kernel
theorem dM_countInside_1 : decode mM_countInside.2.1 1 = .ok (.istore_n 2, 1) := by decide +kernel
theorem dM_countInside_2 : decode mM_countInside.2.1 2 = .ok (.iload_n 1, 1) := by decide +kernel
theorem dM_countInside_3 : decode mM_countInside.2.1 3 = .ok (.iconst 1, 1) := by decide +kernel
theorem dM_countInside_4 : decode mM_countInside.2.1 4 = .ok (.iadd, 1) := by decide +kernel
theorem dM_countInside_5 : decode mM_countInside.2.1 5 = .ok (.istore_n 3, 1) := by decide +kernel
theorem dM_countInside_6 : decode mM_countInside.2.1 6 = .ok (.iload_n 3, 1) := by decide +kernel
theorem dM_countInside_7 : decode mM_countInside.2.1 7 = .ok (.aload_n 0, 1) := by decide +kernel
theorem dM_countInside_8 : decode mM_countInside.2.1 8 = .ok (.getfield 146, 3) := by decide +kernel
theorem dM_countInside_11 : decode mM_countInside.2.1 11 = .ok (.if_icmp .ge (49), 3) := by decide +kernel
theorem dM_countInside_14 : decode mM_countInside.2.1 14 = .ok (.aload_n 0, 1) := by decide +kernel
theorem dM_countInside_15 : decode mM_countInside.2.1 15 = .ok (.getfield 38, 3) := by decide +kernel
theorem dM_countInside_18 : decode mM_countInside.2.1 18 = .ok (.iload_n 3, 1) := by decide +kernel
theorem dM_countInside_19 : decode mM_countInside.2.1 19 = .ok (.iaload, 1) := by decide +kernel
theorem dM_countInside_20 : decode mM_countInside.2.1 20 = .ok (.aload_n 0, 1) := by decide +kernel
theorem dM_countInside_21 : decode mM_countInside.2.1 21 = .ok (.getfield 41, 3) := by decide +kernel
theorem dM_countInside_24 : decode mM_countInside.2.1 24 = .ok (.iload_n 1, 1) := by decide +kernel
theorem dM_countInside_25 : decode mM_countInside.2.1 25 = .ok (.iaload, 1) := by decide +kernel
theorem dM_countInside_26 : decode mM_countInside.2.1 26 = .ok (.if_icmp .ge (26), 3) := by decide +kernel
theorem dM_countInside_29 : decode mM_countInside.2.1 29 = .ok (.aload_n 0, 1) := by decide +kernel
theorem dM_countInside_30 : decode mM_countInside.2.1 30 = .ok (.getfield 44, 3) := by decide +kernel
theorem dM_countInside_33 : decode mM_countInside.2.1 33 = .ok (.iload_n 3, 1) := by decide +kernel
theorem dM_countInside_34 : decode mM_countInside.2.1 34 = .ok (.iaload, 1) := by decide +kernel
theorem dM_countInside_35 : decode mM_countInside.2.1 35 = .ok (.aload_n 0, 1) := by decide +kernel
theorem dM_countInside_36 : decode mM_countInside.2.1 36 = .ok (.getfield 44, 3) := by decide +kernel
theorem dM_countInside_39 : decode mM_countInside.2.1 39 = .ok (.iload_n 1, 1) := by decide +kernel
theorem dM_countInside_40 : decode mM_countInside.2.1 40 = .ok (.iaload, 1) := by decide +kernel
theorem dM_countInside_41 : decode mM_countInside.2.1 41 = .ok (.iconst 1, 1) := by decide +kernel
theorem dM_countInside_42 : decode mM_countInside.2.1 42 = .ok (.iadd, 1) := by decide +kernel
theorem dM_countInside_43 : decode mM_countInside.2.1 43 = .ok (.if_icmp .ne (9), 3) := by decide +kernel
theorem dM_countInside_46 : decode mM_countInside.2.1 46 = .ok (.iload_n 2, 1) := by decide +kernel
theorem dM_countInside_47 : decode mM_countInside.2.1 47 = .ok (.iconst 1, 1) := by decide +kernel
theorem dM_countInside_48 : decode mM_countInside.2.1 48 = .ok (.iadd, 1) := by decide +kernel
theorem dM_countInside_49 : decode mM_countInside.2.1 49 = .ok (.goto (4), 3) := by decide +kernel
theorem dM_countInside_52 : decode mM_countInside.2.1 52 = .ok (.iload_n 2, 1) := by decide +kernel
theorem dM_countInside_53 : decode mM_countInside.2.1 53 = .ok (.istore_n 2, 1) := by decide +kernel
theorem dM_countInside_54 : decode mM_countInside.2.1 54 = .ok (.iinc 3 (1), 3) := by decide +kernel
theorem dM_countInside_57 : decode mM_countInside.2.1 57 = .ok (.goto (-51), 3) := by decide +kernel
theorem dM_countInside_60 : decode mM_countInside.2.1 60 = .ok (.iload_n 2, 1) := by decide +kernel
theorem dM_countInside_61 : decode mM_countInside.2.1 61 = .ok (.ireturn, 1) := by decide +kernel
theorem dM_findValues_0 : decode mM_findValues.2.1 0 = .ok (.iconst 0, 1) := by decide +kernel
theorem dM_findValues_1 : decode mM_findValues.2.1 1 = .ok (.istore_n 1, 1) := by decide +kernel
theorem dM_findValues_2 : decode mM_findValues.2.1 2 = .ok (.iload_n 1, 1) := by decide +kernel
theorem dM_findValues_3 : decode mM_findValues.2.1 3 = .ok (.aload_n 0, 1) := by decide +kernel
theorem dM_findValues_4 : decode mM_findValues.2.1 4 = .ok (.getfield 146, 3) := by decide +kernel
theorem dM_findValues_7 : decode mM_findValues.2.1 7 = .ok (.if_icmp .ge (75), 3) := by decide +kernel
theorem dM_findValues_10 : decode mM_findValues.2.1 10 = .ok (.aload_n 0, 1) := by decide +kernel
theorem dM_findValues_11 : decode mM_findValues.2.1 11 = .ok (.getfield 47, 3) := by decide +kernel
theorem dM_findValues_14 : decode mM_findValues.2.1 14 = .ok (.iload_n 1, 1) := by decide +kernel
theorem dM_findValues_15 : decode mM_findValues.2.1 15 = .ok (.baload, 1) := by decide +kernel
theorem dM_findValues_16 : decode mM_findValues.2.1 16 = .ok (.ifCond .eq (17), 3) := by decide +kernel
theorem dM_findValues_19 : decode mM_findValues.2.1 19 = .ok (.aload_n 0, 1) := by decide +kernel
theorem dM_findValues_20 : decode mM_findValues.2.1 20 = .ok (.getfield 57, 3) := by decide +kernel
theorem dM_findValues_23 : decode mM_findValues.2.1 23 = .ok (.iload_n 1, 1) := by decide +kernel
theorem dM_findValues_24 : decode mM_findValues.2.1 24 = .ok (.aload_n 0, 1) := by decide +kernel
theorem dM_findValues_25 : decode mM_findValues.2.1 25 = .ok (.iload_n 1, 1) := by decide +kernel
theorem dM_findValues_26 : decode mM_findValues.2.1 26 = .ok (.invokevirtual 222, 3) := by decide +kernel
theorem dM_findValues_29 : decode mM_findValues.2.1 29 = .ok (.iastore, 1) := by decide +kernel
theorem dM_findValues_30 : decode mM_findValues.2.1 30 = .ok (.goto (46), 3) := by decide +kernel
theorem dM_findValues_33 : decode mM_findValues.2.1 33 = .ok (.aload_n 0, 1) := by decide +kernel
theorem dM_findValues_34 : decode mM_findValues.2.1 34 = .ok (.getfield 57, 3) := by decide +kernel
theorem dM_findValues_37 : decode mM_findValues.2.1 37 = .ok (.iload_n 1, 1) := by decide +kernel
theorem dM_findValues_38 : decode mM_findValues.2.1 38 = .ok (.aload_n 0, 1) := by decide +kernel
theorem dM_findValues_39 : decode mM_findValues.2.1 39 = .ok (.iload_n 1, 1) := by decide +kernel
theorem dM_findValues_40 : decode mM_findValues.2.1 40 = .ok (.aload_n 0, 1) := by decide +kernel
theorem dM_findValues_41 : decode mM_findValues.2.1 41 = .ok (.getfield 51, 3) := by decide +kernel
theorem dM_findValues_44 : decode mM_findValues.2.1 44 = .ok (.iload_n 1, 1) := by decide +kernel
theorem dM_findValues_45 : decode mM_findValues.2.1 45 = .ok (.baload, 1) := by decide +kernel
theorem dM_findValues_46 : decode mM_findValues.2.1 46 = .ok (.ifCond .eq (14), 3) := by decide +kernel
theorem dM_findValues_49 : decode mM_findValues.2.1 49 = .ok (.aload_n 0, 1) := by decide +kernel
theorem dM_findValues_50 : decode mM_findValues.2.1 50 = .ok (.getfield 38, 3) := by decide +kernel
theorem dM_findValues_53 : decode mM_findValues.2.1 53 = .ok (.iload_n 1, 1) := by decide +kernel
theorem dM_findValues_54 : decode mM_findValues.2.1 54 = .ok (.iaload, 1) := by decide +kernel
theorem dM_findValues_55 : decode mM_findValues.2.1 55 = .ok (.iconst 2, 1) := by decide +kernel
theorem dM_findValues_56 : decode mM_findValues.2.1 56 = .ok (.iadd, 1) := by decide +kernel
theorem dM_findValues_57 : decode mM_findValues.2.1 57 = .ok (.goto (9), 3) := by decide +kernel
theorem dM_findValues_60 : decode mM_findValues.2.1 60 = .ok (.aload_n 0, 1) := by decide +kernel
theorem dM_findValues_61 : decode mM_findValues.2.1 61 = .ok (.getfield 38, 3) := by decide +kernel
theorem dM_findValues_64 : decode mM_findValues.2.1 64 = .ok (.iload_n 1, 1) := by decide +kernel
theorem dM_findValues_65 : decode mM_findValues.2.1 65 = .ok (.iaload, 1) := by decide +kernel
theorem dM_findValues_66 : decode mM_findValues.2.1 66 = .ok (.aload_n 0, 1) := by decide +kernel
theorem dM_findValues_67 : decode mM_findValues.2.1 67 = .ok (.getfield 41, 3) := by decide +kernel
theorem dM_findValues_70 : decode mM_findValues.2.1 70 = .ok (.iload_n 1, 1) := by decide +kernel
theorem dM_findValues_71 : decode mM_findValues.2.1 71 = .ok (.iaload, 1) := by decide +kernel
theorem dM_findValues_72 : decode mM_findValues.2.1 72 = .ok (.invokevirtual 225, 3) := by decide +kernel
theorem dM_findValues_75 : decode mM_findValues.2.1 75 = .ok (.iastore, 1) := by decide +kernel
theorem dM_findValues_76 : decode mM_findValues.2.1 76 = .ok (.iinc 1 (1), 3) := by decide +kernel
theorem dM_findValues_79 : decode mM_findValues.2.1 79 = .ok (.goto (-77), 3) := by decide +kernel
theorem dM_findValues_82 : decode mM_findValues.2.1 82 = .ok (.return_, 1) := by decide +kernel
theorem dM_keepOld_0 : decode mM_keepOld.2.1 0 = .ok (.aload_n 0, 1) := by decide +kernel
theorem dM_keepOld_1 : decode mM_keepOld.2.1 1 = .ok (.aload_n 0, 1) := by decide +kernel
theorem dM_keepOld_2 : decode mM_keepOld.2.1 2 = .ok (.getfield 106, 3) := by decide +kernel
theorem dM_keepOld_5 : decode mM_keepOld.2.1 5 = .ok (.putfield 229, 3) := by decide +kernel
theorem dM_keepOld_8 : decode mM_keepOld.2.1 8 = .ok (.iconst 0, 1) := by decide +kernel
theorem dM_keepOld_9 : decode mM_keepOld.2.1 9 = .ok (.istore_n 1, 1) := by decide +kernel
theorem dM_keepOld_10 : decode mM_keepOld.2.1 10 = .ok (.iload_n 1, 1) := by decide +kernel
theorem dM_keepOld_11 : decode mM_keepOld.2.1 11 = .ok (.aload_n 0, 1) := by decide +kernel
theorem dM_keepOld_12 : decode mM_keepOld.2.1 12 = .ok (.getfield 106, 3) := by decide +kernel
theorem dM_keepOld_15 : decode mM_keepOld.2.1 15 = .ok (.if_icmp .ge (45), 3) := by decide +kernel
theorem dM_keepOld_18 : decode mM_keepOld.2.1 18 = .ok (.aload_n 0, 1) := by decide +kernel
theorem dM_keepOld_19 : decode mM_keepOld.2.1 19 = .ok (.getfield 26, 3) := by decide +kernel
theorem dM_keepOld_22 : decode mM_keepOld.2.1 22 = .ok (.iload_n 1, 1) := by decide +kernel
theorem dM_keepOld_23 : decode mM_keepOld.2.1 23 = .ok (.aload_n 0, 1) := by decide +kernel
theorem dM_keepOld_24 : decode mM_keepOld.2.1 24 = .ok (.getfield 16, 3) := by decide +kernel
theorem dM_keepOld_27 : decode mM_keepOld.2.1 27 = .ok (.iload_n 1, 1) := by decide +kernel
theorem dM_keepOld_28 : decode mM_keepOld.2.1 28 = .ok (.iaload, 1) := by decide +kernel
theorem dM_keepOld_29 : decode mM_keepOld.2.1 29 = .ok (.iastore, 1) := by decide +kernel
theorem dM_keepOld_30 : decode mM_keepOld.2.1 30 = .ok (.aload_n 0, 1) := by decide +kernel
theorem dM_keepOld_31 : decode mM_keepOld.2.1 31 = .ok (.getfield 29, 3) := by decide +kernel
theorem dM_keepOld_34 : decode mM_keepOld.2.1 34 = .ok (.iload_n 1, 1) := by decide +kernel
theorem dM_keepOld_35 : decode mM_keepOld.2.1 35 = .ok (.aload_n 0, 1) := by decide +kernel
theorem dM_keepOld_36 : decode mM_keepOld.2.1 36 = .ok (.getfield 20, 3) := by decide +kernel
theorem dM_keepOld_39 : decode mM_keepOld.2.1 39 = .ok (.iload_n 1, 1) := by decide +kernel
theorem dM_keepOld_40 : decode mM_keepOld.2.1 40 = .ok (.iaload, 1) := by decide +kernel
theorem dM_keepOld_41 : decode mM_keepOld.2.1 41 = .ok (.iastore, 1) := by decide +kernel
theorem dM_keepOld_42 : decode mM_keepOld.2.1 42 = .ok (.aload_n 0, 1) := by decide +kernel
theorem dM_keepOld_43 : decode mM_keepOld.2.1 43 = .ok (.getfield 32, 3) := by decide +kernel
theorem dM_keepOld_46 : decode mM_keepOld.2.1 46 = .ok (.iload_n 1, 1) := by decide +kernel
theorem dM_keepOld_47 : decode mM_keepOld.2.1 47 = .ok (.aload_n 0, 1) := by decide +kernel
theorem dM_keepOld_48 : decode mM_keepOld.2.1 48 = .ok (.getfield 23, 3) := by decide +kernel
theorem dM_keepOld_51 : decode mM_keepOld.2.1 51 = .ok (.iload_n 1, 1) := by decide +kernel
theorem dM_keepOld_52 : decode mM_keepOld.2.1 52 = .ok (.iaload, 1) := by decide +kernel
theorem dM_keepOld_53 : decode mM_keepOld.2.1 53 = .ok (.iastore, 1) := by decide +kernel
theorem dM_keepOld_54 : decode mM_keepOld.2.1 54 = .ok (.iinc 1 (1), 3) := by decide +kernel
theorem dM_keepOld_57 : decode mM_keepOld.2.1 57 = .ok (.goto (-47), 3) := by decide +kernel
theorem dM_keepOld_60 : decode mM_keepOld.2.1 60 = .ok (.aload_n 0, 1) := by decide +kernel
theorem dM_keepOld_61 : decode mM_keepOld.2.1 61 = .ok (.aload_n 0, 1) := by decide +kernel
theorem dM_keepOld_62 : decode mM_keepOld.2.1 62 = .ok (.getfield 146, 3) := by decide +kernel
theorem dM_keepOld_65 : decode mM_keepOld.2.1 65 = .ok (.putfield 232, 3) := by decide +kernel
theorem dM_keepOld_68 : decode mM_keepOld.2.1 68 = .ok (.iconst 0, 1) := by decide +kernel
theorem dM_keepOld_69 : decode mM_keepOld.2.1 69 = .ok (.istore_n 1, 1) := by decide +kernel
theorem dM_keepOld_70 : decode mM_keepOld.2.1 70 = .ok (.iload_n 1, 1) := by decide +kernel
theorem dM_keepOld_71 : decode mM_keepOld.2.1 71 = .ok (.aload_n 0, 1) := by decide +kernel
theorem dM_keepOld_72 : decode mM_keepOld.2.1 72 = .ok (.getfield 146, 3) := by decide +kernel
theorem dM_keepOld_75 : decode mM_keepOld.2.1 75 = .ok (.if_icmp .ge (45), 3) := by decide +kernel
theorem dM_keepOld_78 : decode mM_keepOld.2.1 78 = .ok (.aload_n 0, 1) := by decide +kernel
theorem dM_keepOld_79 : decode mM_keepOld.2.1 79 = .ok (.getfield 60, 3) := by decide +kernel
theorem dM_keepOld_82 : decode mM_keepOld.2.1 82 = .ok (.iload_n 1, 1) := by decide +kernel
theorem dM_keepOld_83 : decode mM_keepOld.2.1 83 = .ok (.aload_n 0, 1) := by decide +kernel
theorem dM_keepOld_84 : decode mM_keepOld.2.1 84 = .ok (.getfield 38, 3) := by decide +kernel
theorem dM_keepOld_87 : decode mM_keepOld.2.1 87 = .ok (.iload_n 1, 1) := by decide +kernel
theorem dM_keepOld_88 : decode mM_keepOld.2.1 88 = .ok (.iaload, 1) := by decide +kernel
theorem dM_keepOld_89 : decode mM_keepOld.2.1 89 = .ok (.iastore, 1) := by decide +kernel
theorem dM_keepOld_90 : decode mM_keepOld.2.1 90 = .ok (.aload_n 0, 1) := by decide +kernel
theorem dM_keepOld_91 : decode mM_keepOld.2.1 91 = .ok (.getfield 63, 3) := by decide +kernel
theorem dM_keepOld_94 : decode mM_keepOld.2.1 94 = .ok (.iload_n 1, 1) := by decide +kernel
theorem dM_keepOld_95 : decode mM_keepOld.2.1 95 = .ok (.aload_n 0, 1) := by decide +kernel
theorem dM_keepOld_96 : decode mM_keepOld.2.1 96 = .ok (.getfield 41, 3) := by decide +kernel
theorem dM_keepOld_99 : decode mM_keepOld.2.1 99 = .ok (.iload_n 1, 1) := by decide +kernel
theorem dM_keepOld_100 : decode mM_keepOld.2.1 100 = .ok (.iaload, 1) := by decide +kernel
theorem dM_keepOld_101 : decode mM_keepOld.2.1 101 = .ok (.iastore, 1) := by decide +kernel
theorem dM_keepOld_102 : decode mM_keepOld.2.1 102 = .ok (.aload_n 0, 1) := by decide +kernel
theorem dM_keepOld_103 : decode mM_keepOld.2.1 103 = .ok (.getfield 66, 3) := by decide +kernel
theorem dM_keepOld_106 : decode mM_keepOld.2.1 106 = .ok (.iload_n 1, 1) := by decide +kernel
theorem dM_keepOld_107 : decode mM_keepOld.2.1 107 = .ok (.aload_n 0, 1) := by decide +kernel
theorem dM_keepOld_108 : decode mM_keepOld.2.1 108 = .ok (.getfield 54, 3) := by decide +kernel
theorem dM_keepOld_111 : decode mM_keepOld.2.1 111 = .ok (.iload_n 1, 1) := by decide +kernel
theorem dM_keepOld_112 : decode mM_keepOld.2.1 112 = .ok (.iaload, 1) := by decide +kernel
theorem dM_keepOld_113 : decode mM_keepOld.2.1 113 = .ok (.iastore, 1) := by decide +kernel
theorem dM_keepOld_114 : decode mM_keepOld.2.1 114 = .ok (.iinc 1 (1), 3) := by decide +kernel
theorem dM_keepOld_117 : decode mM_keepOld.2.1 117 = .ok (.goto (-47), 3) := by decide +kernel
theorem dM_keepOld_120 : decode mM_keepOld.2.1 120 = .ok (.return_, 1) := by decide +kernel
theorem dM_tokenAt_0 : decode mM_tokenAt.2.1 0 = .ok (.iconst 0, 1) := by decide +kernel
theorem dM_tokenAt_1 : decode mM_tokenAt.2.1 1 = .ok (.istore 4, 2) := by decide +kernel
theorem dM_tokenAt_3 : decode mM_tokenAt.2.1 3 = .ok (.iload 4, 2) := by decide +kernel
theorem dM_tokenAt_5 : decode mM_tokenAt.2.1 5 = .ok (.aload_n 0, 1) := by decide +kernel
theorem dM_tokenAt_6 : decode mM_tokenAt.2.1 6 = .ok (.getfield 106, 3) := by decide +kernel
theorem dM_tokenAt_9 : decode mM_tokenAt.2.1 9 = .ok (.if_icmp .ge (45), 3) := by decide +kernel
theorem dM_tokenAt_12 : decode mM_tokenAt.2.1 12 = .ok (.aload_n 0, 1) := by decide +kernel
theorem dM_tokenAt_13 : decode mM_tokenAt.2.1 13 = .ok (.getfield 16, 3) := by decide +kernel
theorem dM_tokenAt_16 : decode mM_tokenAt.2.1 16 = .ok (.iload 4, 2) := by decide +kernel
theorem dM_tokenAt_18 : decode mM_tokenAt.2.1 18 = .ok (.iaload, 1) := by decide +kernel
theorem dM_tokenAt_19 : decode mM_tokenAt.2.1 19 = .ok (.iload_n 1, 1) := by decide +kernel
theorem dM_tokenAt_20 : decode mM_tokenAt.2.1 20 = .ok (.if_icmp .ne (28), 3) := by decide +kernel
theorem dM_tokenAt_23 : decode mM_tokenAt.2.1 23 = .ok (.aload_n 0, 1) := by decide +kernel
theorem dM_tokenAt_24 : decode mM_tokenAt.2.1 24 = .ok (.getfield 20, 3) := by decide +kernel
theorem dM_tokenAt_27 : decode mM_tokenAt.2.1 27 = .ok (.iload 4, 2) := by decide +kernel
theorem dM_tokenAt_29 : decode mM_tokenAt.2.1 29 = .ok (.iaload, 1) := by decide +kernel
theorem dM_tokenAt_30 : decode mM_tokenAt.2.1 30 = .ok (.iload_n 2, 1) := by decide +kernel
theorem dM_tokenAt_31 : decode mM_tokenAt.2.1 31 = .ok (.if_icmp .ne (17), 3) := by decide +kernel
theorem dM_tokenAt_34 : decode mM_tokenAt.2.1 34 = .ok (.aload_n 0, 1) := by decide +kernel
theorem dM_tokenAt_35 : decode mM_tokenAt.2.1 35 = .ok (.getfield 23, 3) := by decide +kernel
theorem dM_tokenAt_38 : decode mM_tokenAt.2.1 38 = .ok (.iload 4, 2) := by decide +kernel
theorem dM_tokenAt_40 : decode mM_tokenAt.2.1 40 = .ok (.iaload, 1) := by decide +kernel
theorem dM_tokenAt_41 : decode mM_tokenAt.2.1 41 = .ok (.iload_n 3, 1) := by decide +kernel
theorem dM_tokenAt_42 : decode mM_tokenAt.2.1 42 = .ok (.if_icmp .ne (6), 3) := by decide +kernel
theorem dM_tokenAt_45 : decode mM_tokenAt.2.1 45 = .ok (.iload 4, 2) := by decide +kernel
theorem dM_tokenAt_47 : decode mM_tokenAt.2.1 47 = .ok (.ireturn, 1) := by decide +kernel
theorem dM_tokenAt_48 : decode mM_tokenAt.2.1 48 = .ok (.iinc 4 (1), 3) := by decide +kernel
theorem dM_tokenAt_51 : decode mM_tokenAt.2.1 51 = .ok (.goto (-48), 3) := by decide +kernel
theorem dM_tokenAt_54 : decode mM_tokenAt.2.1 54 = .ok (.iconst (-1), 1) := by decide +kernel
theorem dM_tokenAt_55 : decode mM_tokenAt.2.1 55 = .ok (.ireturn, 1) := by decide +kernel
theorem dM_compareTokens_0 : decode mM_compareTokens.2.1 0 = .ok (.iconst 0, 1) := by decide +kernel
theorem dM_compareTokens_1 : decode mM_compareTokens.2.1 1 = .ok (.istore 4, 2) := by decide +kernel
theorem dM_compareTokens_3 : decode mM_compareTokens.2.1 3 = .ok (.iconst 0, 1) := by decide +kernel
theorem dM_compareTokens_4 : decode mM_compareTokens.2.1 4 = .ok (.istore 5, 2) := by decide +kernel
theorem dM_compareTokens_6 : decode mM_compareTokens.2.1 6 = .ok (.iload 5, 2) := by decide +kernel
theorem dM_compareTokens_8 : decode mM_compareTokens.2.1 8 = .ok (.aload_n 0, 1) := by decide +kernel
theorem dM_compareTokens_9 : decode mM_compareTokens.2.1 9 = .ok (.getfield 229, 3) := by decide +kernel
theorem dM_compareTokens_12 : decode mM_compareTokens.2.1 12 = .ok (.if_icmp .ge (143), 3) := by decide +kernel
theorem dM_compareTokens_15 : decode mM_compareTokens.2.1 15 = .ok (.aload_n 0, 1) := by decide +kernel
theorem dM_compareTokens_16 : decode mM_compareTokens.2.1 16 = .ok (.getfield 26, 3) := by decide +kernel
theorem dM_compareTokens_19 : decode mM_compareTokens.2.1 19 = .ok (.iload 5, 2) := by decide +kernel
theorem dM_compareTokens_21 : decode mM_compareTokens.2.1 21 = .ok (.iaload, 1) := by decide +kernel
theorem dM_compareTokens_22 : decode mM_compareTokens.2.1 22 = .ok (.aload_n 0, 1) := by decide +kernel
theorem dM_compareTokens_23 : decode mM_compareTokens.2.1 23 = .ok (.getfield 29, 3) := by decide +kernel
theorem dM_compareTokens_26 : decode mM_compareTokens.2.1 26 = .ok (.iload 5, 2) := by decide +kernel
theorem dM_compareTokens_28 : decode mM_compareTokens.2.1 28 = .ok (.iaload, 1) := by decide +kernel
theorem dM_compareTokens_29 : decode mM_compareTokens.2.1 29 = .ok (.iadd, 1) := by decide +kernel
theorem dM_compareTokens_30 : decode mM_compareTokens.2.1 30 = .ok (.iload_n 1, 1) := by decide +kernel
theorem dM_compareTokens_31 : decode mM_compareTokens.2.1 31 = .ok (.if_icmp .gt (7), 3) := by decide +kernel
theorem dM_compareTokens_34 : decode mM_compareTokens.2.1 34 = .ok (.iconst 1, 1) := by decide +kernel
theorem dM_compareTokens_35 : decode mM_compareTokens.2.1 35 = .ok (.goto (4), 3) := by decide +kernel
theorem dM_compareTokens_38 : decode mM_compareTokens.2.1 38 = .ok (.iconst 0, 1) := by decide +kernel
theorem dM_compareTokens_39 : decode mM_compareTokens.2.1 39 = .ok (.istore 6, 2) := by decide +kernel
theorem dM_compareTokens_41 : decode mM_compareTokens.2.1 41 = .ok (.aload_n 0, 1) := by decide +kernel
theorem dM_compareTokens_42 : decode mM_compareTokens.2.1 42 = .ok (.getfield 26, 3) := by decide +kernel
theorem dM_compareTokens_45 : decode mM_compareTokens.2.1 45 = .ok (.iload 5, 2) := by decide +kernel
theorem dM_compareTokens_47 : decode mM_compareTokens.2.1 47 = .ok (.iaload, 1) := by decide +kernel
theorem dM_compareTokens_48 : decode mM_compareTokens.2.1 48 = .ok (.iload_n 1, 1) := by decide +kernel
theorem dM_compareTokens_49 : decode mM_compareTokens.2.1 49 = .ok (.iload_n 2, 1) := by decide +kernel
theorem dM_compareTokens_50 : decode mM_compareTokens.2.1 50 = .ok (.iadd, 1) := by decide +kernel
theorem dM_compareTokens_51 : decode mM_compareTokens.2.1 51 = .ok (.if_icmp .lt (7), 3) := by decide +kernel
theorem dM_compareTokens_54 : decode mM_compareTokens.2.1 54 = .ok (.iconst 1, 1) := by decide +kernel
theorem dM_compareTokens_55 : decode mM_compareTokens.2.1 55 = .ok (.goto (4), 3) := by decide +kernel
theorem dM_compareTokens_58 : decode mM_compareTokens.2.1 58 = .ok (.iconst 0, 1) := by decide +kernel
theorem dM_compareTokens_59 : decode mM_compareTokens.2.1 59 = .ok (.istore 7, 2) := by decide +kernel
theorem dM_compareTokens_61 : decode mM_compareTokens.2.1 61 = .ok (.iload 6, 2) := by decide +kernel
theorem dM_compareTokens_63 : decode mM_compareTokens.2.1 63 = .ok (.ifCond .eq (13), 3) := by decide +kernel
theorem dM_compareTokens_66 : decode mM_compareTokens.2.1 66 = .ok (.aload_n 0, 1) := by decide +kernel
theorem dM_compareTokens_67 : decode mM_compareTokens.2.1 67 = .ok (.getfield 26, 3) := by decide +kernel
theorem dM_compareTokens_70 : decode mM_compareTokens.2.1 70 = .ok (.iload 5, 2) := by decide +kernel
theorem dM_compareTokens_72 : decode mM_compareTokens.2.1 72 = .ok (.iaload, 1) := by decide +kernel
theorem dM_compareTokens_73 : decode mM_compareTokens.2.1 73 = .ok (.goto (12), 3) := by decide +kernel
theorem dM_compareTokens_76 : decode mM_compareTokens.2.1 76 = .ok (.aload_n 0, 1) := by decide +kernel
theorem dM_compareTokens_77 : decode mM_compareTokens.2.1 77 = .ok (.getfield 26, 3) := by decide +kernel
theorem dM_compareTokens_80 : decode mM_compareTokens.2.1 80 = .ok (.iload 5, 2) := by decide +kernel
theorem dM_compareTokens_82 : decode mM_compareTokens.2.1 82 = .ok (.iaload, 1) := by decide +kernel
theorem dM_compareTokens_83 : decode mM_compareTokens.2.1 83 = .ok (.iload_n 3, 1) := by decide +kernel
theorem dM_compareTokens_84 : decode mM_compareTokens.2.1 84 = .ok (.iadd, 1) := by decide +kernel
theorem dM_compareTokens_85 : decode mM_compareTokens.2.1 85 = .ok (.istore 8, 2) := by decide +kernel
theorem dM_compareTokens_87 : decode mM_compareTokens.2.1 87 = .ok (.aload_n 0, 1) := by decide +kernel
theorem dM_compareTokens_88 : decode mM_compareTokens.2.1 88 = .ok (.getfield 35, 3) := by decide +kernel
theorem dM_compareTokens_91 : decode mM_compareTokens.2.1 91 = .ok (.iload 5, 2) := by decide +kernel
theorem dM_compareTokens_93 : decode mM_compareTokens.2.1 93 = .ok (.iload 6, 2) := by decide +kernel
theorem dM_compareTokens_95 : decode mM_compareTokens.2.1 95 = .ok (.ifCond .ne (8), 3) := by decide +kernel
theorem dM_compareTokens_98 : decode mM_compareTokens.2.1 98 = .ok (.iload 7, 2) := by decide +kernel
theorem dM_compareTokens_100 : decode mM_compareTokens.2.1 100 = .ok (.ifCond .eq (26), 3) := by decide +kernel
theorem dM_compareTokens_103 : decode mM_compareTokens.2.1 103 = .ok (.aload_n 0, 1) := by decide +kernel
theorem dM_compareTokens_104 : decode mM_compareTokens.2.1 104 = .ok (.iload 8, 2) := by decide +kernel
theorem dM_compareTokens_106 : decode mM_compareTokens.2.1 106 = .ok (.aload_n 0, 1) := by decide +kernel
theorem dM_compareTokens_107 : decode mM_compareTokens.2.1 107 = .ok (.getfield 29, 3) := by decide +kernel
theorem dM_compareTokens_110 : decode mM_compareTokens.2.1 110 = .ok (.iload 5, 2) := by decide +kernel
theorem dM_compareTokens_112 : decode mM_compareTokens.2.1 112 = .ok (.iaload, 1) := by decide +kernel
theorem dM_compareTokens_113 : decode mM_compareTokens.2.1 113 = .ok (.aload_n 0, 1) := by decide +kernel
theorem dM_compareTokens_114 : decode mM_compareTokens.2.1 114 = .ok (.getfield 32, 3) := by decide +kernel
theorem dM_compareTokens_117 : decode mM_compareTokens.2.1 117 = .ok (.iload 5, 2) := by decide +kernel
theorem dM_compareTokens_119 : decode mM_compareTokens.2.1 119 = .ok (.iaload, 1) := by decide +kernel
theorem dM_compareTokens_120 : decode mM_compareTokens.2.1 120 = .ok (.invokevirtual 235, 3) := by decide +kernel
theorem dM_compareTokens_123 : decode mM_compareTokens.2.1 123 = .ok (.goto (4), 3) := by decide +kernel
theorem dM_compareTokens_126 : decode mM_compareTokens.2.1 126 = .ok (.iconst (-1), 1) := by decide +kernel
theorem dM_compareTokens_127 : decode mM_compareTokens.2.1 127 = .ok (.iastore, 1) := by decide +kernel
theorem dM_compareTokens_128 : decode mM_compareTokens.2.1 128 = .ok (.aload_n 0, 1) := by decide +kernel
theorem dM_compareTokens_129 : decode mM_compareTokens.2.1 129 = .ok (.getfield 35, 3) := by decide +kernel
theorem dM_compareTokens_132 : decode mM_compareTokens.2.1 132 = .ok (.iload 5, 2) := by decide +kernel
theorem dM_compareTokens_134 : decode mM_compareTokens.2.1 134 = .ok (.iaload, 1) := by decide +kernel
theorem dM_compareTokens_135 : decode mM_compareTokens.2.1 135 = .ok (.ifCond .lt (10), 3) := by decide +kernel
theorem dM_compareTokens_138 : decode mM_compareTokens.2.1 138 = .ok (.iload 4, 2) := by decide +kernel
theorem dM_compareTokens_140 : decode mM_compareTokens.2.1 140 = .ok (.iconst 1, 1) := by decide +kernel
theorem dM_compareTokens_141 : decode mM_compareTokens.2.1 141 = .ok (.iadd, 1) := by decide +kernel
theorem dM_compareTokens_142 : decode mM_compareTokens.2.1 142 = .ok (.goto (5), 3) := by decide +kernel
theorem dM_compareTokens_145 : decode mM_compareTokens.2.1 145 = .ok (.iload 4, 2) := by decide +kernel
theorem dM_compareTokens_147 : decode mM_compareTokens.2.1 147 = .ok (.istore 4, 2) := by decide +kernel
theorem dM_compareTokens_149 : decode mM_compareTokens.2.1 149 = .ok (.iinc 5 (1), 3) := by decide +kernel
theorem dM_compareTokens_152 : decode mM_compareTokens.2.1 152 = .ok (.goto (-146), 3) := by decide +kernel
theorem dM_compareTokens_155 : decode mM_compareTokens.2.1 155 = .ok (.iload 4, 2) := by decide +kernel
theorem dM_compareTokens_157 : decode mM_compareTokens.2.1 157 = .ok (.ireturn, 1) := by decide +kernel
theorem dM_oldOf_0 : decode mM_oldOf.2.1 0 = .ok (.iconst 0, 1) := by decide +kernel
theorem dM_oldOf_1 : decode mM_oldOf.2.1 1 = .ok (.istore_n 2, 1) := by decide +kernel
theorem dM_oldOf_2 : decode mM_oldOf.2.1 2 = .ok (.iload_n 2, 1) := by decide +kernel
theorem dM_oldOf_3 : decode mM_oldOf.2.1 3 = .ok (.aload_n 0, 1) := by decide +kernel
theorem dM_oldOf_4 : decode mM_oldOf.2.1 4 = .ok (.getfield 232, 3) := by decide +kernel
theorem dM_oldOf_7 : decode mM_oldOf.2.1 7 = .ok (.if_icmp .ge (111), 3) := by decide +kernel
theorem dM_oldOf_10 : decode mM_oldOf.2.1 10 = .ok (.aload_n 0, 1) := by decide +kernel
theorem dM_oldOf_11 : decode mM_oldOf.2.1 11 = .ok (.getfield 63, 3) := by decide +kernel
theorem dM_oldOf_14 : decode mM_oldOf.2.1 14 = .ok (.iload_n 2, 1) := by decide +kernel
theorem dM_oldOf_15 : decode mM_oldOf.2.1 15 = .ok (.iaload, 1) := by decide +kernel
theorem dM_oldOf_16 : decode mM_oldOf.2.1 16 = .ok (.aload_n 0, 1) := by decide +kernel
theorem dM_oldOf_17 : decode mM_oldOf.2.1 17 = .ok (.getfield 60, 3) := by decide +kernel
theorem dM_oldOf_20 : decode mM_oldOf.2.1 20 = .ok (.iload_n 2, 1) := by decide +kernel
theorem dM_oldOf_21 : decode mM_oldOf.2.1 21 = .ok (.iaload, 1) := by decide +kernel
theorem dM_oldOf_22 : decode mM_oldOf.2.1 22 = .ok (.isub, 1) := by decide +kernel
theorem dM_oldOf_23 : decode mM_oldOf.2.1 23 = .ok (.aload_n 0, 1) := by decide +kernel
theorem dM_oldOf_24 : decode mM_oldOf.2.1 24 = .ok (.getfield 41, 3) := by decide +kernel
theorem dM_oldOf_27 : decode mM_oldOf.2.1 27 = .ok (.iload_n 1, 1) := by decide +kernel
theorem dM_oldOf_28 : decode mM_oldOf.2.1 28 = .ok (.iaload, 1) := by decide +kernel
theorem dM_oldOf_29 : decode mM_oldOf.2.1 29 = .ok (.aload_n 0, 1) := by decide +kernel
theorem dM_oldOf_30 : decode mM_oldOf.2.1 30 = .ok (.getfield 38, 3) := by decide +kernel
theorem dM_oldOf_33 : decode mM_oldOf.2.1 33 = .ok (.iload_n 1, 1) := by decide +kernel
theorem dM_oldOf_34 : decode mM_oldOf.2.1 34 = .ok (.iaload, 1) := by decide +kernel
theorem dM_oldOf_35 : decode mM_oldOf.2.1 35 = .ok (.isub, 1) := by decide +kernel
theorem dM_oldOf_36 : decode mM_oldOf.2.1 36 = .ok (.if_icmp .ne (7), 3) := by decide +kernel
theorem dM_oldOf_39 : decode mM_oldOf.2.1 39 = .ok (.iconst 1, 1) := by decide +kernel
theorem dM_oldOf_40 : decode mM_oldOf.2.1 40 = .ok (.goto (4), 3) := by decide +kernel
theorem dM_oldOf_43 : decode mM_oldOf.2.1 43 = .ok (.iconst 0, 1) := by decide +kernel
theorem dM_oldOf_44 : decode mM_oldOf.2.1 44 = .ok (.istore_n 3, 1) := by decide +kernel
theorem dM_oldOf_45 : decode mM_oldOf.2.1 45 = .ok (.aload_n 0, 1) := by decide +kernel
theorem dM_oldOf_46 : decode mM_oldOf.2.1 46 = .ok (.getfield 60, 3) := by decide +kernel
theorem dM_oldOf_49 : decode mM_oldOf.2.1 49 = .ok (.iload_n 2, 1) := by decide +kernel
theorem dM_oldOf_50 : decode mM_oldOf.2.1 50 = .ok (.iaload, 1) := by decide +kernel
theorem dM_oldOf_51 : decode mM_oldOf.2.1 51 = .ok (.istore 4, 2) := by decide +kernel
theorem dM_oldOf_53 : decode mM_oldOf.2.1 53 = .ok (.iload 4, 2) := by decide +kernel
theorem dM_oldOf_55 : decode mM_oldOf.2.1 55 = .ok (.aload_n 0, 1) := by decide +kernel
theorem dM_oldOf_56 : decode mM_oldOf.2.1 56 = .ok (.getfield 63, 3) := by decide +kernel
theorem dM_oldOf_59 : decode mM_oldOf.2.1 59 = .ok (.iload_n 2, 1) := by decide +kernel
theorem dM_oldOf_60 : decode mM_oldOf.2.1 60 = .ok (.iaload, 1) := by decide +kernel
theorem dM_oldOf_61 : decode mM_oldOf.2.1 61 = .ok (.if_icmp .gt (45), 3) := by decide +kernel
theorem dM_oldOf_64 : decode mM_oldOf.2.1 64 = .ok (.iload_n 3, 1) := by decide +kernel
theorem dM_oldOf_65 : decode mM_oldOf.2.1 65 = .ok (.ifCond .eq (41), 3) := by decide +kernel
theorem dM_oldOf_68 : decode mM_oldOf.2.1 68 = .ok (.aload_n 0, 1) := by decide +kernel
theorem dM_oldOf_69 : decode mM_oldOf.2.1 69 = .ok (.getfield 35, 3) := by decide +kernel
theorem dM_oldOf_72 : decode mM_oldOf.2.1 72 = .ok (.iload 4, 2) := by decide +kernel
theorem dM_oldOf_74 : decode mM_oldOf.2.1 74 = .ok (.iaload, 1) := by decide +kernel
theorem dM_oldOf_75 : decode mM_oldOf.2.1 75 = .ok (.aload_n 0, 1) := by decide +kernel
theorem dM_oldOf_76 : decode mM_oldOf.2.1 76 = .ok (.getfield 38, 3) := by decide +kernel
theorem dM_oldOf_79 : decode mM_oldOf.2.1 79 = .ok (.iload_n 1, 1) := by decide +kernel
theorem dM_oldOf_80 : decode mM_oldOf.2.1 80 = .ok (.iaload, 1) := by decide +kernel
theorem dM_oldOf_81 : decode mM_oldOf.2.1 81 = .ok (.iload 4, 2) := by decide +kernel
theorem dM_oldOf_83 : decode mM_oldOf.2.1 83 = .ok (.iadd, 1) := by decide +kernel
theorem dM_oldOf_84 : decode mM_oldOf.2.1 84 = .ok (.aload_n 0, 1) := by decide +kernel
theorem dM_oldOf_85 : decode mM_oldOf.2.1 85 = .ok (.getfield 60, 3) := by decide +kernel
theorem dM_oldOf_88 : decode mM_oldOf.2.1 88 = .ok (.iload_n 2, 1) := by decide +kernel
theorem dM_oldOf_89 : decode mM_oldOf.2.1 89 = .ok (.iaload, 1) := by decide +kernel
theorem dM_oldOf_90 : decode mM_oldOf.2.1 90 = .ok (.isub, 1) := by decide +kernel
theorem dM_oldOf_91 : decode mM_oldOf.2.1 91 = .ok (.if_icmp .ne (7), 3) := by decide +kernel
theorem dM_oldOf_94 : decode mM_oldOf.2.1 94 = .ok (.iconst 1, 1) := by decide +kernel
theorem dM_oldOf_95 : decode mM_oldOf.2.1 95 = .ok (.goto (4), 3) := by decide +kernel
theorem dM_oldOf_98 : decode mM_oldOf.2.1 98 = .ok (.iconst 0, 1) := by decide +kernel
theorem dM_oldOf_99 : decode mM_oldOf.2.1 99 = .ok (.istore_n 3, 1) := by decide +kernel
theorem dM_oldOf_100 : decode mM_oldOf.2.1 100 = .ok (.iinc 4 (1), 3) := by decide +kernel
theorem dM_oldOf_103 : decode mM_oldOf.2.1 103 = .ok (.goto (-50), 3) := by decide +kernel
theorem dM_oldOf_106 : decode mM_oldOf.2.1 106 = .ok (.iload_n 3, 1) := by decide +kernel
theorem dM_oldOf_107 : decode mM_oldOf.2.1 107 = .ok (.ifCond .eq (5), 3) := by decide +kernel
theorem dM_oldOf_110 : decode mM_oldOf.2.1 110 = .ok (.iload_n 2, 1) := by decide +kernel
theorem dM_oldOf_111 : decode mM_oldOf.2.1 111 = .ok (.ireturn, 1) := by decide +kernel
theorem dM_oldOf_112 : decode mM_oldOf.2.1 112 = .ok (.iinc 2 (1), 3) := by decide +kernel
theorem dM_oldOf_115 : decode mM_oldOf.2.1 115 = .ok (.goto (-113), 3) := by decide +kernel
theorem dM_oldOf_118 : decode mM_oldOf.2.1 118 = .ok (.iconst (-1), 1) := by decide +kernel
theorem dM_oldOf_119 : decode mM_oldOf.2.1 119 = .ok (.ireturn, 1) := by decide +kernel
theorem dM_giveNumbers_0 : decode mM_giveNumbers.2.1 0 = .ok (.aload_n 0, 1) := by decide +kernel
theorem dM_giveNumbers_1 : decode mM_giveNumbers.2.1 1 = .ok (.iconst 0, 1) := by decide +kernel
theorem dM_giveNumbers_2 : decode mM_giveNumbers.2.1 2 = .ok (.putfield 238, 3) := by decide +kernel
theorem dM_giveNumbers_5 : decode mM_giveNumbers.2.1 5 = .ok (.iconst 0, 1) := by decide +kernel
theorem dM_giveNumbers_6 : decode mM_giveNumbers.2.1 6 = .ok (.istore_n 1, 1) := by decide +kernel
theorem dM_giveNumbers_7 : decode mM_giveNumbers.2.1 7 = .ok (.iload_n 1, 1) := by decide +kernel
theorem dM_giveNumbers_8 : decode mM_giveNumbers.2.1 8 = .ok (.aload_n 0, 1) := by decide +kernel
theorem dM_giveNumbers_9 : decode mM_giveNumbers.2.1 9 = .ok (.getfield 146, 3) := by decide +kernel
theorem dM_giveNumbers_12 : decode mM_giveNumbers.2.1 12 = .ok (.if_icmp .ge (64), 3) := by decide +kernel
end
section
theorem dM_giveNumbers_15 : decode mM_giveNumbers.2.1 15 = .ok (.aload_n 0, 1) := by decide +kernel
theorem dM_giveNumbers_16 : decode mM_giveNumbers.2.1 16 = .ok (.iload_n 1, 1) := by decide +kernel
theorem dM_giveNumbers_17 : decode mM_giveNumbers.2.1 17 = .ok (.invokevirtual 241, 3) := by decide +kernel
theorem dM_giveNumbers_20 : decode mM_giveNumbers.2.1 20 = .ok (.istore_n 2, 1) := by decide +kernel
theorem dM_giveNumbers_21 : decode mM_giveNumbers.2.1 21 = .ok (.iload_n 2, 1) := by decide +kernel
theorem dM_giveNumbers_22 : decode mM_giveNumbers.2.1 22 = .ok (.ifCond .lt (28), 3) := by decide +kernel
theorem dM_giveNumbers_25 : decode mM_giveNumbers.2.1 25 = .ok (.aload_n 0, 1) := by decide +kernel
theorem dM_giveNumbers_26 : decode mM_giveNumbers.2.1 26 = .ok (.getfield 54, 3) := by decide +kernel
theorem dM_giveNumbers_29 : decode mM_giveNumbers.2.1 29 = .ok (.iload_n 1, 1) := by decide +kernel
theorem dM_giveNumbers_30 : decode mM_giveNumbers.2.1 30 = .ok (.aload_n 0, 1) := by decide +kernel
theorem dM_giveNumbers_31 : decode mM_giveNumbers.2.1 31 = .ok (.getfield 66, 3) := by decide +kernel
theorem dM_giveNumbers_34 : decode mM_giveNumbers.2.1 34 = .ok (.iload_n 2, 1) := by decide +kernel
theorem dM_giveNumbers_35 : decode mM_giveNumbers.2.1 35 = .ok (.iaload, 1) := by decide +kernel
theorem dM_giveNumbers_36 : decode mM_giveNumbers.2.1 36 = .ok (.iastore, 1) := by decide +kernel
theorem dM_giveNumbers_37 : decode mM_giveNumbers.2.1 37 = .ok (.aload_n 0, 1) := by decide +kernel
theorem dM_giveNumbers_38 : decode mM_giveNumbers.2.1 38 = .ok (.dup, 1) := by decide +kernel
theorem dM_giveNumbers_39 : decode mM_giveNumbers.2.1 39 = .ok (.getfield 238, 3) := by decide +kernel
theorem dM_giveNumbers_42 : decode mM_giveNumbers.2.1 42 = .ok (.iconst 1, 1) := by decide +kernel
theorem dM_giveNumbers_43 : decode mM_giveNumbers.2.1 43 = .ok (.iadd, 1) := by decide +kernel
theorem dM_giveNumbers_44 : decode mM_giveNumbers.2.1 44 = .ok (.putfield 238, 3) := by decide +kernel
theorem dM_giveNumbers_47 : decode mM_giveNumbers.2.1 47 = .ok (.goto (23), 3) := by decide +kernel
theorem dM_giveNumbers_50 : decode mM_giveNumbers.2.1 50 = .ok (.aload_n 0, 1) := by decide +kernel
theorem dM_giveNumbers_51 : decode mM_giveNumbers.2.1 51 = .ok (.getfield 54, 3) := by decide +kernel
theorem dM_giveNumbers_54 : decode mM_giveNumbers.2.1 54 = .ok (.iload_n 1, 1) := by decide +kernel
theorem dM_giveNumbers_55 : decode mM_giveNumbers.2.1 55 = .ok (.aload_n 0, 1) := by decide +kernel
theorem dM_giveNumbers_56 : decode mM_giveNumbers.2.1 56 = .ok (.getfield 244, 3) := by decide +kernel
theorem dM_giveNumbers_59 : decode mM_giveNumbers.2.1 59 = .ok (.iastore, 1) := by decide +kernel
theorem dM_giveNumbers_60 : decode mM_giveNumbers.2.1 60 = .ok (.aload_n 0, 1) := by decide +kernel
theorem dM_giveNumbers_61 : decode mM_giveNumbers.2.1 61 = .ok (.dup, 1) := by decide +kernel
theorem dM_giveNumbers_62 : decode mM_giveNumbers.2.1 62 = .ok (.getfield 244, 3) := by decide +kernel
theorem dM_giveNumbers_65 : decode mM_giveNumbers.2.1 65 = .ok (.iconst 1, 1) := by decide +kernel
theorem dM_giveNumbers_66 : decode mM_giveNumbers.2.1 66 = .ok (.iadd, 1) := by decide +kernel
theorem dM_giveNumbers_67 : decode mM_giveNumbers.2.1 67 = .ok (.putfield 244, 3) := by decide +kernel
theorem dM_giveNumbers_70 : decode mM_giveNumbers.2.1 70 = .ok (.iinc 1 (1), 3) := by decide +kernel
theorem dM_giveNumbers_73 : decode mM_giveNumbers.2.1 73 = .ok (.goto (-66), 3) := by decide +kernel
theorem dM_giveNumbers_76 : decode mM_giveNumbers.2.1 76 = .ok (.return_, 1) := by decide +kernel
theorem dM_edit_0 : decode mM_edit.2.1 0 = .ok (.aload_n 0, 1) := by decide +kernel
theorem dM_edit_1 : decode mM_edit.2.1 1 = .ok (.iload_n 1, 1) := by decide +kernel
theorem dM_edit_2 : decode mM_edit.2.1 2 = .ok (.ifCond .lt (25), 3) := by decide +kernel
theorem dM_edit_5 : decode mM_edit.2.1 5 = .ok (.iload_n 1, 1) := by decide +kernel
theorem dM_edit_6 : decode mM_edit.2.1 6 = .ok (.aload_n 0, 1) := by decide +kernel
theorem dM_edit_7 : decode mM_edit.2.1 7 = .ok (.getfield 103, 3) := by decide +kernel
theorem dM_edit_10 : decode mM_edit.2.1 10 = .ok (.if_icmp .gt (17), 3) := by decide +kernel
theorem dM_edit_13 : decode mM_edit.2.1 13 = .ok (.iload_n 2, 1) := by decide +kernel
theorem dM_edit_14 : decode mM_edit.2.1 14 = .ok (.ifCond .lt (13), 3) := by decide +kernel
theorem dM_edit_17 : decode mM_edit.2.1 17 = .ok (.iload_n 2, 1) := by decide +kernel
theorem dM_edit_18 : decode mM_edit.2.1 18 = .ok (.aload_n 0, 1) := by decide +kernel
theorem dM_edit_19 : decode mM_edit.2.1 19 = .ok (.getfield 103, 3) := by decide +kernel
theorem dM_edit_22 : decode mM_edit.2.1 22 = .ok (.iload_n 1, 1) := by decide +kernel
theorem dM_edit_23 : decode mM_edit.2.1 23 = .ok (.isub, 1) := by decide +kernel
theorem dM_edit_24 : decode mM_edit.2.1 24 = .ok (.if_icmp .le (7), 3) := by decide +kernel
theorem dM_edit_27 : decode mM_edit.2.1 27 = .ok (.iconst 1, 1) := by decide +kernel
theorem dM_edit_28 : decode mM_edit.2.1 28 = .ok (.goto (25), 3) := by decide +kernel
theorem dM_edit_31 : decode mM_edit.2.1 31 = .ok (.aload_n 0, 1) := by decide +kernel
theorem dM_edit_32 : decode mM_edit.2.1 32 = .ok (.getfield 103, 3) := by decide +kernel
theorem dM_edit_35 : decode mM_edit.2.1 35 = .ok (.iload_n 2, 1) := by decide +kernel
theorem dM_edit_36 : decode mM_edit.2.1 36 = .ok (.isub, 1) := by decide +kernel
theorem dM_edit_37 : decode mM_edit.2.1 37 = .ok (.aload_n 0, 1) := by decide +kernel
theorem dM_edit_38 : decode mM_edit.2.1 38 = .ok (.getfield 100, 3) := by decide +kernel
theorem dM_edit_41 : decode mM_edit.2.1 41 = .ok (.iadd, 1) := by decide +kernel
theorem dM_edit_42 : decode mM_edit.2.1 42 = .ok (.sipush (160), 3) := by decide +kernel
theorem dM_edit_45 : decode mM_edit.2.1 45 = .ok (.if_icmp .le (7), 3) := by decide +kernel
theorem dM_edit_48 : decode mM_edit.2.1 48 = .ok (.iconst 2, 1) := by decide +kernel
theorem dM_edit_49 : decode mM_edit.2.1 49 = .ok (.goto (4), 3) := by decide +kernel
theorem dM_edit_52 : decode mM_edit.2.1 52 = .ok (.iconst 0, 1) := by decide +kernel
theorem dM_edit_53 : decode mM_edit.2.1 53 = .ok (.putfield 97, 3) := by decide +kernel
theorem dM_edit_56 : decode mM_edit.2.1 56 = .ok (.aload_n 0, 1) := by decide +kernel
theorem dM_edit_57 : decode mM_edit.2.1 57 = .ok (.getfield 97, 3) := by decide +kernel
theorem dM_edit_60 : decode mM_edit.2.1 60 = .ok (.ifCond .le (5), 3) := by decide +kernel
theorem dM_edit_63 : decode mM_edit.2.1 63 = .ok (.iconst 0, 1) := by decide +kernel
theorem dM_edit_64 : decode mM_edit.2.1 64 = .ok (.ireturn, 1) := by decide +kernel
theorem dM_edit_65 : decode mM_edit.2.1 65 = .ok (.aload_n 0, 1) := by decide +kernel
theorem dM_edit_66 : decode mM_edit.2.1 66 = .ok (.getfield 100, 3) := by decide +kernel
theorem dM_edit_69 : decode mM_edit.2.1 69 = .ok (.iload_n 2, 1) := by decide +kernel
theorem dM_edit_70 : decode mM_edit.2.1 70 = .ok (.isub, 1) := by decide +kernel
theorem dM_edit_71 : decode mM_edit.2.1 71 = .ok (.istore_n 3, 1) := by decide +kernel
theorem dM_edit_72 : decode mM_edit.2.1 72 = .ok (.aload_n 0, 1) := by decide +kernel
theorem dM_edit_73 : decode mM_edit.2.1 73 = .ok (.invokevirtual 247, 3) := by decide +kernel
theorem dM_edit_76 : decode mM_edit.2.1 76 = .ok (.aload_n 0, 1) := by decide +kernel
theorem dM_edit_77 : decode mM_edit.2.1 77 = .ok (.iload_n 1, 1) := by decide +kernel
theorem dM_edit_78 : decode mM_edit.2.1 78 = .ok (.iload_n 2, 1) := by decide +kernel
theorem dM_edit_79 : decode mM_edit.2.1 79 = .ok (.invokevirtual 250, 3) := by decide +kernel
theorem dM_edit_82 : decode mM_edit.2.1 82 = .ok (.aload_n 0, 1) := by decide +kernel
theorem dM_edit_83 : decode mM_edit.2.1 83 = .ok (.invokevirtual 253, 3) := by decide +kernel
theorem dM_edit_86 : decode mM_edit.2.1 86 = .ok (.aload_n 0, 1) := by decide +kernel
theorem dM_edit_87 : decode mM_edit.2.1 87 = .ok (.invokevirtual 256, 3) := by decide +kernel
theorem dM_edit_90 : decode mM_edit.2.1 90 = .ok (.aload_n 0, 1) := by decide +kernel
theorem dM_edit_91 : decode mM_edit.2.1 91 = .ok (.iload_n 1, 1) := by decide +kernel
theorem dM_edit_92 : decode mM_edit.2.1 92 = .ok (.iload_n 2, 1) := by decide +kernel
theorem dM_edit_93 : decode mM_edit.2.1 93 = .ok (.iload_n 3, 1) := by decide +kernel
theorem dM_edit_94 : decode mM_edit.2.1 94 = .ok (.invokevirtual 259, 3) := by decide +kernel
theorem dM_edit_97 : decode mM_edit.2.1 97 = .ok (.istore 4, 2) := by decide +kernel
theorem dM_edit_99 : decode mM_edit.2.1 99 = .ok (.aload_n 0, 1) := by decide +kernel
theorem dM_edit_100 : decode mM_edit.2.1 100 = .ok (.invokevirtual 262, 3) := by decide +kernel
theorem dM_edit_103 : decode mM_edit.2.1 103 = .ok (.aload_n 0, 1) := by decide +kernel
theorem dM_edit_104 : decode mM_edit.2.1 104 = .ok (.invokevirtual 265, 3) := by decide +kernel
theorem dM_edit_107 : decode mM_edit.2.1 107 = .ok (.aload_n 0, 1) := by decide +kernel
theorem dM_edit_108 : decode mM_edit.2.1 108 = .ok (.getfield 106, 3) := by decide +kernel
theorem dM_edit_111 : decode mM_edit.2.1 111 = .ok (.iload 4, 2) := by decide +kernel
theorem dM_edit_113 : decode mM_edit.2.1 113 = .ok (.isub, 1) := by decide +kernel
theorem dM_edit_114 : decode mM_edit.2.1 114 = .ok (.ireturn, 1) := by decide +kernel
theorem dM_length_0 : decode mM_length.2.1 0 = .ok (.aload_n 0, 1) := by decide +kernel
theorem dM_length_1 : decode mM_length.2.1 1 = .ok (.iconst 0, 1) := by decide +kernel
theorem dM_length_2 : decode mM_length.2.1 2 = .ok (.putfield 97, 3) := by decide +kernel
theorem dM_length_5 : decode mM_length.2.1 5 = .ok (.aload_n 0, 1) := by decide +kernel
theorem dM_length_6 : decode mM_length.2.1 6 = .ok (.getfield 103, 3) := by decide +kernel
theorem dM_length_9 : decode mM_length.2.1 9 = .ok (.ireturn, 1) := by decide +kernel
theorem dM_at_0 : decode mM_at.2.1 0 = .ok (.aload_n 0, 1) := by decide +kernel
theorem dM_at_1 : decode mM_at.2.1 1 = .ok (.iconst 0, 1) := by decide +kernel
theorem dM_at_2 : decode mM_at.2.1 2 = .ok (.putfield 97, 3) := by decide +kernel
theorem dM_at_5 : decode mM_at.2.1 5 = .ok (.iload_n 1, 1) := by decide +kernel
theorem dM_at_6 : decode mM_at.2.1 6 = .ok (.ifCond .lt (20), 3) := by decide +kernel
theorem dM_at_9 : decode mM_at.2.1 9 = .ok (.iload_n 1, 1) := by decide +kernel
theorem dM_at_10 : decode mM_at.2.1 10 = .ok (.aload_n 0, 1) := by decide +kernel
theorem dM_at_11 : decode mM_at.2.1 11 = .ok (.getfield 103, 3) := by decide +kernel
theorem dM_at_14 : decode mM_at.2.1 14 = .ok (.if_icmp .ge (12), 3) := by decide +kernel
theorem dM_at_17 : decode mM_at.2.1 17 = .ok (.aload_n 0, 1) := by decide +kernel
theorem dM_at_18 : decode mM_at.2.1 18 = .ok (.getfield 7, 3) := by decide +kernel
theorem dM_at_21 : decode mM_at.2.1 21 = .ok (.iload_n 1, 1) := by decide +kernel
theorem dM_at_22 : decode mM_at.2.1 22 = .ok (.caload, 1) := by decide +kernel
theorem dM_at_23 : decode mM_at.2.1 23 = .ok (.goto (4), 3) := by decide +kernel
theorem dM_at_26 : decode mM_at.2.1 26 = .ok (.iconst 0, 1) := by decide +kernel
theorem dM_at_27 : decode mM_at.2.1 27 = .ok (.ireturn, 1) := by decide +kernel
theorem dM_tokens_0 : decode mM_tokens.2.1 0 = .ok (.aload_n 0, 1) := by decide +kernel
theorem dM_tokens_1 : decode mM_tokens.2.1 1 = .ok (.iconst 0, 1) := by decide +kernel
theorem dM_tokens_2 : decode mM_tokens.2.1 2 = .ok (.putfield 97, 3) := by decide +kernel
theorem dM_tokens_5 : decode mM_tokens.2.1 5 = .ok (.aload_n 0, 1) := by decide +kernel
theorem dM_tokens_6 : decode mM_tokens.2.1 6 = .ok (.getfield 106, 3) := by decide +kernel
theorem dM_tokens_9 : decode mM_tokens.2.1 9 = .ok (.ireturn, 1) := by decide +kernel
theorem dM_token_0 : decode mM_token.2.1 0 = .ok (.aload_n 0, 1) := by decide +kernel
theorem dM_token_1 : decode mM_token.2.1 1 = .ok (.iload_n 1, 1) := by decide +kernel
theorem dM_token_2 : decode mM_token.2.1 2 = .ok (.ifCond .lt (11), 3) := by decide +kernel
theorem dM_token_5 : decode mM_token.2.1 5 = .ok (.iload_n 1, 1) := by decide +kernel
theorem dM_token_6 : decode mM_token.2.1 6 = .ok (.aload_n 0, 1) := by decide +kernel
theorem dM_token_7 : decode mM_token.2.1 7 = .ok (.getfield 106, 3) := by decide +kernel
theorem dM_token_10 : decode mM_token.2.1 10 = .ok (.if_icmp .lt (7), 3) := by decide +kernel
theorem dM_token_13 : decode mM_token.2.1 13 = .ok (.iconst 1, 1) := by decide +kernel
theorem dM_token_14 : decode mM_token.2.1 14 = .ok (.goto (4), 3) := by decide +kernel
theorem dM_token_17 : decode mM_token.2.1 17 = .ok (.iconst 0, 1) := by decide +kernel
theorem dM_token_18 : decode mM_token.2.1 18 = .ok (.putfield 97, 3) := by decide +kernel
theorem dM_token_21 : decode mM_token.2.1 21 = .ok (.aload_n 0, 1) := by decide +kernel
theorem dM_token_22 : decode mM_token.2.1 22 = .ok (.getfield 97, 3) := by decide +kernel
theorem dM_token_25 : decode mM_token.2.1 25 = .ok (.ifCond .le (7), 3) := by decide +kernel
theorem dM_token_28 : decode mM_token.2.1 28 = .ok (.iconst 0, 1) := by decide +kernel
theorem dM_token_29 : decode mM_token.2.1 29 = .ok (.goto (30), 3) := by decide +kernel
theorem dM_token_32 : decode mM_token.2.1 32 = .ok (.aload_n 0, 1) := by decide +kernel
theorem dM_token_33 : decode mM_token.2.1 33 = .ok (.getfield 16, 3) := by decide +kernel
theorem dM_token_36 : decode mM_token.2.1 36 = .ok (.iload_n 1, 1) := by decide +kernel
theorem dM_token_37 : decode mM_token.2.1 37 = .ok (.iaload, 1) := by decide +kernel
theorem dM_token_38 : decode mM_token.2.1 38 = .ok (.sipush (2048), 3) := by decide +kernel
theorem dM_token_41 : decode mM_token.2.1 41 = .ok (.imul, 1) := by decide +kernel
theorem dM_token_42 : decode mM_token.2.1 42 = .ok (.aload_n 0, 1) := by decide +kernel
theorem dM_token_43 : decode mM_token.2.1 43 = .ok (.getfield 20, 3) := by decide +kernel
theorem dM_token_46 : decode mM_token.2.1 46 = .ok (.iload_n 1, 1) := by decide +kernel
theorem dM_token_47 : decode mM_token.2.1 47 = .ok (.iaload, 1) := by decide +kernel
theorem dM_token_48 : decode mM_token.2.1 48 = .ok (.bipush (8), 2) := by decide +kernel
theorem dM_token_50 : decode mM_token.2.1 50 = .ok (.imul, 1) := by decide +kernel
theorem dM_token_51 : decode mM_token.2.1 51 = .ok (.iadd, 1) := by decide +kernel
theorem dM_token_52 : decode mM_token.2.1 52 = .ok (.aload_n 0, 1) := by decide +kernel
theorem dM_token_53 : decode mM_token.2.1 53 = .ok (.getfield 23, 3) := by decide +kernel
theorem dM_token_56 : decode mM_token.2.1 56 = .ok (.iload_n 1, 1) := by decide +kernel
theorem dM_token_57 : decode mM_token.2.1 57 = .ok (.iaload, 1) := by decide +kernel
theorem dM_token_58 : decode mM_token.2.1 58 = .ok (.iadd, 1) := by decide +kernel
theorem dM_token_59 : decode mM_token.2.1 59 = .ok (.ireturn, 1) := by decide +kernel
theorem dM_fault_0 : decode mM_fault.2.1 0 = .ok (.aload_n 0, 1) := by decide +kernel
theorem dM_fault_1 : decode mM_fault.2.1 1 = .ok (.iconst 0, 1) := by decide +kernel
theorem dM_fault_2 : decode mM_fault.2.1 2 = .ok (.putfield 97, 3) := by decide +kernel
theorem dM_fault_5 : decode mM_fault.2.1 5 = .ok (.aload_n 0, 1) := by decide +kernel
theorem dM_fault_6 : decode mM_fault.2.1 6 = .ok (.getfield 69, 3) := by decide +kernel
theorem dM_fault_9 : decode mM_fault.2.1 9 = .ok (.ireturn, 1) := by decide +kernel
theorem dM_items_0 : decode mM_items.2.1 0 = .ok (.aload_n 0, 1) := by decide +kernel
theorem dM_items_1 : decode mM_items.2.1 1 = .ok (.iconst 0, 1) := by decide +kernel
theorem dM_items_2 : decode mM_items.2.1 2 = .ok (.putfield 97, 3) := by decide +kernel
theorem dM_items_5 : decode mM_items.2.1 5 = .ok (.aload_n 0, 1) := by decide +kernel
theorem dM_items_6 : decode mM_items.2.1 6 = .ok (.getfield 146, 3) := by decide +kernel
theorem dM_items_9 : decode mM_items.2.1 9 = .ok (.ireturn, 1) := by decide +kernel
theorem dM_kept_0 : decode mM_kept.2.1 0 = .ok (.aload_n 0, 1) := by decide +kernel
theorem dM_kept_1 : decode mM_kept.2.1 1 = .ok (.iconst 0, 1) := by decide +kernel
theorem dM_kept_2 : decode mM_kept.2.1 2 = .ok (.putfield 97, 3) := by decide +kernel
theorem dM_kept_5 : decode mM_kept.2.1 5 = .ok (.aload_n 0, 1) := by decide +kernel
theorem dM_kept_6 : decode mM_kept.2.1 6 = .ok (.getfield 238, 3) := by decide +kernel
theorem dM_kept_9 : decode mM_kept.2.1 9 = .ok (.ireturn, 1) := by decide +kernel
theorem dM_isItem_0 : decode mM_isItem.2.1 0 = .ok (.iload_n 1, 1) := by decide +kernel
theorem dM_isItem_1 : decode mM_isItem.2.1 1 = .ok (.ifCond .lt (15), 3) := by decide +kernel
theorem dM_isItem_4 : decode mM_isItem.2.1 4 = .ok (.iload_n 1, 1) := by decide +kernel
theorem dM_isItem_5 : decode mM_isItem.2.1 5 = .ok (.aload_n 0, 1) := by decide +kernel
theorem dM_isItem_6 : decode mM_isItem.2.1 6 = .ok (.getfield 146, 3) := by decide +kernel
theorem dM_isItem_9 : decode mM_isItem.2.1 9 = .ok (.if_icmp .ge (7), 3) := by decide +kernel
theorem dM_isItem_12 : decode mM_isItem.2.1 12 = .ok (.iconst 1, 1) := by decide +kernel
theorem dM_isItem_13 : decode mM_isItem.2.1 13 = .ok (.goto (4), 3) := by decide +kernel
theorem dM_isItem_16 : decode mM_isItem.2.1 16 = .ok (.iconst 0, 1) := by decide +kernel
theorem dM_isItem_17 : decode mM_isItem.2.1 17 = .ok (.ireturn, 1) := by decide +kernel
theorem dM_number_0 : decode mM_number.2.1 0 = .ok (.aload_n 0, 1) := by decide +kernel
theorem dM_number_1 : decode mM_number.2.1 1 = .ok (.iconst 0, 1) := by decide +kernel
theorem dM_number_2 : decode mM_number.2.1 2 = .ok (.putfield 97, 3) := by decide +kernel
theorem dM_number_5 : decode mM_number.2.1 5 = .ok (.aload_n 0, 1) := by decide +kernel
theorem dM_number_6 : decode mM_number.2.1 6 = .ok (.iload_n 1, 1) := by decide +kernel
theorem dM_number_7 : decode mM_number.2.1 7 = .ok (.invokevirtual 268, 3) := by decide +kernel
theorem dM_number_10 : decode mM_number.2.1 10 = .ok (.ifCond .eq (12), 3) := by decide +kernel
theorem dM_number_13 : decode mM_number.2.1 13 = .ok (.aload_n 0, 1) := by decide +kernel
theorem dM_number_14 : decode mM_number.2.1 14 = .ok (.getfield 54, 3) := by decide +kernel
theorem dM_number_17 : decode mM_number.2.1 17 = .ok (.iload_n 1, 1) := by decide +kernel
theorem dM_number_18 : decode mM_number.2.1 18 = .ok (.iaload, 1) := by decide +kernel
theorem dM_number_19 : decode mM_number.2.1 19 = .ok (.goto (4), 3) := by decide +kernel
theorem dM_number_22 : decode mM_number.2.1 22 = .ok (.iconst (-1), 1) := by decide +kernel
theorem dM_number_23 : decode mM_number.2.1 23 = .ok (.ireturn, 1) := by decide +kernel
theorem dM_which_0 : decode mM_which.2.1 0 = .ok (.aload_n 0, 1) := by decide +kernel
theorem dM_which_1 : decode mM_which.2.1 1 = .ok (.iconst 0, 1) := by decide +kernel
theorem dM_which_2 : decode mM_which.2.1 2 = .ok (.putfield 97, 3) := by decide +kernel
theorem dM_which_5 : decode mM_which.2.1 5 = .ok (.iconst (-1), 1) := by decide +kernel
theorem dM_which_6 : decode mM_which.2.1 6 = .ok (.istore_n 2, 1) := by decide +kernel
theorem dM_which_7 : decode mM_which.2.1 7 = .ok (.iconst 0, 1) := by decide +kernel
theorem dM_which_8 : decode mM_which.2.1 8 = .ok (.istore_n 3, 1) := by decide +kernel
theorem dM_which_9 : decode mM_which.2.1 9 = .ok (.iload_n 3, 1) := by decide +kernel
theorem dM_which_10 : decode mM_which.2.1 10 = .ok (.aload_n 0, 1) := by decide +kernel
theorem dM_which_11 : decode mM_which.2.1 11 = .ok (.getfield 146, 3) := by decide +kernel
theorem dM_which_14 : decode mM_which.2.1 14 = .ok (.if_icmp .ge (25), 3) := by decide +kernel
theorem dM_which_17 : decode mM_which.2.1 17 = .ok (.aload_n 0, 1) := by decide +kernel
theorem dM_which_18 : decode mM_which.2.1 18 = .ok (.getfield 54, 3) := by decide +kernel
theorem dM_which_21 : decode mM_which.2.1 21 = .ok (.iload_n 3, 1) := by decide +kernel
theorem dM_which_22 : decode mM_which.2.1 22 = .ok (.iaload, 1) := by decide +kernel
theorem dM_which_23 : decode mM_which.2.1 23 = .ok (.iload_n 1, 1) := by decide +kernel
theorem dM_which_24 : decode mM_which.2.1 24 = .ok (.if_icmp .ne (7), 3) := by decide +kernel
theorem dM_which_27 : decode mM_which.2.1 27 = .ok (.iload_n 3, 1) := by decide +kernel
theorem dM_which_28 : decode mM_which.2.1 28 = .ok (.goto (4), 3) := by decide +kernel
theorem dM_which_31 : decode mM_which.2.1 31 = .ok (.iload_n 2, 1) := by decide +kernel
theorem dM_which_32 : decode mM_which.2.1 32 = .ok (.istore_n 2, 1) := by decide +kernel
theorem dM_which_33 : decode mM_which.2.1 33 = .ok (.iinc 3 (1), 3) := by decide +kernel
theorem dM_which_36 : decode mM_which.2.1 36 = .ok (.goto (-27), 3) := by decide +kernel
theorem dM_which_39 : decode mM_which.2.1 39 = .ok (.iload_n 2, 1) := by decide +kernel
theorem dM_which_40 : decode mM_which.2.1 40 = .ok (.ireturn, 1) := by decide +kernel
theorem dM_begin_0 : decode mM_begin.2.1 0 = .ok (.aload_n 0, 1) := by decide +kernel
theorem dM_begin_1 : decode mM_begin.2.1 1 = .ok (.aload_n 0, 1) := by decide +kernel
theorem dM_begin_2 : decode mM_begin.2.1 2 = .ok (.iload_n 1, 1) := by decide +kernel
theorem dM_begin_3 : decode mM_begin.2.1 3 = .ok (.invokevirtual 268, 3) := by decide +kernel
theorem dM_begin_6 : decode mM_begin.2.1 6 = .ok (.ifCond .eq (7), 3) := by decide +kernel
theorem dM_begin_9 : decode mM_begin.2.1 9 = .ok (.iconst 0, 1) := by decide +kernel
theorem dM_begin_10 : decode mM_begin.2.1 10 = .ok (.goto (4), 3) := by decide +kernel
theorem dM_begin_13 : decode mM_begin.2.1 13 = .ok (.iconst 1, 1) := by decide +kernel
theorem dM_begin_14 : decode mM_begin.2.1 14 = .ok (.putfield 97, 3) := by decide +kernel
theorem dM_begin_17 : decode mM_begin.2.1 17 = .ok (.aload_n 0, 1) := by decide +kernel
theorem dM_begin_18 : decode mM_begin.2.1 18 = .ok (.getfield 97, 3) := by decide +kernel
theorem dM_begin_21 : decode mM_begin.2.1 21 = .ok (.ifCond .le (7), 3) := by decide +kernel
theorem dM_begin_24 : decode mM_begin.2.1 24 = .ok (.iconst 0, 1) := by decide +kernel
theorem dM_begin_25 : decode mM_begin.2.1 25 = .ok (.goto (14), 3) := by decide +kernel
theorem dM_begin_28 : decode mM_begin.2.1 28 = .ok (.aload_n 0, 1) := by decide +kernel
theorem dM_begin_29 : decode mM_begin.2.1 29 = .ok (.getfield 16, 3) := by decide +kernel
theorem dM_begin_32 : decode mM_begin.2.1 32 = .ok (.aload_n 0, 1) := by decide +kernel
theorem dM_begin_33 : decode mM_begin.2.1 33 = .ok (.getfield 38, 3) := by decide +kernel
theorem dM_begin_36 : decode mM_begin.2.1 36 = .ok (.iload_n 1, 1) := by decide +kernel
theorem dM_begin_37 : decode mM_begin.2.1 37 = .ok (.iaload, 1) := by decide +kernel
theorem dM_begin_38 : decode mM_begin.2.1 38 = .ok (.iaload, 1) := by decide +kernel
theorem dM_begin_39 : decode mM_begin.2.1 39 = .ok (.ireturn, 1) := by decide +kernel
theorem dM_end_0 : decode mM_end.2.1 0 = .ok (.aload_n 0, 1) := by decide +kernel
theorem dM_end_1 : decode mM_end.2.1 1 = .ok (.aload_n 0, 1) := by decide +kernel
theorem dM_end_2 : decode mM_end.2.1 2 = .ok (.iload_n 1, 1) := by decide +kernel
theorem dM_end_3 : decode mM_end.2.1 3 = .ok (.invokevirtual 268, 3) := by decide +kernel
theorem dM_end_6 : decode mM_end.2.1 6 = .ok (.ifCond .eq (7), 3) := by decide +kernel
theorem dM_end_9 : decode mM_end.2.1 9 = .ok (.iconst 0, 1) := by decide +kernel
theorem dM_end_10 : decode mM_end.2.1 10 = .ok (.goto (4), 3) := by decide +kernel
theorem dM_end_13 : decode mM_end.2.1 13 = .ok (.iconst 1, 1) := by decide +kernel
theorem dM_end_14 : decode mM_end.2.1 14 = .ok (.putfield 97, 3) := by decide +kernel
theorem dM_end_17 : decode mM_end.2.1 17 = .ok (.aload_n 0, 1) := by decide +kernel
theorem dM_end_18 : decode mM_end.2.1 18 = .ok (.getfield 97, 3) := by decide +kernel
theorem dM_end_21 : decode mM_end.2.1 21 = .ok (.ifCond .le (7), 3) := by decide +kernel
theorem dM_end_24 : decode mM_end.2.1 24 = .ok (.iconst 0, 1) := by decide +kernel
theorem dM_end_25 : decode mM_end.2.1 25 = .ok (.goto (26), 3) := by decide +kernel
theorem dM_end_28 : decode mM_end.2.1 28 = .ok (.aload_n 0, 1) := by decide +kernel
theorem dM_end_29 : decode mM_end.2.1 29 = .ok (.getfield 16, 3) := by decide +kernel
theorem dM_end_32 : decode mM_end.2.1 32 = .ok (.aload_n 0, 1) := by decide +kernel
theorem dM_end_33 : decode mM_end.2.1 33 = .ok (.getfield 41, 3) := by decide +kernel
theorem dM_end_36 : decode mM_end.2.1 36 = .ok (.iload_n 1, 1) := by decide +kernel
theorem dM_end_37 : decode mM_end.2.1 37 = .ok (.iaload, 1) := by decide +kernel
theorem dM_end_38 : decode mM_end.2.1 38 = .ok (.iaload, 1) := by decide +kernel
theorem dM_end_39 : decode mM_end.2.1 39 = .ok (.aload_n 0, 1) := by decide +kernel
theorem dM_end_40 : decode mM_end.2.1 40 = .ok (.getfield 20, 3) := by decide +kernel
theorem dM_end_43 : decode mM_end.2.1 43 = .ok (.aload_n 0, 1) := by decide +kernel
theorem dM_end_44 : decode mM_end.2.1 44 = .ok (.getfield 41, 3) := by decide +kernel
theorem dM_end_47 : decode mM_end.2.1 47 = .ok (.iload_n 1, 1) := by decide +kernel
theorem dM_end_48 : decode mM_end.2.1 48 = .ok (.iaload, 1) := by decide +kernel
theorem dM_end_49 : decode mM_end.2.1 49 = .ok (.iaload, 1) := by decide +kernel
theorem dM_end_50 : decode mM_end.2.1 50 = .ok (.iadd, 1) := by decide +kernel
theorem dM_end_51 : decode mM_end.2.1 51 = .ok (.ireturn, 1) := by decide +kernel
theorem dM_level_0 : decode mM_level.2.1 0 = .ok (.aload_n 0, 1) := by decide +kernel
theorem dM_level_1 : decode mM_level.2.1 1 = .ok (.iconst 0, 1) := by decide +kernel
theorem dM_level_2 : decode mM_level.2.1 2 = .ok (.putfield 97, 3) := by decide +kernel
theorem dM_level_5 : decode mM_level.2.1 5 = .ok (.aload_n 0, 1) := by decide +kernel
theorem dM_level_6 : decode mM_level.2.1 6 = .ok (.iload_n 1, 1) := by decide +kernel
theorem dM_level_7 : decode mM_level.2.1 7 = .ok (.invokevirtual 268, 3) := by decide +kernel
theorem dM_level_10 : decode mM_level.2.1 10 = .ok (.ifCond .eq (12), 3) := by decide +kernel
theorem dM_level_13 : decode mM_level.2.1 13 = .ok (.aload_n 0, 1) := by decide +kernel
theorem dM_level_14 : decode mM_level.2.1 14 = .ok (.getfield 44, 3) := by decide +kernel
theorem dM_level_17 : decode mM_level.2.1 17 = .ok (.iload_n 1, 1) := by decide +kernel
theorem dM_level_18 : decode mM_level.2.1 18 = .ok (.iaload, 1) := by decide +kernel
theorem dM_level_19 : decode mM_level.2.1 19 = .ok (.goto (4), 3) := by decide +kernel
theorem dM_level_22 : decode mM_level.2.1 22 = .ok (.iconst (-1), 1) := by decide +kernel
theorem dM_level_23 : decode mM_level.2.1 23 = .ok (.ireturn, 1) := by decide +kernel
theorem dM_value_0 : decode mM_value.2.1 0 = .ok (.aload_n 0, 1) := by decide +kernel
theorem dM_value_1 : decode mM_value.2.1 1 = .ok (.aload_n 0, 1) := by decide +kernel
theorem dM_value_2 : decode mM_value.2.1 2 = .ok (.iload_n 1, 1) := by decide +kernel
theorem dM_value_3 : decode mM_value.2.1 3 = .ok (.invokevirtual 268, 3) := by decide +kernel
theorem dM_value_6 : decode mM_value.2.1 6 = .ok (.ifCond .eq (7), 3) := by decide +kernel
theorem dM_value_9 : decode mM_value.2.1 9 = .ok (.iconst 0, 1) := by decide +kernel
theorem dM_value_10 : decode mM_value.2.1 10 = .ok (.goto (4), 3) := by decide +kernel
theorem dM_value_13 : decode mM_value.2.1 13 = .ok (.iconst 1, 1) := by decide +kernel
theorem dM_value_14 : decode mM_value.2.1 14 = .ok (.putfield 97, 3) := by decide +kernel
theorem dM_value_17 : decode mM_value.2.1 17 = .ok (.aload_n 0, 1) := by decide +kernel
theorem dM_value_18 : decode mM_value.2.1 18 = .ok (.getfield 97, 3) := by decide +kernel
theorem dM_value_21 : decode mM_value.2.1 21 = .ok (.ifCond .le (7), 3) := by decide +kernel
theorem dM_value_24 : decode mM_value.2.1 24 = .ok (.iconst 0, 1) := by decide +kernel
theorem dM_value_25 : decode mM_value.2.1 25 = .ok (.goto (9), 3) := by decide +kernel
theorem dM_value_28 : decode mM_value.2.1 28 = .ok (.aload_n 0, 1) := by decide +kernel
theorem dM_value_29 : decode mM_value.2.1 29 = .ok (.getfield 57, 3) := by decide +kernel
theorem dM_value_32 : decode mM_value.2.1 32 = .ok (.iload_n 1, 1) := by decide +kernel
theorem dM_value_33 : decode mM_value.2.1 33 = .ok (.iaload, 1) := by decide +kernel
theorem dM_value_34 : decode mM_value.2.1 34 = .ok (.ireturn, 1) := by decide +kernel
end
section
theorem dR_init_0 : decode mR_init.2.1 0 = .ok (.aload_n 0, 1) := by decide +kernel
theorem dR_init_1 : decode mR_init.2.1 1 = .ok (.invokespecial 3, 3) := by decide +kernel
theorem dR_init_4 : decode mR_init.2.1 4 = .ok (.aload_n 0, 1) := by decide +kernel
theorem dR_init_5 : decode mR_init.2.1 5 = .ok (.new 9, 3) := by decide +kernel
theorem dR_init_8 : decode mR_init.2.1 8 = .ok (.dup, 1) := by decide +kernel
theorem dR_init_9 : decode mR_init.2.1 9 = .ok (.invokespecial 11, 3) := by decide +kernel
theorem dR_init_12 : decode mR_init.2.1 12 = .ok (.putfield 12, 3) := by decide +kernel
theorem dR_init_15 : decode mR_init.2.1 15 = .ok (.aload_n 0, 1) := by decide +kernel
theorem dR_init_16 : decode mR_init.2.1 16 = .ok (.new 18, 3) := by decide +kernel
theorem dR_init_19 : decode mR_init.2.1 19 = .ok (.dup, 1) := by decide +kernel
theorem dR_init_20 : decode mR_init.2.1 20 = .ok (.invokespecial 20, 3) := by decide +kernel
theorem dR_init_23 : decode mR_init.2.1 23 = .ok (.putfield 21, 3) := by decide +kernel
theorem dR_init_26 : decode mR_init.2.1 26 = .ok (.return_, 1) := by decide +kernel
theorem dR_readTokens_0 : decode mR_readTokens.2.1 0 = .ok (.aload_n 0, 1) := by decide +kernel
theorem dR_readTokens_1 : decode mR_readTokens.2.1 1 = .ok (.iconst 0, 1) := by decide +kernel
theorem dR_readTokens_2 : decode mR_readTokens.2.1 2 = .ok (.putfield 25, 3) := by decide +kernel
theorem dR_readTokens_5 : decode mR_readTokens.2.1 5 = .ok (.aload_n 0, 1) := by decide +kernel
theorem dR_readTokens_6 : decode mR_readTokens.2.1 6 = .ok (.iconst 0, 1) := by decide +kernel
theorem dR_readTokens_7 : decode mR_readTokens.2.1 7 = .ok (.putfield 29, 3) := by decide +kernel
theorem dR_readTokens_10 : decode mR_readTokens.2.1 10 = .ok (.aload_n 0, 1) := by decide +kernel
theorem dR_readTokens_11 : decode mR_readTokens.2.1 11 = .ok (.getfield 21, 3) := by decide +kernel
theorem dR_readTokens_14 : decode mR_readTokens.2.1 14 = .ok (.iconst 0, 1) := by decide +kernel
theorem dR_readTokens_15 : decode mR_readTokens.2.1 15 = .ok (.putfield 33, 3) := by decide +kernel
theorem dR_readTokens_18 : decode mR_readTokens.2.1 18 = .ok (.iconst 0, 1) := by decide +kernel
theorem dR_readTokens_19 : decode mR_readTokens.2.1 19 = .ok (.istore_n 1, 1) := by decide +kernel
theorem dR_readTokens_20 : decode mR_readTokens.2.1 20 = .ok (.iload_n 1, 1) := by decide +kernel
theorem dR_readTokens_21 : decode mR_readTokens.2.1 21 = .ok (.sipush (160), 3) := by decide +kernel
theorem dR_readTokens_24 : decode mR_readTokens.2.1 24 = .ok (.if_icmp .ge (58), 3) := by decide +kernel
theorem dR_readTokens_27 : decode mR_readTokens.2.1 27 = .ok (.aload_n 0, 1) := by decide +kernel
theorem dR_readTokens_28 : decode mR_readTokens.2.1 28 = .ok (.getfield 25, 3) := by decide +kernel
theorem dR_readTokens_31 : decode mR_readTokens.2.1 31 = .ok (.aload_n 0, 1) := by decide +kernel
theorem dR_readTokens_32 : decode mR_readTokens.2.1 32 = .ok (.getfield 12, 3) := by decide +kernel
theorem dR_readTokens_35 : decode mR_readTokens.2.1 35 = .ok (.getfield 36, 3) := by decide +kernel
theorem dR_readTokens_38 : decode mR_readTokens.2.1 38 = .ok (.if_icmp .ge (44), 3) := by decide +kernel
theorem dR_readTokens_41 : decode mR_readTokens.2.1 41 = .ok (.aload_n 0, 1) := by decide +kernel
theorem dR_readTokens_42 : decode mR_readTokens.2.1 42 = .ok (.getfield 29, 3) := by decide +kernel
theorem dR_readTokens_45 : decode mR_readTokens.2.1 45 = .ok (.ifCond .ne (37), 3) := by decide +kernel
theorem dR_readTokens_48 : decode mR_readTokens.2.1 48 = .ok (.aload_n 0, 1) := by decide +kernel
theorem dR_readTokens_49 : decode mR_readTokens.2.1 49 = .ok (.getfield 21, 3) := by decide +kernel
theorem dR_readTokens_52 : decode mR_readTokens.2.1 52 = .ok (.getfield 33, 3) := by decide +kernel
theorem dR_readTokens_55 : decode mR_readTokens.2.1 55 = .ok (.istore_n 2, 1) := by decide +kernel
theorem dR_readTokens_56 : decode mR_readTokens.2.1 56 = .ok (.aload_n 0, 1) := by decide +kernel
theorem dR_readTokens_57 : decode mR_readTokens.2.1 57 = .ok (.iconst 0, 1) := by decide +kernel
theorem dR_readTokens_58 : decode mR_readTokens.2.1 58 = .ok (.invokevirtual 37, 3) := by decide +kernel
theorem dR_readTokens_61 : decode mR_readTokens.2.1 61 = .ok (.aload_n 0, 1) := by decide +kernel
theorem dR_readTokens_62 : decode mR_readTokens.2.1 62 = .ok (.getfield 29, 3) := by decide +kernel
theorem dR_readTokens_65 : decode mR_readTokens.2.1 65 = .ok (.ifCond .eq (11), 3) := by decide +kernel
theorem dR_readTokens_68 : decode mR_readTokens.2.1 68 = .ok (.aload_n 0, 1) := by decide +kernel
theorem dR_readTokens_69 : decode mR_readTokens.2.1 69 = .ok (.getfield 21, 3) := by decide +kernel
theorem dR_readTokens_72 : decode mR_readTokens.2.1 72 = .ok (.iload_n 2, 1) := by decide +kernel
theorem dR_readTokens_73 : decode mR_readTokens.2.1 73 = .ok (.putfield 33, 3) := by decide +kernel
theorem dR_readTokens_76 : decode mR_readTokens.2.1 76 = .ok (.iinc 1 (1), 3) := by decide +kernel
theorem dR_readTokens_79 : decode mR_readTokens.2.1 79 = .ok (.goto (-59), 3) := by decide +kernel
theorem dR_readTokens_82 : decode mR_readTokens.2.1 82 = .ok (.return_, 1) := by decide +kernel
theorem dR_faultPlace_0 : decode mR_faultPlace.2.1 0 = .ok (.aload_n 0, 1) := by decide +kernel
theorem dR_faultPlace_1 : decode mR_faultPlace.2.1 1 = .ok (.getfield 29, 3) := by decide +kernel
theorem dR_faultPlace_4 : decode mR_faultPlace.2.1 4 = .ok (.ifCond .ne (5), 3) := by decide +kernel
theorem dR_faultPlace_7 : decode mR_faultPlace.2.1 7 = .ok (.iconst (-1), 1) := by decide +kernel
theorem dR_faultPlace_8 : decode mR_faultPlace.2.1 8 = .ok (.ireturn, 1) := by decide +kernel
theorem dR_faultPlace_9 : decode mR_faultPlace.2.1 9 = .ok (.aload_n 0, 1) := by decide +kernel
theorem dR_faultPlace_10 : decode mR_faultPlace.2.1 10 = .ok (.getfield 25, 3) := by decide +kernel
theorem dR_faultPlace_13 : decode mR_faultPlace.2.1 13 = .ok (.aload_n 0, 1) := by decide +kernel
theorem dR_faultPlace_14 : decode mR_faultPlace.2.1 14 = .ok (.getfield 12, 3) := by decide +kernel
theorem dR_faultPlace_17 : decode mR_faultPlace.2.1 17 = .ok (.getfield 36, 3) := by decide +kernel
theorem dR_faultPlace_20 : decode mR_faultPlace.2.1 20 = .ok (.if_icmp .ge (17), 3) := by decide +kernel
theorem dR_faultPlace_23 : decode mR_faultPlace.2.1 23 = .ok (.aload_n 0, 1) := by decide +kernel
theorem dR_faultPlace_24 : decode mR_faultPlace.2.1 24 = .ok (.getfield 12, 3) := by decide +kernel
theorem dR_faultPlace_27 : decode mR_faultPlace.2.1 27 = .ok (.aload_n 0, 1) := by decide +kernel
theorem dR_faultPlace_28 : decode mR_faultPlace.2.1 28 = .ok (.getfield 25, 3) := by decide +kernel
theorem dR_faultPlace_31 : decode mR_faultPlace.2.1 31 = .ok (.invokevirtual 41, 3) := by decide +kernel
theorem dR_faultPlace_34 : decode mR_faultPlace.2.1 34 = .ok (.goto (10), 3) := by decide +kernel
theorem dR_faultPlace_37 : decode mR_faultPlace.2.1 37 = .ok (.aload_n 0, 1) := by decide +kernel
theorem dR_faultPlace_38 : decode mR_faultPlace.2.1 38 = .ok (.getfield 12, 3) := by decide +kernel
theorem dR_faultPlace_41 : decode mR_faultPlace.2.1 41 = .ok (.getfield 45, 3) := by decide +kernel
theorem dR_faultPlace_44 : decode mR_faultPlace.2.1 44 = .ok (.ireturn, 1) := by decide +kernel
theorem dR_sees_0 : decode mR_sees.2.1 0 = .ok (.aload_n 0, 1) := by decide +kernel
theorem dR_sees_1 : decode mR_sees.2.1 1 = .ok (.getfield 29, 3) := by decide +kernel
theorem dR_sees_4 : decode mR_sees.2.1 4 = .ok (.ifCond .ne (37), 3) := by decide +kernel
theorem dR_sees_7 : decode mR_sees.2.1 7 = .ok (.aload_n 0, 1) := by decide +kernel
theorem dR_sees_8 : decode mR_sees.2.1 8 = .ok (.getfield 25, 3) := by decide +kernel
theorem dR_sees_11 : decode mR_sees.2.1 11 = .ok (.aload_n 0, 1) := by decide +kernel
theorem dR_sees_12 : decode mR_sees.2.1 12 = .ok (.getfield 12, 3) := by decide +kernel
theorem dR_sees_15 : decode mR_sees.2.1 15 = .ok (.getfield 36, 3) := by decide +kernel
theorem dR_sees_18 : decode mR_sees.2.1 18 = .ok (.if_icmp .ge (23), 3) := by decide +kernel
theorem dR_sees_21 : decode mR_sees.2.1 21 = .ok (.aload_n 0, 1) := by decide +kernel
theorem dR_sees_22 : decode mR_sees.2.1 22 = .ok (.getfield 12, 3) := by decide +kernel
theorem dR_sees_25 : decode mR_sees.2.1 25 = .ok (.getfield 48, 3) := by decide +kernel
theorem dR_sees_28 : decode mR_sees.2.1 28 = .ok (.aload_n 0, 1) := by decide +kernel
theorem dR_sees_29 : decode mR_sees.2.1 29 = .ok (.getfield 25, 3) := by decide +kernel
theorem dR_sees_32 : decode mR_sees.2.1 32 = .ok (.caload, 1) := by decide +kernel
theorem dR_sees_33 : decode mR_sees.2.1 33 = .ok (.iload_n 1, 1) := by decide +kernel
theorem dR_sees_34 : decode mR_sees.2.1 34 = .ok (.if_icmp .ne (7), 3) := by decide +kernel
theorem dR_sees_37 : decode mR_sees.2.1 37 = .ok (.iconst 1, 1) := by decide +kernel
theorem dR_sees_38 : decode mR_sees.2.1 38 = .ok (.goto (4), 3) := by decide +kernel
theorem dR_sees_41 : decode mR_sees.2.1 41 = .ok (.iconst 0, 1) := by decide +kernel
theorem dR_sees_42 : decode mR_sees.2.1 42 = .ok (.ireturn, 1) := by decide +kernel
theorem dR_takes_0 : decode mR_takes.2.1 0 = .ok (.aload_n 0, 1) := by decide +kernel
theorem dR_takes_1 : decode mR_takes.2.1 1 = .ok (.iload_n 1, 1) := by decide +kernel
theorem dR_takes_2 : decode mR_takes.2.1 2 = .ok (.invokevirtual 52, 3) := by decide +kernel
theorem dR_takes_5 : decode mR_takes.2.1 5 = .ok (.istore_n 2, 1) := by decide +kernel
theorem dR_takes_6 : decode mR_takes.2.1 6 = .ok (.iload_n 2, 1) := by decide +kernel
theorem dR_takes_7 : decode mR_takes.2.1 7 = .ok (.ifCond .eq (13), 3) := by decide +kernel
theorem dR_takes_10 : decode mR_takes.2.1 10 = .ok (.aload_n 0, 1) := by decide +kernel
theorem dR_takes_11 : decode mR_takes.2.1 11 = .ok (.dup, 1) := by decide +kernel
theorem dR_takes_12 : decode mR_takes.2.1 12 = .ok (.getfield 25, 3) := by decide +kernel
theorem dR_takes_15 : decode mR_takes.2.1 15 = .ok (.iconst 1, 1) := by decide +kernel
theorem dR_takes_16 : decode mR_takes.2.1 16 = .ok (.iadd, 1) := by decide +kernel
theorem dR_takes_17 : decode mR_takes.2.1 17 = .ok (.putfield 25, 3) := by decide +kernel
theorem dR_takes_20 : decode mR_takes.2.1 20 = .ok (.iload_n 2, 1) := by decide +kernel
theorem dR_takes_21 : decode mR_takes.2.1 21 = .ok (.ireturn, 1) := by decide +kernel
theorem dR_needs_0 : decode mR_needs.2.1 0 = .ok (.aload_n 0, 1) := by decide +kernel
theorem dR_needs_1 : decode mR_needs.2.1 1 = .ok (.iload_n 1, 1) := by decide +kernel
theorem dR_needs_2 : decode mR_needs.2.1 2 = .ok (.invokevirtual 52, 3) := by decide +kernel
theorem dR_needs_5 : decode mR_needs.2.1 5 = .ok (.ifCond .eq (16), 3) := by decide +kernel
theorem dR_needs_8 : decode mR_needs.2.1 8 = .ok (.aload_n 0, 1) := by decide +kernel
theorem dR_needs_9 : decode mR_needs.2.1 9 = .ok (.dup, 1) := by decide +kernel
theorem dR_needs_10 : decode mR_needs.2.1 10 = .ok (.getfield 25, 3) := by decide +kernel
theorem dR_needs_13 : decode mR_needs.2.1 13 = .ok (.iconst 1, 1) := by decide +kernel
theorem dR_needs_14 : decode mR_needs.2.1 14 = .ok (.iadd, 1) := by decide +kernel
theorem dR_needs_15 : decode mR_needs.2.1 15 = .ok (.putfield 25, 3) := by decide +kernel
theorem dR_needs_18 : decode mR_needs.2.1 18 = .ok (.goto (8), 3) := by decide +kernel
theorem dR_needs_21 : decode mR_needs.2.1 21 = .ok (.aload_n 0, 1) := by decide +kernel
theorem dR_needs_22 : decode mR_needs.2.1 22 = .ok (.iconst 1, 1) := by decide +kernel
theorem dR_needs_23 : decode mR_needs.2.1 23 = .ok (.putfield 29, 3) := by decide +kernel
theorem dR_needs_26 : decode mR_needs.2.1 26 = .ok (.return_, 1) := by decide +kernel
theorem dR_opens_0 : decode mR_opens.2.1 0 = .ok (.aload_n 0, 1) := by decide +kernel
theorem dR_opens_1 : decode mR_opens.2.1 1 = .ok (.iload_n 1, 1) := by decide +kernel
theorem dR_opens_2 : decode mR_opens.2.1 2 = .ok (.invokevirtual 52, 3) := by decide +kernel
theorem dR_opens_5 : decode mR_opens.2.1 5 = .ok (.istore_n 3, 1) := by decide +kernel
theorem dR_opens_6 : decode mR_opens.2.1 6 = .ok (.iload_n 3, 1) := by decide +kernel
theorem dR_opens_7 : decode mR_opens.2.1 7 = .ok (.ifCond .eq (17), 3) := by decide +kernel
theorem dR_opens_10 : decode mR_opens.2.1 10 = .ok (.iload_n 2, 1) := by decide +kernel
theorem dR_opens_11 : decode mR_opens.2.1 11 = .ok (.bipush (12), 2) := by decide +kernel
theorem dR_opens_13 : decode mR_opens.2.1 13 = .ok (.if_icmp .lt (11), 3) := by decide +kernel
theorem dR_opens_16 : decode mR_opens.2.1 16 = .ok (.aload_n 0, 1) := by decide +kernel
theorem dR_opens_17 : decode mR_opens.2.1 17 = .ok (.iconst 1, 1) := by decide +kernel
theorem dR_opens_18 : decode mR_opens.2.1 18 = .ok (.putfield 29, 3) := by decide +kernel
theorem dR_opens_21 : decode mR_opens.2.1 21 = .ok (.goto (17), 3) := by decide +kernel
theorem dR_opens_24 : decode mR_opens.2.1 24 = .ok (.iload_n 3, 1) := by decide +kernel
theorem dR_opens_25 : decode mR_opens.2.1 25 = .ok (.ifCond .eq (13), 3) := by decide +kernel
theorem dR_opens_28 : decode mR_opens.2.1 28 = .ok (.aload_n 0, 1) := by decide +kernel
theorem dR_opens_29 : decode mR_opens.2.1 29 = .ok (.dup, 1) := by decide +kernel
theorem dR_opens_30 : decode mR_opens.2.1 30 = .ok (.getfield 25, 3) := by decide +kernel
theorem dR_opens_33 : decode mR_opens.2.1 33 = .ok (.iconst 1, 1) := by decide +kernel
theorem dR_opens_34 : decode mR_opens.2.1 34 = .ok (.iadd, 1) := by decide +kernel
theorem dR_opens_35 : decode mR_opens.2.1 35 = .ok (.putfield 25, 3) := by decide +kernel
theorem dR_opens_38 : decode mR_opens.2.1 38 = .ok (.iload_n 3, 1) := by decide +kernel
theorem dR_opens_39 : decode mR_opens.2.1 39 = .ok (.ifCond .eq (14), 3) := by decide +kernel
theorem dR_opens_42 : decode mR_opens.2.1 42 = .ok (.aload_n 0, 1) := by decide +kernel
theorem dR_opens_43 : decode mR_opens.2.1 43 = .ok (.getfield 29, 3) := by decide +kernel
theorem dR_opens_46 : decode mR_opens.2.1 46 = .ok (.ifCond .ne (7), 3) := by decide +kernel
theorem dR_opens_49 : decode mR_opens.2.1 49 = .ok (.iconst 1, 1) := by decide +kernel
theorem dR_opens_50 : decode mR_opens.2.1 50 = .ok (.goto (4), 3) := by decide +kernel
theorem dR_opens_53 : decode mR_opens.2.1 53 = .ok (.iconst 0, 1) := by decide +kernel
theorem dR_opens_54 : decode mR_opens.2.1 54 = .ok (.ireturn, 1) := by decide +kernel
theorem dR_readItem_0 : decode mR_readItem.2.1 0 = .ok (.aload_n 0, 1) := by decide +kernel
theorem dR_readItem_1 : decode mR_readItem.2.1 1 = .ok (.getfield 25, 3) := by decide +kernel
theorem dR_readItem_4 : decode mR_readItem.2.1 4 = .ok (.aload_n 0, 1) := by decide +kernel
theorem dR_readItem_5 : decode mR_readItem.2.1 5 = .ok (.getfield 12, 3) := by decide +kernel
theorem dR_readItem_8 : decode mR_readItem.2.1 8 = .ok (.getfield 36, 3) := by decide +kernel
theorem dR_readItem_11 : decode mR_readItem.2.1 11 = .ok (.if_icmp .ge (16), 3) := by decide +kernel
theorem dR_readItem_14 : decode mR_readItem.2.1 14 = .ok (.aload_n 0, 1) := by decide +kernel
theorem dR_readItem_15 : decode mR_readItem.2.1 15 = .ok (.getfield 21, 3) := by decide +kernel
theorem dR_readItem_18 : decode mR_readItem.2.1 18 = .ok (.getfield 33, 3) := by decide +kernel
theorem dR_readItem_21 : decode mR_readItem.2.1 21 = .ok (.sipush (160), 3) := by decide +kernel
theorem dR_readItem_24 : decode mR_readItem.2.1 24 = .ok (.if_icmp .lt (9), 3) := by decide +kernel
theorem dR_readItem_27 : decode mR_readItem.2.1 27 = .ok (.aload_n 0, 1) := by decide +kernel
theorem dR_readItem_28 : decode mR_readItem.2.1 28 = .ok (.iconst 1, 1) := by decide +kernel
theorem dR_readItem_29 : decode mR_readItem.2.1 29 = .ok (.putfield 29, 3) := by decide +kernel
theorem dR_readItem_32 : decode mR_readItem.2.1 32 = .ok (.return_, 1) := by decide +kernel
theorem dR_readItem_33 : decode mR_readItem.2.1 33 = .ok (.aload_n 0, 1) := by decide +kernel
theorem dR_readItem_34 : decode mR_readItem.2.1 34 = .ok (.getfield 21, 3) := by decide +kernel
theorem dR_readItem_37 : decode mR_readItem.2.1 37 = .ok (.getfield 33, 3) := by decide +kernel
theorem dR_readItem_40 : decode mR_readItem.2.1 40 = .ok (.istore_n 2, 1) := by decide +kernel
theorem dR_readItem_41 : decode mR_readItem.2.1 41 = .ok (.aload_n 0, 1) := by decide +kernel
theorem dR_readItem_42 : decode mR_readItem.2.1 42 = .ok (.getfield 25, 3) := by decide +kernel
theorem dR_readItem_45 : decode mR_readItem.2.1 45 = .ok (.istore_n 3, 1) := by decide +kernel
theorem dR_readItem_46 : decode mR_readItem.2.1 46 = .ok (.aload_n 0, 1) := by decide +kernel
theorem dR_readItem_47 : decode mR_readItem.2.1 47 = .ok (.getfield 21, 3) := by decide +kernel
theorem dR_readItem_50 : decode mR_readItem.2.1 50 = .ok (.dup, 1) := by decide +kernel
theorem dR_readItem_51 : decode mR_readItem.2.1 51 = .ok (.getfield 33, 3) := by decide +kernel
theorem dR_readItem_54 : decode mR_readItem.2.1 54 = .ok (.iconst 1, 1) := by decide +kernel
theorem dR_readItem_55 : decode mR_readItem.2.1 55 = .ok (.iadd, 1) := by decide +kernel
theorem dR_readItem_56 : decode mR_readItem.2.1 56 = .ok (.putfield 33, 3) := by decide +kernel
theorem dR_readItem_59 : decode mR_readItem.2.1 59 = .ok (.aload_n 0, 1) := by decide +kernel
theorem dR_readItem_60 : decode mR_readItem.2.1 60 = .ok (.getfield 21, 3) := by decide +kernel
theorem dR_readItem_63 : decode mR_readItem.2.1 63 = .ok (.getfield 56, 3) := by decide +kernel
theorem dR_readItem_66 : decode mR_readItem.2.1 66 = .ok (.iload_n 2, 1) := by decide +kernel
theorem dR_readItem_67 : decode mR_readItem.2.1 67 = .ok (.iload_n 3, 1) := by decide +kernel
theorem dR_readItem_68 : decode mR_readItem.2.1 68 = .ok (.iastore, 1) := by decide +kernel
theorem dR_readItem_69 : decode mR_readItem.2.1 69 = .ok (.aload_n 0, 1) := by decide +kernel
theorem dR_readItem_70 : decode mR_readItem.2.1 70 = .ok (.getfield 21, 3) := by decide +kernel
theorem dR_readItem_73 : decode mR_readItem.2.1 73 = .ok (.getfield 60, 3) := by decide +kernel
theorem dR_readItem_76 : decode mR_readItem.2.1 76 = .ok (.iload_n 2, 1) := by decide +kernel
theorem dR_readItem_77 : decode mR_readItem.2.1 77 = .ok (.iload_n 1, 1) := by decide +kernel
theorem dR_readItem_78 : decode mR_readItem.2.1 78 = .ok (.iastore, 1) := by decide +kernel
theorem dR_readItem_79 : decode mR_readItem.2.1 79 = .ok (.aload_n 0, 1) := by decide +kernel
theorem dR_readItem_80 : decode mR_readItem.2.1 80 = .ok (.bipush (123), 2) := by decide +kernel
theorem dR_readItem_82 : decode mR_readItem.2.1 82 = .ok (.invokevirtual 52, 3) := by decide +kernel
theorem dR_readItem_85 : decode mR_readItem.2.1 85 = .ok (.ifCond .eq (20), 3) := by decide +kernel
theorem dR_readItem_88 : decode mR_readItem.2.1 88 = .ok (.aload_n 0, 1) := by decide +kernel
theorem dR_readItem_89 : decode mR_readItem.2.1 89 = .ok (.getfield 21, 3) := by decide +kernel
theorem dR_readItem_92 : decode mR_readItem.2.1 92 = .ok (.getfield 63, 3) := by decide +kernel
theorem dR_readItem_95 : decode mR_readItem.2.1 95 = .ok (.iload_n 2, 1) := by decide +kernel
theorem dR_readItem_96 : decode mR_readItem.2.1 96 = .ok (.aload_n 0, 1) := by decide +kernel
theorem dR_readItem_97 : decode mR_readItem.2.1 97 = .ok (.iload_n 1, 1) := by decide +kernel
theorem dR_readItem_98 : decode mR_readItem.2.1 98 = .ok (.invokevirtual 66, 3) := by decide +kernel
theorem dR_readItem_101 : decode mR_readItem.2.1 101 = .ok (.iastore, 1) := by decide +kernel
theorem dR_readItem_102 : decode mR_readItem.2.1 102 = .ok (.goto (47), 3) := by decide +kernel
theorem dR_readItem_105 : decode mR_readItem.2.1 105 = .ok (.aload_n 0, 1) := by decide +kernel
theorem dR_readItem_106 : decode mR_readItem.2.1 106 = .ok (.bipush (97), 2) := by decide +kernel
theorem dR_readItem_108 : decode mR_readItem.2.1 108 = .ok (.invokevirtual 69, 3) := by decide +kernel
theorem dR_readItem_111 : decode mR_readItem.2.1 111 = .ok (.aload_n 0, 1) := by decide +kernel
theorem dR_readItem_112 : decode mR_readItem.2.1 112 = .ok (.getfield 21, 3) := by decide +kernel
theorem dR_readItem_115 : decode mR_readItem.2.1 115 = .ok (.getfield 63, 3) := by decide +kernel
theorem dR_readItem_118 : decode mR_readItem.2.1 118 = .ok (.iload_n 2, 1) := by decide +kernel
theorem dR_readItem_119 : decode mR_readItem.2.1 119 = .ok (.aload_n 0, 1) := by decide +kernel
theorem dR_readItem_120 : decode mR_readItem.2.1 120 = .ok (.bipush (61), 2) := by decide +kernel
theorem dR_readItem_122 : decode mR_readItem.2.1 122 = .ok (.invokevirtual 73, 3) := by decide +kernel
theorem dR_readItem_125 : decode mR_readItem.2.1 125 = .ok (.ifCond .eq (11), 3) := by decide +kernel
theorem dR_readItem_128 : decode mR_readItem.2.1 128 = .ok (.aload_n 0, 1) := by decide +kernel
theorem dR_readItem_129 : decode mR_readItem.2.1 129 = .ok (.iload_n 1, 1) := by decide +kernel
theorem dR_readItem_130 : decode mR_readItem.2.1 130 = .ok (.invokevirtual 76, 3) := by decide +kernel
theorem dR_readItem_133 : decode mR_readItem.2.1 133 = .ok (.goto (9), 3) := by decide +kernel
theorem dR_readItem_136 : decode mR_readItem.2.1 136 = .ok (.aload_n 0, 1) := by decide +kernel
theorem dR_readItem_137 : decode mR_readItem.2.1 137 = .ok (.iload_n 3, 1) := by decide +kernel
theorem dR_readItem_138 : decode mR_readItem.2.1 138 = .ok (.iload_n 1, 1) := by decide +kernel
theorem dR_readItem_139 : decode mR_readItem.2.1 139 = .ok (.invokevirtual 79, 3) := by decide +kernel
theorem dR_readItem_142 : decode mR_readItem.2.1 142 = .ok (.iastore, 1) := by decide +kernel
theorem dR_readItem_143 : decode mR_readItem.2.1 143 = .ok (.aload_n 0, 1) := by decide +kernel
theorem dR_readItem_144 : decode mR_readItem.2.1 144 = .ok (.bipush (59), 2) := by decide +kernel
theorem dR_readItem_146 : decode mR_readItem.2.1 146 = .ok (.invokevirtual 69, 3) := by decide +kernel
theorem dR_readItem_149 : decode mR_readItem.2.1 149 = .ok (.aload_n 0, 1) := by decide +kernel
theorem dR_readItem_150 : decode mR_readItem.2.1 150 = .ok (.getfield 21, 3) := by decide +kernel
theorem dR_readItem_153 : decode mR_readItem.2.1 153 = .ok (.getfield 83, 3) := by decide +kernel
theorem dR_readItem_156 : decode mR_readItem.2.1 156 = .ok (.iload_n 2, 1) := by decide +kernel
theorem dR_readItem_157 : decode mR_readItem.2.1 157 = .ok (.aload_n 0, 1) := by decide +kernel
theorem dR_readItem_158 : decode mR_readItem.2.1 158 = .ok (.getfield 25, 3) := by decide +kernel
theorem dR_readItem_161 : decode mR_readItem.2.1 161 = .ok (.iconst 1, 1) := by decide +kernel
theorem dR_readItem_162 : decode mR_readItem.2.1 162 = .ok (.isub, 1) := by decide +kernel
theorem dR_readItem_163 : decode mR_readItem.2.1 163 = .ok (.iastore, 1) := by decide +kernel
theorem dR_readItem_164 : decode mR_readItem.2.1 164 = .ok (.return_, 1) := by decide +kernel
theorem dR_readBlock_0 : decode mR_readBlock.2.1 0 = .ok (.iconst 0, 1) := by decide +kernel
theorem dR_readBlock_1 : decode mR_readBlock.2.1 1 = .ok (.istore_n 2, 1) := by decide +kernel
theorem dR_readBlock_2 : decode mR_readBlock.2.1 2 = .ok (.aload_n 0, 1) := by decide +kernel
theorem dR_readBlock_3 : decode mR_readBlock.2.1 3 = .ok (.bipush (123), 2) := by decide +kernel
theorem dR_readBlock_5 : decode mR_readBlock.2.1 5 = .ok (.iload_n 1, 1) := by decide +kernel
theorem dR_readBlock_6 : decode mR_readBlock.2.1 6 = .ok (.invokevirtual 86, 3) := by decide +kernel
theorem dR_readBlock_9 : decode mR_readBlock.2.1 9 = .ok (.ifCond .eq (45), 3) := by decide +kernel
theorem dR_readBlock_12 : decode mR_readBlock.2.1 12 = .ok (.iload_n 2, 1) := by decide +kernel
theorem dR_readBlock_13 : decode mR_readBlock.2.1 13 = .ok (.sipush (160), 3) := by decide +kernel
theorem dR_readBlock_16 : decode mR_readBlock.2.1 16 = .ok (.if_icmp .ge (32), 3) := by decide +kernel
theorem dR_readBlock_19 : decode mR_readBlock.2.1 19 = .ok (.aload_n 0, 1) := by decide +kernel
theorem dR_readBlock_20 : decode mR_readBlock.2.1 20 = .ok (.getfield 29, 3) := by decide +kernel
theorem dR_readBlock_23 : decode mR_readBlock.2.1 23 = .ok (.ifCond .ne (25), 3) := by decide +kernel
theorem dR_readBlock_26 : decode mR_readBlock.2.1 26 = .ok (.aload_n 0, 1) := by decide +kernel
theorem dR_readBlock_27 : decode mR_readBlock.2.1 27 = .ok (.bipush (125), 2) := by decide +kernel
theorem dR_readBlock_29 : decode mR_readBlock.2.1 29 = .ok (.invokevirtual 52, 3) := by decide +kernel
theorem dR_readBlock_32 : decode mR_readBlock.2.1 32 = .ok (.ifCond .ne (16), 3) := by decide +kernel
theorem dR_readBlock_35 : decode mR_readBlock.2.1 35 = .ok (.aload_n 0, 1) := by decide +kernel
theorem dR_readBlock_36 : decode mR_readBlock.2.1 36 = .ok (.iload_n 1, 1) := by decide +kernel
theorem dR_readBlock_37 : decode mR_readBlock.2.1 37 = .ok (.iconst 1, 1) := by decide +kernel
theorem dR_readBlock_38 : decode mR_readBlock.2.1 38 = .ok (.iadd, 1) := by decide +kernel
theorem dR_readBlock_39 : decode mR_readBlock.2.1 39 = .ok (.invokevirtual 37, 3) := by decide +kernel
theorem dR_readBlock_42 : decode mR_readBlock.2.1 42 = .ok (.iinc 2 (1), 3) := by decide +kernel
theorem dR_readBlock_45 : decode mR_readBlock.2.1 45 = .ok (.goto (-33), 3) := by decide +kernel
theorem dR_readBlock_48 : decode mR_readBlock.2.1 48 = .ok (.aload_n 0, 1) := by decide +kernel
theorem dR_readBlock_49 : decode mR_readBlock.2.1 49 = .ok (.bipush (125), 2) := by decide +kernel
theorem dR_readBlock_51 : decode mR_readBlock.2.1 51 = .ok (.invokevirtual 69, 3) := by decide +kernel
theorem dR_readBlock_54 : decode mR_readBlock.2.1 54 = .ok (.iload_n 2, 1) := by decide +kernel
theorem dR_readBlock_55 : decode mR_readBlock.2.1 55 = .ok (.ireturn, 1) := by decide +kernel
theorem dR_readSum_0 : decode mR_readSum.2.1 0 = .ok (.iconst 0, 1) := by decide +kernel
theorem dR_readSum_1 : decode mR_readSum.2.1 1 = .ok (.istore_n 2, 1) := by decide +kernel
theorem dR_readSum_2 : decode mR_readSum.2.1 2 = .ok (.aload_n 0, 1) := by decide +kernel
theorem dR_readSum_3 : decode mR_readSum.2.1 3 = .ok (.iload_n 1, 1) := by decide +kernel
theorem dR_readSum_4 : decode mR_readSum.2.1 4 = .ok (.invokevirtual 90, 3) := by decide +kernel
theorem dR_readSum_7 : decode mR_readSum.2.1 7 = .ok (.istore_n 3, 1) := by decide +kernel
theorem dR_readSum_8 : decode mR_readSum.2.1 8 = .ok (.iconst 0, 1) := by decide +kernel
theorem dR_readSum_9 : decode mR_readSum.2.1 9 = .ok (.istore 4, 2) := by decide +kernel
theorem dR_readSum_11 : decode mR_readSum.2.1 11 = .ok (.iload 4, 2) := by decide +kernel
theorem dR_readSum_13 : decode mR_readSum.2.1 13 = .ok (.sipush (160), 3) := by decide +kernel
theorem dR_readSum_16 : decode mR_readSum.2.1 16 = .ok (.if_icmp .ge (79), 3) := by decide +kernel
theorem dR_readSum_19 : decode mR_readSum.2.1 19 = .ok (.aload_n 0, 1) := by decide +kernel
theorem dR_readSum_20 : decode mR_readSum.2.1 20 = .ok (.getfield 29, 3) := by decide +kernel
theorem dR_readSum_23 : decode mR_readSum.2.1 23 = .ok (.ifCond .ne (72), 3) := by decide +kernel
theorem dR_readSum_26 : decode mR_readSum.2.1 26 = .ok (.aload_n 0, 1) := by decide +kernel
theorem dR_readSum_27 : decode mR_readSum.2.1 27 = .ok (.bipush (42), 2) := by decide +kernel
theorem dR_readSum_29 : decode mR_readSum.2.1 29 = .ok (.invokevirtual 73, 3) := by decide +kernel
theorem dR_readSum_32 : decode mR_readSum.2.1 32 = .ok (.ifCond .eq (14), 3) := by decide +kernel
theorem dR_readSum_35 : decode mR_readSum.2.1 35 = .ok (.iload_n 3, 1) := by decide +kernel
theorem dR_readSum_36 : decode mR_readSum.2.1 36 = .ok (.aload_n 0, 1) := by decide +kernel
theorem dR_readSum_37 : decode mR_readSum.2.1 37 = .ok (.iload_n 1, 1) := by decide +kernel
theorem dR_readSum_38 : decode mR_readSum.2.1 38 = .ok (.invokevirtual 90, 3) := by decide +kernel
theorem dR_readSum_41 : decode mR_readSum.2.1 41 = .ok (.imul, 1) := by decide +kernel
theorem dR_readSum_42 : decode mR_readSum.2.1 42 = .ok (.istore_n 3, 1) := by decide +kernel
theorem dR_readSum_43 : decode mR_readSum.2.1 43 = .ok (.goto (46), 3) := by decide +kernel
theorem dR_readSum_46 : decode mR_readSum.2.1 46 = .ok (.aload_n 0, 1) := by decide +kernel
theorem dR_readSum_47 : decode mR_readSum.2.1 47 = .ok (.bipush (43), 2) := by decide +kernel
theorem dR_readSum_49 : decode mR_readSum.2.1 49 = .ok (.invokevirtual 73, 3) := by decide +kernel
theorem dR_readSum_52 : decode mR_readSum.2.1 52 = .ok (.ifCond .eq (16), 3) := by decide +kernel
theorem dR_readSum_55 : decode mR_readSum.2.1 55 = .ok (.iload_n 2, 1) := by decide +kernel
theorem dR_readSum_56 : decode mR_readSum.2.1 56 = .ok (.iload_n 3, 1) := by decide +kernel
theorem dR_readSum_57 : decode mR_readSum.2.1 57 = .ok (.iadd, 1) := by decide +kernel
theorem dR_readSum_58 : decode mR_readSum.2.1 58 = .ok (.istore_n 2, 1) := by decide +kernel
theorem dR_readSum_59 : decode mR_readSum.2.1 59 = .ok (.aload_n 0, 1) := by decide +kernel
theorem dR_readSum_60 : decode mR_readSum.2.1 60 = .ok (.iload_n 1, 1) := by decide +kernel
theorem dR_readSum_61 : decode mR_readSum.2.1 61 = .ok (.invokevirtual 90, 3) := by decide +kernel
theorem dR_readSum_64 : decode mR_readSum.2.1 64 = .ok (.istore_n 3, 1) := by decide +kernel
theorem dR_readSum_65 : decode mR_readSum.2.1 65 = .ok (.goto (24), 3) := by decide +kernel
theorem dR_readSum_68 : decode mR_readSum.2.1 68 = .ok (.aload_n 0, 1) := by decide +kernel
theorem dR_readSum_69 : decode mR_readSum.2.1 69 = .ok (.bipush (45), 2) := by decide +kernel
theorem dR_readSum_71 : decode mR_readSum.2.1 71 = .ok (.invokevirtual 73, 3) := by decide +kernel
theorem dR_readSum_74 : decode mR_readSum.2.1 74 = .ok (.ifCond .eq (21), 3) := by decide +kernel
theorem dR_readSum_77 : decode mR_readSum.2.1 77 = .ok (.iload_n 2, 1) := by decide +kernel
theorem dR_readSum_78 : decode mR_readSum.2.1 78 = .ok (.iload_n 3, 1) := by decide +kernel
theorem dR_readSum_79 : decode mR_readSum.2.1 79 = .ok (.iadd, 1) := by decide +kernel
theorem dR_readSum_80 : decode mR_readSum.2.1 80 = .ok (.istore_n 2, 1) := by decide +kernel
theorem dR_readSum_81 : decode mR_readSum.2.1 81 = .ok (.iconst 0, 1) := by decide +kernel
theorem dR_readSum_82 : decode mR_readSum.2.1 82 = .ok (.aload_n 0, 1) := by decide +kernel
theorem dR_readSum_83 : decode mR_readSum.2.1 83 = .ok (.iload_n 1, 1) := by decide +kernel
theorem dR_readSum_84 : decode mR_readSum.2.1 84 = .ok (.invokevirtual 90, 3) := by decide +kernel
theorem dR_readSum_87 : decode mR_readSum.2.1 87 = .ok (.isub, 1) := by decide +kernel
theorem dR_readSum_88 : decode mR_readSum.2.1 88 = .ok (.istore_n 3, 1) := by decide +kernel
theorem dR_readSum_89 : decode mR_readSum.2.1 89 = .ok (.iinc 4 (1), 3) := by decide +kernel
theorem dR_readSum_92 : decode mR_readSum.2.1 92 = .ok (.goto (-81), 3) := by decide +kernel
theorem dR_readSum_95 : decode mR_readSum.2.1 95 = .ok (.iload_n 2, 1) := by decide +kernel
theorem dR_readSum_96 : decode mR_readSum.2.1 96 = .ok (.iload_n 3, 1) := by decide +kernel
theorem dR_readSum_97 : decode mR_readSum.2.1 97 = .ok (.iadd, 1) := by decide +kernel
theorem dR_readSum_98 : decode mR_readSum.2.1 98 = .ok (.ireturn, 1) := by decide +kernel
theorem dR_readFactor_0 : decode mR_readFactor.2.1 0 = .ok (.aload_n 0, 1) := by decide +kernel
theorem dR_readFactor_1 : decode mR_readFactor.2.1 1 = .ok (.getfield 25, 3) := by decide +kernel
theorem dR_readFactor_4 : decode mR_readFactor.2.1 4 = .ok (.istore_n 2, 1) := by decide +kernel
theorem dR_readFactor_5 : decode mR_readFactor.2.1 5 = .ok (.aload_n 0, 1) := by decide +kernel
theorem dR_readFactor_6 : decode mR_readFactor.2.1 6 = .ok (.bipush (48), 2) := by decide +kernel
theorem dR_readFactor_8 : decode mR_readFactor.2.1 8 = .ok (.invokevirtual 73, 3) := by decide +kernel
theorem dR_readFactor_11 : decode mR_readFactor.2.1 11 = .ok (.ifCond .eq (12), 3) := by decide +kernel
theorem dR_readFactor_14 : decode mR_readFactor.2.1 14 = .ok (.aload_n 0, 1) := by decide +kernel
theorem dR_readFactor_15 : decode mR_readFactor.2.1 15 = .ok (.getfield 12, 3) := by decide +kernel
theorem dR_readFactor_18 : decode mR_readFactor.2.1 18 = .ok (.iload_n 2, 1) := by decide +kernel
theorem dR_readFactor_19 : decode mR_readFactor.2.1 19 = .ok (.invokevirtual 93, 3) := by decide +kernel
theorem dR_readFactor_22 : decode mR_readFactor.2.1 22 = .ok (.ireturn, 1) := by decide +kernel
theorem dR_readFactor_23 : decode mR_readFactor.2.1 23 = .ok (.aload_n 0, 1) := by decide +kernel
theorem dR_readFactor_24 : decode mR_readFactor.2.1 24 = .ok (.bipush (34), 2) := by decide +kernel
theorem dR_readFactor_26 : decode mR_readFactor.2.1 26 = .ok (.invokevirtual 73, 3) := by decide +kernel
theorem dR_readFactor_29 : decode mR_readFactor.2.1 29 = .ok (.ifCond .eq (14), 3) := by decide +kernel
theorem dR_readFactor_32 : decode mR_readFactor.2.1 32 = .ok (.aload_n 0, 1) := by decide +kernel
theorem dR_readFactor_33 : decode mR_readFactor.2.1 33 = .ok (.getfield 12, 3) := by decide +kernel
theorem dR_readFactor_36 : decode mR_readFactor.2.1 36 = .ok (.iload_n 2, 1) := by decide +kernel
theorem dR_readFactor_37 : decode mR_readFactor.2.1 37 = .ok (.invokevirtual 96, 3) := by decide +kernel
theorem dR_readFactor_40 : decode mR_readFactor.2.1 40 = .ok (.iconst 2, 1) := by decide +kernel
theorem dR_readFactor_41 : decode mR_readFactor.2.1 41 = .ok (.isub, 1) := by decide +kernel
theorem dR_readFactor_42 : decode mR_readFactor.2.1 42 = .ok (.ireturn, 1) := by decide +kernel
theorem dR_readFactor_43 : decode mR_readFactor.2.1 43 = .ok (.aload_n 0, 1) := by decide +kernel
theorem dR_readFactor_44 : decode mR_readFactor.2.1 44 = .ok (.bipush (97), 2) := by decide +kernel
theorem dR_readFactor_46 : decode mR_readFactor.2.1 46 = .ok (.invokevirtual 73, 3) := by decide +kernel
theorem dR_readFactor_49 : decode mR_readFactor.2.1 49 = .ok (.ifCond .eq (27), 3) := by decide +kernel
theorem dR_readFactor_52 : decode mR_readFactor.2.1 52 = .ok (.aload_n 0, 1) := by decide +kernel
theorem dR_readFactor_53 : decode mR_readFactor.2.1 53 = .ok (.bipush (40), 2) := by decide +kernel
theorem dR_readFactor_55 : decode mR_readFactor.2.1 55 = .ok (.invokevirtual 52, 3) := by decide +kernel
theorem dR_readFactor_58 : decode mR_readFactor.2.1 58 = .ok (.ifCond .eq (12), 3) := by decide +kernel
theorem dR_readFactor_61 : decode mR_readFactor.2.1 61 = .ok (.aload_n 0, 1) := by decide +kernel
theorem dR_readFactor_62 : decode mR_readFactor.2.1 62 = .ok (.iload_n 2, 1) := by decide +kernel
theorem dR_readFactor_63 : decode mR_readFactor.2.1 63 = .ok (.iload_n 1, 1) := by decide +kernel
theorem dR_readFactor_64 : decode mR_readFactor.2.1 64 = .ok (.invokevirtual 79, 3) := by decide +kernel
theorem dR_readFactor_67 : decode mR_readFactor.2.1 67 = .ok (.goto (8), 3) := by decide +kernel
theorem dR_readFactor_70 : decode mR_readFactor.2.1 70 = .ok (.aload_n 0, 1) := by decide +kernel
theorem dR_readFactor_71 : decode mR_readFactor.2.1 71 = .ok (.iload_n 2, 1) := by decide +kernel
theorem dR_readFactor_72 : decode mR_readFactor.2.1 72 = .ok (.invokevirtual 99, 3) := by decide +kernel
theorem dR_readFactor_75 : decode mR_readFactor.2.1 75 = .ok (.ireturn, 1) := by decide +kernel
theorem dR_readFactor_76 : decode mR_readFactor.2.1 76 = .ok (.aload_n 0, 1) := by decide +kernel
theorem dR_readFactor_77 : decode mR_readFactor.2.1 77 = .ok (.bipush (45), 2) := by decide +kernel
theorem dR_readFactor_79 : decode mR_readFactor.2.1 79 = .ok (.iload_n 1, 1) := by decide +kernel
theorem dR_readFactor_80 : decode mR_readFactor.2.1 80 = .ok (.invokevirtual 86, 3) := by decide +kernel
theorem dR_readFactor_83 : decode mR_readFactor.2.1 83 = .ok (.ifCond .eq (13), 3) := by decide +kernel
theorem dR_readFactor_86 : decode mR_readFactor.2.1 86 = .ok (.iconst 0, 1) := by decide +kernel
theorem dR_readFactor_87 : decode mR_readFactor.2.1 87 = .ok (.aload_n 0, 1) := by decide +kernel
theorem dR_readFactor_88 : decode mR_readFactor.2.1 88 = .ok (.iload_n 1, 1) := by decide +kernel
theorem dR_readFactor_89 : decode mR_readFactor.2.1 89 = .ok (.iconst 1, 1) := by decide +kernel
theorem dR_readFactor_90 : decode mR_readFactor.2.1 90 = .ok (.iadd, 1) := by decide +kernel
theorem dR_readFactor_91 : decode mR_readFactor.2.1 91 = .ok (.invokevirtual 90, 3) := by decide +kernel
theorem dR_readFactor_94 : decode mR_readFactor.2.1 94 = .ok (.isub, 1) := by decide +kernel
theorem dR_readFactor_95 : decode mR_readFactor.2.1 95 = .ok (.ireturn, 1) := by decide +kernel
theorem dR_readFactor_96 : decode mR_readFactor.2.1 96 = .ok (.aload_n 0, 1) := by decide +kernel
theorem dR_readFactor_97 : decode mR_readFactor.2.1 97 = .ok (.bipush (40), 2) := by decide +kernel
theorem dR_readFactor_99 : decode mR_readFactor.2.1 99 = .ok (.iload_n 1, 1) := by decide +kernel
theorem dR_readFactor_100 : decode mR_readFactor.2.1 100 = .ok (.invokevirtual 86, 3) := by decide +kernel
theorem dR_readFactor_103 : decode mR_readFactor.2.1 103 = .ok (.ifCond .eq (19), 3) := by decide +kernel
theorem dR_readFactor_106 : decode mR_readFactor.2.1 106 = .ok (.aload_n 0, 1) := by decide +kernel
theorem dR_readFactor_107 : decode mR_readFactor.2.1 107 = .ok (.iload_n 1, 1) := by decide +kernel
theorem dR_readFactor_108 : decode mR_readFactor.2.1 108 = .ok (.iconst 1, 1) := by decide +kernel
theorem dR_readFactor_109 : decode mR_readFactor.2.1 109 = .ok (.iadd, 1) := by decide +kernel
theorem dR_readFactor_110 : decode mR_readFactor.2.1 110 = .ok (.invokevirtual 76, 3) := by decide +kernel
theorem dR_readFactor_113 : decode mR_readFactor.2.1 113 = .ok (.istore_n 3, 1) := by decide +kernel
theorem dR_readFactor_114 : decode mR_readFactor.2.1 114 = .ok (.aload_n 0, 1) := by decide +kernel
theorem dR_readFactor_115 : decode mR_readFactor.2.1 115 = .ok (.bipush (41), 2) := by decide +kernel
theorem dR_readFactor_117 : decode mR_readFactor.2.1 117 = .ok (.invokevirtual 69, 3) := by decide +kernel
theorem dR_readFactor_120 : decode mR_readFactor.2.1 120 = .ok (.iload_n 3, 1) := by decide +kernel
theorem dR_readFactor_121 : decode mR_readFactor.2.1 121 = .ok (.ireturn, 1) := by decide +kernel
theorem dR_readFactor_122 : decode mR_readFactor.2.1 122 = .ok (.aload_n 0, 1) := by decide +kernel
theorem dR_readFactor_123 : decode mR_readFactor.2.1 123 = .ok (.iconst 1, 1) := by decide +kernel
theorem dR_readFactor_124 : decode mR_readFactor.2.1 124 = .ok (.putfield 29, 3) := by decide +kernel
theorem dR_readFactor_127 : decode mR_readFactor.2.1 127 = .ok (.iconst 0, 1) := by decide +kernel
theorem dR_readFactor_128 : decode mR_readFactor.2.1 128 = .ok (.ireturn, 1) := by decide +kernel
theorem dR_readCall_0 : decode mR_readCall.2.1 0 = .ok (.aload_n 0, 1) := by decide +kernel
theorem dR_readCall_1 : decode mR_readCall.2.1 1 = .ok (.getfield 12, 3) := by decide +kernel
theorem dR_readCall_4 : decode mR_readCall.2.1 4 = .ok (.iload_n 1, 1) := by decide +kernel
theorem dR_readCall_5 : decode mR_readCall.2.1 5 = .ok (.invokevirtual 96, 3) := by decide +kernel
theorem dR_readCall_8 : decode mR_readCall.2.1 8 = .ok (.istore_n 3, 1) := by decide +kernel
theorem dR_readCall_9 : decode mR_readCall.2.1 9 = .ok (.aload_n 0, 1) := by decide +kernel
theorem dR_readCall_10 : decode mR_readCall.2.1 10 = .ok (.bipush (40), 2) := by decide +kernel
theorem dR_readCall_12 : decode mR_readCall.2.1 12 = .ok (.iload_n 2, 1) := by decide +kernel
theorem dR_readCall_13 : decode mR_readCall.2.1 13 = .ok (.invokevirtual 86, 3) := by decide +kernel
theorem dR_readCall_16 : decode mR_readCall.2.1 16 = .ok (.ifCond .ne (10), 3) := by decide +kernel
theorem dR_readCall_19 : decode mR_readCall.2.1 19 = .ok (.aload_n 0, 1) := by decide +kernel
theorem dR_readCall_20 : decode mR_readCall.2.1 20 = .ok (.iconst 1, 1) := by decide +kernel
theorem dR_readCall_21 : decode mR_readCall.2.1 21 = .ok (.putfield 29, 3) := by decide +kernel
theorem dR_readCall_24 : decode mR_readCall.2.1 24 = .ok (.iconst 0, 1) := by decide +kernel
theorem dR_readCall_25 : decode mR_readCall.2.1 25 = .ok (.ireturn, 1) := by decide +kernel
theorem dR_readCall_26 : decode mR_readCall.2.1 26 = .ok (.aload_n 0, 1) := by decide +kernel
theorem dR_readCall_27 : decode mR_readCall.2.1 27 = .ok (.bipush (41), 2) := by decide +kernel
theorem dR_readCall_29 : decode mR_readCall.2.1 29 = .ok (.invokevirtual 73, 3) := by decide +kernel
theorem dR_readCall_32 : decode mR_readCall.2.1 32 = .ok (.ifCond .eq (5), 3) := by decide +kernel
theorem dR_readCall_35 : decode mR_readCall.2.1 35 = .ok (.iload_n 3, 1) := by decide +kernel
theorem dR_readCall_36 : decode mR_readCall.2.1 36 = .ok (.ireturn, 1) := by decide +kernel
theorem dR_readCall_37 : decode mR_readCall.2.1 37 = .ok (.bipush (31), 2) := by decide +kernel
theorem dR_readCall_39 : decode mR_readCall.2.1 39 = .ok (.iload_n 3, 1) := by decide +kernel
theorem dR_readCall_40 : decode mR_readCall.2.1 40 = .ok (.imul, 1) := by decide +kernel
theorem dR_readCall_41 : decode mR_readCall.2.1 41 = .ok (.aload_n 0, 1) := by decide +kernel
theorem dR_readCall_42 : decode mR_readCall.2.1 42 = .ok (.iload_n 2, 1) := by decide +kernel
theorem dR_readCall_43 : decode mR_readCall.2.1 43 = .ok (.iconst 1, 1) := by decide +kernel
theorem dR_readCall_44 : decode mR_readCall.2.1 44 = .ok (.iadd, 1) := by decide +kernel
theorem dR_readCall_45 : decode mR_readCall.2.1 45 = .ok (.invokevirtual 76, 3) := by decide +kernel
theorem dR_readCall_48 : decode mR_readCall.2.1 48 = .ok (.iadd, 1) := by decide +kernel
theorem dR_readCall_49 : decode mR_readCall.2.1 49 = .ok (.istore_n 3, 1) := by decide +kernel
theorem dR_readCall_50 : decode mR_readCall.2.1 50 = .ok (.iconst 0, 1) := by decide +kernel
theorem dR_readCall_51 : decode mR_readCall.2.1 51 = .ok (.istore 4, 2) := by decide +kernel
theorem dR_readCall_53 : decode mR_readCall.2.1 53 = .ok (.iload 4, 2) := by decide +kernel
theorem dR_readCall_55 : decode mR_readCall.2.1 55 = .ok (.sipush (160), 3) := by decide +kernel
theorem dR_readCall_58 : decode mR_readCall.2.1 58 = .ok (.if_icmp .ge (31), 3) := by decide +kernel
theorem dR_readCall_61 : decode mR_readCall.2.1 61 = .ok (.aload_n 0, 1) := by decide +kernel
theorem dR_readCall_62 : decode mR_readCall.2.1 62 = .ok (.bipush (44), 2) := by decide +kernel
theorem dR_readCall_64 : decode mR_readCall.2.1 64 = .ok (.invokevirtual 73, 3) := by decide +kernel
theorem dR_readCall_67 : decode mR_readCall.2.1 67 = .ok (.ifCond .eq (22), 3) := by decide +kernel
theorem dR_readCall_70 : decode mR_readCall.2.1 70 = .ok (.bipush (31), 2) := by decide +kernel
theorem dR_readCall_72 : decode mR_readCall.2.1 72 = .ok (.iload_n 3, 1) := by decide +kernel
theorem dR_readCall_73 : decode mR_readCall.2.1 73 = .ok (.imul, 1) := by decide +kernel
theorem dR_readCall_74 : decode mR_readCall.2.1 74 = .ok (.aload_n 0, 1) := by decide +kernel
theorem dR_readCall_75 : decode mR_readCall.2.1 75 = .ok (.iload_n 2, 1) := by decide +kernel
theorem dR_readCall_76 : decode mR_readCall.2.1 76 = .ok (.iconst 1, 1) := by decide +kernel
theorem dR_readCall_77 : decode mR_readCall.2.1 77 = .ok (.iadd, 1) := by decide +kernel
end
section
theorem dR_readCall_78 : decode mR_readCall.2.1 78 = .ok (.invokevirtual 76, 3) := by decide +kernel
theorem dR_readCall_81 : decode mR_readCall.2.1 81 = .ok (.iadd, 1) := by decide +kernel
theorem dR_readCall_82 : decode mR_readCall.2.1 82 = .ok (.istore_n 3, 1) := by decide +kernel
theorem dR_readCall_83 : decode mR_readCall.2.1 83 = .ok (.iinc 4 (1), 3) := by decide +kernel
theorem dR_readCall_86 : decode mR_readCall.2.1 86 = .ok (.goto (-33), 3) := by decide +kernel
theorem dR_readCall_89 : decode mR_readCall.2.1 89 = .ok (.aload_n 0, 1) := by decide +kernel
theorem dR_readCall_90 : decode mR_readCall.2.1 90 = .ok (.bipush (41), 2) := by decide +kernel
theorem dR_readCall_92 : decode mR_readCall.2.1 92 = .ok (.invokevirtual 69, 3) := by decide +kernel
theorem dR_readCall_95 : decode mR_readCall.2.1 95 = .ok (.iload_n 3, 1) := by decide +kernel
theorem dR_readCall_96 : decode mR_readCall.2.1 96 = .ok (.ireturn, 1) := by decide +kernel
theorem dR_namedValue_0 : decode mR_namedValue.2.1 0 = .ok (.aload_n 0, 1) := by decide +kernel
theorem dR_namedValue_1 : decode mR_namedValue.2.1 1 = .ok (.getfield 21, 3) := by decide +kernel
theorem dR_namedValue_4 : decode mR_namedValue.2.1 4 = .ok (.getfield 33, 3) := by decide +kernel
theorem dR_namedValue_7 : decode mR_namedValue.2.1 7 = .ok (.iconst 2, 1) := by decide +kernel
theorem dR_namedValue_8 : decode mR_namedValue.2.1 8 = .ok (.isub, 1) := by decide +kernel
theorem dR_namedValue_9 : decode mR_namedValue.2.1 9 = .ok (.istore_n 2, 1) := by decide +kernel
theorem dR_namedValue_10 : decode mR_namedValue.2.1 10 = .ok (.iload_n 2, 1) := by decide +kernel
theorem dR_namedValue_11 : decode mR_namedValue.2.1 11 = .ok (.ifCond .lt (82), 3) := by decide +kernel
theorem dR_namedValue_14 : decode mR_namedValue.2.1 14 = .ok (.aload_n 0, 1) := by decide +kernel
theorem dR_namedValue_15 : decode mR_namedValue.2.1 15 = .ok (.getfield 21, 3) := by decide +kernel
theorem dR_namedValue_18 : decode mR_namedValue.2.1 18 = .ok (.getfield 56, 3) := by decide +kernel
theorem dR_namedValue_21 : decode mR_namedValue.2.1 21 = .ok (.iload_n 2, 1) := by decide +kernel
theorem dR_namedValue_22 : decode mR_namedValue.2.1 22 = .ok (.iaload, 1) := by decide +kernel
theorem dR_namedValue_23 : decode mR_namedValue.2.1 23 = .ok (.istore_n 3, 1) := by decide +kernel
theorem dR_namedValue_24 : decode mR_namedValue.2.1 24 = .ok (.iload_n 3, 1) := by decide +kernel
theorem dR_namedValue_25 : decode mR_namedValue.2.1 25 = .ok (.iconst 1, 1) := by decide +kernel
theorem dR_namedValue_26 : decode mR_namedValue.2.1 26 = .ok (.iadd, 1) := by decide +kernel
theorem dR_namedValue_27 : decode mR_namedValue.2.1 27 = .ok (.aload_n 0, 1) := by decide +kernel
theorem dR_namedValue_28 : decode mR_namedValue.2.1 28 = .ok (.getfield 12, 3) := by decide +kernel
theorem dR_namedValue_31 : decode mR_namedValue.2.1 31 = .ok (.getfield 36, 3) := by decide +kernel
theorem dR_namedValue_34 : decode mR_namedValue.2.1 34 = .ok (.if_icmp .ge (23), 3) := by decide +kernel
theorem dR_namedValue_37 : decode mR_namedValue.2.1 37 = .ok (.aload_n 0, 1) := by decide +kernel
theorem dR_namedValue_38 : decode mR_namedValue.2.1 38 = .ok (.getfield 12, 3) := by decide +kernel
theorem dR_namedValue_41 : decode mR_namedValue.2.1 41 = .ok (.getfield 48, 3) := by decide +kernel
theorem dR_namedValue_44 : decode mR_namedValue.2.1 44 = .ok (.iload_n 3, 1) := by decide +kernel
theorem dR_namedValue_45 : decode mR_namedValue.2.1 45 = .ok (.iconst 1, 1) := by decide +kernel
theorem dR_namedValue_46 : decode mR_namedValue.2.1 46 = .ok (.iadd, 1) := by decide +kernel
theorem dR_namedValue_47 : decode mR_namedValue.2.1 47 = .ok (.caload, 1) := by decide +kernel
theorem dR_namedValue_48 : decode mR_namedValue.2.1 48 = .ok (.bipush (61), 2) := by decide +kernel
theorem dR_namedValue_50 : decode mR_namedValue.2.1 50 = .ok (.if_icmp .ne (7), 3) := by decide +kernel
theorem dR_namedValue_53 : decode mR_namedValue.2.1 53 = .ok (.iconst 1, 1) := by decide +kernel
theorem dR_namedValue_54 : decode mR_namedValue.2.1 54 = .ok (.goto (4), 3) := by decide +kernel
theorem dR_namedValue_57 : decode mR_namedValue.2.1 57 = .ok (.iconst 0, 1) := by decide +kernel
theorem dR_namedValue_58 : decode mR_namedValue.2.1 58 = .ok (.istore 4, 2) := by decide +kernel
theorem dR_namedValue_60 : decode mR_namedValue.2.1 60 = .ok (.iload 4, 2) := by decide +kernel
theorem dR_namedValue_62 : decode mR_namedValue.2.1 62 = .ok (.ifCond .eq (25), 3) := by decide +kernel
theorem dR_namedValue_65 : decode mR_namedValue.2.1 65 = .ok (.aload_n 0, 1) := by decide +kernel
theorem dR_namedValue_66 : decode mR_namedValue.2.1 66 = .ok (.getfield 12, 3) := by decide +kernel
theorem dR_namedValue_69 : decode mR_namedValue.2.1 69 = .ok (.iload_n 3, 1) := by decide +kernel
theorem dR_namedValue_70 : decode mR_namedValue.2.1 70 = .ok (.iload_n 1, 1) := by decide +kernel
theorem dR_namedValue_71 : decode mR_namedValue.2.1 71 = .ok (.invokevirtual 102, 3) := by decide +kernel
theorem dR_namedValue_74 : decode mR_namedValue.2.1 74 = .ok (.ifCond .eq (13), 3) := by decide +kernel
theorem dR_namedValue_77 : decode mR_namedValue.2.1 77 = .ok (.aload_n 0, 1) := by decide +kernel
theorem dR_namedValue_78 : decode mR_namedValue.2.1 78 = .ok (.getfield 21, 3) := by decide +kernel
theorem dR_namedValue_81 : decode mR_namedValue.2.1 81 = .ok (.getfield 63, 3) := by decide +kernel
theorem dR_namedValue_84 : decode mR_namedValue.2.1 84 = .ok (.iload_n 2, 1) := by decide +kernel
theorem dR_namedValue_85 : decode mR_namedValue.2.1 85 = .ok (.iaload, 1) := by decide +kernel
theorem dR_namedValue_86 : decode mR_namedValue.2.1 86 = .ok (.ireturn, 1) := by decide +kernel
theorem dR_namedValue_87 : decode mR_namedValue.2.1 87 = .ok (.iinc 2 (-1), 3) := by decide +kernel
theorem dR_namedValue_90 : decode mR_namedValue.2.1 90 = .ok (.goto (-80), 3) := by decide +kernel
theorem dR_namedValue_93 : decode mR_namedValue.2.1 93 = .ok (.iconst 0, 1) := by decide +kernel
theorem dR_namedValue_94 : decode mR_namedValue.2.1 94 = .ok (.ireturn, 1) := by decide +kernel
end
section
theorem dS_init_0 : decode mS_init.2.1 0 = .ok (.aload_n 0, 1) := by decide +kernel
theorem dS_init_1 : decode mS_init.2.1 1 = .ok (.invokespecial 3, 3) := by decide +kernel
theorem dS_init_4 : decode mS_init.2.1 4 = .ok (.aload_n 0, 1) := by decide +kernel
theorem dS_init_5 : decode mS_init.2.1 5 = .ok (.sipush (160), 3) := by decide +kernel
theorem dS_init_8 : decode mS_init.2.1 8 = .ok (.newarray .char, 2) := by decide +kernel
theorem dS_init_10 : decode mS_init.2.1 10 = .ok (.putfield 9, 3) := by decide +kernel
theorem dS_init_13 : decode mS_init.2.1 13 = .ok (.aload_n 0, 1) := by decide +kernel
theorem dS_init_14 : decode mS_init.2.1 14 = .ok (.sipush (160), 3) := by decide +kernel
theorem dS_init_17 : decode mS_init.2.1 17 = .ok (.newarray .int, 2) := by decide +kernel
theorem dS_init_19 : decode mS_init.2.1 19 = .ok (.putfield 15, 3) := by decide +kernel
theorem dS_init_22 : decode mS_init.2.1 22 = .ok (.aload_n 0, 1) := by decide +kernel
theorem dS_init_23 : decode mS_init.2.1 23 = .ok (.sipush (160), 3) := by decide +kernel
theorem dS_init_26 : decode mS_init.2.1 26 = .ok (.newarray .char, 2) := by decide +kernel
theorem dS_init_28 : decode mS_init.2.1 28 = .ok (.putfield 19, 3) := by decide +kernel
theorem dS_init_31 : decode mS_init.2.1 31 = .ok (.return_, 1) := by decide +kernel
theorem dS_fill_0 : decode mS_fill.2.1 0 = .ok (.iload_n 2, 1) := by decide +kernel
theorem dS_fill_1 : decode mS_fill.2.1 1 = .ok (.iload_n 3, 1) := by decide +kernel
theorem dS_fill_2 : decode mS_fill.2.1 2 = .ok (.iadd, 1) := by decide +kernel
theorem dS_fill_3 : decode mS_fill.2.1 3 = .ok (.istore 6, 2) := by decide +kernel
theorem dS_fill_5 : decode mS_fill.2.1 5 = .ok (.aload_n 1, 1) := by decide +kernel
theorem dS_fill_6 : decode mS_fill.2.1 6 = .ok (.getfield 9, 3) := by decide +kernel
theorem dS_fill_9 : decode mS_fill.2.1 9 = .ok (.iconst 0, 1) := by decide +kernel
theorem dS_fill_10 : decode mS_fill.2.1 10 = .ok (.aload_n 0, 1) := by decide +kernel
theorem dS_fill_11 : decode mS_fill.2.1 11 = .ok (.getfield 9, 3) := by decide +kernel
theorem dS_fill_14 : decode mS_fill.2.1 14 = .ok (.iconst 0, 1) := by decide +kernel
theorem dS_fill_15 : decode mS_fill.2.1 15 = .ok (.iload_n 2, 1) := by decide +kernel
theorem dS_fill_16 : decode mS_fill.2.1 16 = .ok (.invokestatic 22, 3) := by decide +kernel
theorem dS_fill_19 : decode mS_fill.2.1 19 = .ok (.aload 4, 2) := by decide +kernel
theorem dS_fill_21 : decode mS_fill.2.1 21 = .ok (.iconst 0, 1) := by decide +kernel
theorem dS_fill_22 : decode mS_fill.2.1 22 = .ok (.aload_n 0, 1) := by decide +kernel
theorem dS_fill_23 : decode mS_fill.2.1 23 = .ok (.getfield 9, 3) := by decide +kernel
theorem dS_fill_26 : decode mS_fill.2.1 26 = .ok (.iload_n 2, 1) := by decide +kernel
theorem dS_fill_27 : decode mS_fill.2.1 27 = .ok (.iload 5, 2) := by decide +kernel
theorem dS_fill_29 : decode mS_fill.2.1 29 = .ok (.invokestatic 22, 3) := by decide +kernel
theorem dS_fill_32 : decode mS_fill.2.1 32 = .ok (.aload_n 1, 1) := by decide +kernel
theorem dS_fill_33 : decode mS_fill.2.1 33 = .ok (.getfield 9, 3) := by decide +kernel
theorem dS_fill_36 : decode mS_fill.2.1 36 = .ok (.iload 6, 2) := by decide +kernel
theorem dS_fill_38 : decode mS_fill.2.1 38 = .ok (.aload_n 0, 1) := by decide +kernel
theorem dS_fill_39 : decode mS_fill.2.1 39 = .ok (.getfield 9, 3) := by decide +kernel
theorem dS_fill_42 : decode mS_fill.2.1 42 = .ok (.iload_n 2, 1) := by decide +kernel
theorem dS_fill_43 : decode mS_fill.2.1 43 = .ok (.iload 5, 2) := by decide +kernel
theorem dS_fill_45 : decode mS_fill.2.1 45 = .ok (.iadd, 1) := by decide +kernel
theorem dS_fill_46 : decode mS_fill.2.1 46 = .ok (.aload_n 1, 1) := by decide +kernel
theorem dS_fill_47 : decode mS_fill.2.1 47 = .ok (.getfield 28, 3) := by decide +kernel
theorem dS_fill_50 : decode mS_fill.2.1 50 = .ok (.iload 6, 2) := by decide +kernel
theorem dS_fill_52 : decode mS_fill.2.1 52 = .ok (.isub, 1) := by decide +kernel
theorem dS_fill_53 : decode mS_fill.2.1 53 = .ok (.invokestatic 22, 3) := by decide +kernel
theorem dS_fill_56 : decode mS_fill.2.1 56 = .ok (.aload_n 0, 1) := by decide +kernel
theorem dS_fill_57 : decode mS_fill.2.1 57 = .ok (.aload_n 1, 1) := by decide +kernel
theorem dS_fill_58 : decode mS_fill.2.1 58 = .ok (.getfield 28, 3) := by decide +kernel
theorem dS_fill_61 : decode mS_fill.2.1 61 = .ok (.iload_n 3, 1) := by decide +kernel
theorem dS_fill_62 : decode mS_fill.2.1 62 = .ok (.isub, 1) := by decide +kernel
theorem dS_fill_63 : decode mS_fill.2.1 63 = .ok (.iload 5, 2) := by decide +kernel
theorem dS_fill_65 : decode mS_fill.2.1 65 = .ok (.iadd, 1) := by decide +kernel
theorem dS_fill_66 : decode mS_fill.2.1 66 = .ok (.putfield 28, 3) := by decide +kernel
theorem dS_fill_69 : decode mS_fill.2.1 69 = .ok (.return_, 1) := by decide +kernel
theorem dS_findTokens_0 : decode mS_findTokens.2.1 0 = .ok (.aload_n 0, 1) := by decide +kernel
theorem dS_findTokens_1 : decode mS_findTokens.2.1 1 = .ok (.iconst 0, 1) := by decide +kernel
theorem dS_findTokens_2 : decode mS_findTokens.2.1 2 = .ok (.putfield 32, 3) := by decide +kernel
theorem dS_findTokens_5 : decode mS_findTokens.2.1 5 = .ok (.aload_n 0, 1) := by decide +kernel
theorem dS_findTokens_6 : decode mS_findTokens.2.1 6 = .ok (.iconst 0, 1) := by decide +kernel
theorem dS_findTokens_7 : decode mS_findTokens.2.1 7 = .ok (.invokevirtual 35, 3) := by decide +kernel
theorem dS_findTokens_10 : decode mS_findTokens.2.1 10 = .ok (.istore_n 1, 1) := by decide +kernel
theorem dS_findTokens_11 : decode mS_findTokens.2.1 11 = .ok (.iload_n 1, 1) := by decide +kernel
theorem dS_findTokens_12 : decode mS_findTokens.2.1 12 = .ok (.aload_n 0, 1) := by decide +kernel
theorem dS_findTokens_13 : decode mS_findTokens.2.1 13 = .ok (.getfield 28, 3) := by decide +kernel
theorem dS_findTokens_16 : decode mS_findTokens.2.1 16 = .ok (.if_icmp .ge (83), 3) := by decide +kernel
theorem dS_findTokens_19 : decode mS_findTokens.2.1 19 = .ok (.aload_n 0, 1) := by decide +kernel
theorem dS_findTokens_20 : decode mS_findTokens.2.1 20 = .ok (.getfield 32, 3) := by decide +kernel
theorem dS_findTokens_23 : decode mS_findTokens.2.1 23 = .ok (.sipush (160), 3) := by decide +kernel
theorem dS_findTokens_26 : decode mS_findTokens.2.1 26 = .ok (.if_icmp .ge (73), 3) := by decide +kernel
theorem dS_findTokens_29 : decode mS_findTokens.2.1 29 = .ok (.aload_n 0, 1) := by decide +kernel
theorem dS_findTokens_30 : decode mS_findTokens.2.1 30 = .ok (.getfield 15, 3) := by decide +kernel
theorem dS_findTokens_33 : decode mS_findTokens.2.1 33 = .ok (.aload_n 0, 1) := by decide +kernel
theorem dS_findTokens_34 : decode mS_findTokens.2.1 34 = .ok (.getfield 32, 3) := by decide +kernel
theorem dS_findTokens_37 : decode mS_findTokens.2.1 37 = .ok (.aload_n 0, 1) := by decide +kernel
theorem dS_findTokens_38 : decode mS_findTokens.2.1 38 = .ok (.iload_n 1, 1) := by decide +kernel
theorem dS_findTokens_39 : decode mS_findTokens.2.1 39 = .ok (.invokevirtual 39, 3) := by decide +kernel
theorem dS_findTokens_42 : decode mS_findTokens.2.1 42 = .ok (.iastore, 1) := by decide +kernel
theorem dS_findTokens_43 : decode mS_findTokens.2.1 43 = .ok (.aload_n 0, 1) := by decide +kernel
theorem dS_findTokens_44 : decode mS_findTokens.2.1 44 = .ok (.getfield 19, 3) := by decide +kernel
theorem dS_findTokens_47 : decode mS_findTokens.2.1 47 = .ok (.aload_n 0, 1) := by decide +kernel
theorem dS_findTokens_48 : decode mS_findTokens.2.1 48 = .ok (.getfield 32, 3) := by decide +kernel
theorem dS_findTokens_51 : decode mS_findTokens.2.1 51 = .ok (.aload_n 0, 1) := by decide +kernel
theorem dS_findTokens_52 : decode mS_findTokens.2.1 52 = .ok (.getfield 15, 3) := by decide +kernel
theorem dS_findTokens_55 : decode mS_findTokens.2.1 55 = .ok (.aload_n 0, 1) := by decide +kernel
theorem dS_findTokens_56 : decode mS_findTokens.2.1 56 = .ok (.getfield 32, 3) := by decide +kernel
theorem dS_findTokens_59 : decode mS_findTokens.2.1 59 = .ok (.iaload, 1) := by decide +kernel
theorem dS_findTokens_60 : decode mS_findTokens.2.1 60 = .ok (.bipush (8), 2) := by decide +kernel
theorem dS_findTokens_62 : decode mS_findTokens.2.1 62 = .ok (.irem, 1) := by decide +kernel
theorem dS_findTokens_63 : decode mS_findTokens.2.1 63 = .ok (.aload_n 0, 1) := by decide +kernel
theorem dS_findTokens_64 : decode mS_findTokens.2.1 64 = .ok (.getfield 9, 3) := by decide +kernel
theorem dS_findTokens_67 : decode mS_findTokens.2.1 67 = .ok (.iload_n 1, 1) := by decide +kernel
theorem dS_findTokens_68 : decode mS_findTokens.2.1 68 = .ok (.caload, 1) := by decide +kernel
theorem dS_findTokens_69 : decode mS_findTokens.2.1 69 = .ok (.invokestatic 42, 3) := by decide +kernel
theorem dS_findTokens_72 : decode mS_findTokens.2.1 72 = .ok (.castore, 1) := by decide +kernel
theorem dS_findTokens_73 : decode mS_findTokens.2.1 73 = .ok (.aload_n 0, 1) := by decide +kernel
theorem dS_findTokens_74 : decode mS_findTokens.2.1 74 = .ok (.aload_n 0, 1) := by decide +kernel
theorem dS_findTokens_75 : decode mS_findTokens.2.1 75 = .ok (.aload_n 0, 1) := by decide +kernel
theorem dS_findTokens_76 : decode mS_findTokens.2.1 76 = .ok (.getfield 32, 3) := by decide +kernel
theorem dS_findTokens_79 : decode mS_findTokens.2.1 79 = .ok (.invokevirtual 46, 3) := by decide +kernel
theorem dS_findTokens_82 : decode mS_findTokens.2.1 82 = .ok (.invokevirtual 35, 3) := by decide +kernel
theorem dS_findTokens_85 : decode mS_findTokens.2.1 85 = .ok (.istore_n 1, 1) := by decide +kernel
theorem dS_findTokens_86 : decode mS_findTokens.2.1 86 = .ok (.aload_n 0, 1) := by decide +kernel
theorem dS_findTokens_87 : decode mS_findTokens.2.1 87 = .ok (.dup, 1) := by decide +kernel
theorem dS_findTokens_88 : decode mS_findTokens.2.1 88 = .ok (.getfield 32, 3) := by decide +kernel
theorem dS_findTokens_91 : decode mS_findTokens.2.1 91 = .ok (.iconst 1, 1) := by decide +kernel
theorem dS_findTokens_92 : decode mS_findTokens.2.1 92 = .ok (.iadd, 1) := by decide +kernel
theorem dS_findTokens_93 : decode mS_findTokens.2.1 93 = .ok (.putfield 32, 3) := by decide +kernel
theorem dS_findTokens_96 : decode mS_findTokens.2.1 96 = .ok (.goto (-85), 3) := by decide +kernel
theorem dS_findTokens_99 : decode mS_findTokens.2.1 99 = .ok (.return_, 1) := by decide +kernel
theorem dS_passBlanks_0 : decode mS_passBlanks.2.1 0 = .ok (.iconst 0, 1) := by decide +kernel
theorem dS_passBlanks_1 : decode mS_passBlanks.2.1 1 = .ok (.istore_n 2, 1) := by decide +kernel
theorem dS_passBlanks_2 : decode mS_passBlanks.2.1 2 = .ok (.iload_n 1, 1) := by decide +kernel
theorem dS_passBlanks_3 : decode mS_passBlanks.2.1 3 = .ok (.istore_n 3, 1) := by decide +kernel
theorem dS_passBlanks_4 : decode mS_passBlanks.2.1 4 = .ok (.iload_n 3, 1) := by decide +kernel
theorem dS_passBlanks_5 : decode mS_passBlanks.2.1 5 = .ok (.aload_n 0, 1) := by decide +kernel
theorem dS_passBlanks_6 : decode mS_passBlanks.2.1 6 = .ok (.getfield 28, 3) := by decide +kernel
theorem dS_passBlanks_9 : decode mS_passBlanks.2.1 9 = .ok (.if_icmp .ge (54), 3) := by decide +kernel
theorem dS_passBlanks_12 : decode mS_passBlanks.2.1 12 = .ok (.aload_n 0, 1) := by decide +kernel
theorem dS_passBlanks_13 : decode mS_passBlanks.2.1 13 = .ok (.getfield 9, 3) := by decide +kernel
theorem dS_passBlanks_16 : decode mS_passBlanks.2.1 16 = .ok (.iload_n 3, 1) := by decide +kernel
theorem dS_passBlanks_17 : decode mS_passBlanks.2.1 17 = .ok (.caload, 1) := by decide +kernel
theorem dS_passBlanks_18 : decode mS_passBlanks.2.1 18 = .ok (.istore 4, 2) := by decide +kernel
theorem dS_passBlanks_20 : decode mS_passBlanks.2.1 20 = .ok (.iload 4, 2) := by decide +kernel
theorem dS_passBlanks_22 : decode mS_passBlanks.2.1 22 = .ok (.bipush (10), 2) := by decide +kernel
theorem dS_passBlanks_24 : decode mS_passBlanks.2.1 24 = .ok (.if_icmp .ne (8), 3) := by decide +kernel
theorem dS_passBlanks_27 : decode mS_passBlanks.2.1 27 = .ok (.iconst 0, 1) := by decide +kernel
theorem dS_passBlanks_28 : decode mS_passBlanks.2.1 28 = .ok (.istore_n 2, 1) := by decide +kernel
theorem dS_passBlanks_29 : decode mS_passBlanks.2.1 29 = .ok (.goto (28), 3) := by decide +kernel
theorem dS_passBlanks_32 : decode mS_passBlanks.2.1 32 = .ok (.iload 4, 2) := by decide +kernel
theorem dS_passBlanks_34 : decode mS_passBlanks.2.1 34 = .ok (.bipush (35), 2) := by decide +kernel
theorem dS_passBlanks_36 : decode mS_passBlanks.2.1 36 = .ok (.if_icmp .ne (8), 3) := by decide +kernel
theorem dS_passBlanks_39 : decode mS_passBlanks.2.1 39 = .ok (.iconst 1, 1) := by decide +kernel
theorem dS_passBlanks_40 : decode mS_passBlanks.2.1 40 = .ok (.istore_n 2, 1) := by decide +kernel
theorem dS_passBlanks_41 : decode mS_passBlanks.2.1 41 = .ok (.goto (16), 3) := by decide +kernel
theorem dS_passBlanks_44 : decode mS_passBlanks.2.1 44 = .ok (.iload 4, 2) := by decide +kernel
theorem dS_passBlanks_46 : decode mS_passBlanks.2.1 46 = .ok (.bipush (32), 2) := by decide +kernel
theorem dS_passBlanks_48 : decode mS_passBlanks.2.1 48 = .ok (.if_icmp .eq (9), 3) := by decide +kernel
theorem dS_passBlanks_51 : decode mS_passBlanks.2.1 51 = .ok (.iload_n 2, 1) := by decide +kernel
theorem dS_passBlanks_52 : decode mS_passBlanks.2.1 52 = .ok (.ifCond .ne (5), 3) := by decide +kernel
theorem dS_passBlanks_55 : decode mS_passBlanks.2.1 55 = .ok (.iload_n 3, 1) := by decide +kernel
theorem dS_passBlanks_56 : decode mS_passBlanks.2.1 56 = .ok (.ireturn, 1) := by decide +kernel
theorem dS_passBlanks_57 : decode mS_passBlanks.2.1 57 = .ok (.iinc 3 (1), 3) := by decide +kernel
theorem dS_passBlanks_60 : decode mS_passBlanks.2.1 60 = .ok (.goto (-56), 3) := by decide +kernel
theorem dS_passBlanks_63 : decode mS_passBlanks.2.1 63 = .ok (.aload_n 0, 1) := by decide +kernel
theorem dS_passBlanks_64 : decode mS_passBlanks.2.1 64 = .ok (.getfield 28, 3) := by decide +kernel
theorem dS_passBlanks_67 : decode mS_passBlanks.2.1 67 = .ok (.ireturn, 1) := by decide +kernel
theorem dS_tokenFrom_0 : decode mS_tokenFrom.2.1 0 = .ok (.aload_n 0, 1) := by decide +kernel
theorem dS_tokenFrom_1 : decode mS_tokenFrom.2.1 1 = .ok (.getfield 9, 3) := by decide +kernel
theorem dS_tokenFrom_4 : decode mS_tokenFrom.2.1 4 = .ok (.iload_n 1, 1) := by decide +kernel
theorem dS_tokenFrom_5 : decode mS_tokenFrom.2.1 5 = .ok (.caload, 1) := by decide +kernel
theorem dS_tokenFrom_6 : decode mS_tokenFrom.2.1 6 = .ok (.istore_n 2, 1) := by decide +kernel
theorem dS_tokenFrom_7 : decode mS_tokenFrom.2.1 7 = .ok (.iload_n 2, 1) := by decide +kernel
theorem dS_tokenFrom_8 : decode mS_tokenFrom.2.1 8 = .ok (.bipush (34), 2) := by decide +kernel
theorem dS_tokenFrom_10 : decode mS_tokenFrom.2.1 10 = .ok (.if_icmp .ne (9), 3) := by decide +kernel
theorem dS_tokenFrom_13 : decode mS_tokenFrom.2.1 13 = .ok (.aload_n 0, 1) := by decide +kernel
theorem dS_tokenFrom_14 : decode mS_tokenFrom.2.1 14 = .ok (.iload_n 1, 1) := by decide +kernel
theorem dS_tokenFrom_15 : decode mS_tokenFrom.2.1 15 = .ok (.invokevirtual 49, 3) := by decide +kernel
theorem dS_tokenFrom_18 : decode mS_tokenFrom.2.1 18 = .ok (.ireturn, 1) := by decide +kernel
theorem dS_tokenFrom_19 : decode mS_tokenFrom.2.1 19 = .ok (.iload_n 2, 1) := by decide +kernel
theorem dS_tokenFrom_20 : decode mS_tokenFrom.2.1 20 = .ok (.invokestatic 52, 3) := by decide +kernel
theorem dS_tokenFrom_23 : decode mS_tokenFrom.2.1 23 = .ok (.ifCond .eq (15), 3) := by decide +kernel
theorem dS_tokenFrom_26 : decode mS_tokenFrom.2.1 26 = .ok (.iload_n 1, 1) := by decide +kernel
theorem dS_tokenFrom_27 : decode mS_tokenFrom.2.1 27 = .ok (.aload_n 0, 1) := by decide +kernel
theorem dS_tokenFrom_28 : decode mS_tokenFrom.2.1 28 = .ok (.iload_n 1, 1) := by decide +kernel
theorem dS_tokenFrom_29 : decode mS_tokenFrom.2.1 29 = .ok (.iconst 1, 1) := by decide +kernel
theorem dS_tokenFrom_30 : decode mS_tokenFrom.2.1 30 = .ok (.invokevirtual 56, 3) := by decide +kernel
theorem dS_tokenFrom_33 : decode mS_tokenFrom.2.1 33 = .ok (.iconst 0, 1) := by decide +kernel
theorem dS_tokenFrom_34 : decode mS_tokenFrom.2.1 34 = .ok (.invokestatic 60, 3) := by decide +kernel
theorem dS_tokenFrom_37 : decode mS_tokenFrom.2.1 37 = .ok (.ireturn, 1) := by decide +kernel
theorem dS_tokenFrom_38 : decode mS_tokenFrom.2.1 38 = .ok (.iload_n 2, 1) := by decide +kernel
theorem dS_tokenFrom_39 : decode mS_tokenFrom.2.1 39 = .ok (.invokestatic 64, 3) := by decide +kernel
theorem dS_tokenFrom_42 : decode mS_tokenFrom.2.1 42 = .ok (.ifCond .eq (15), 3) := by decide +kernel
theorem dS_tokenFrom_45 : decode mS_tokenFrom.2.1 45 = .ok (.iload_n 1, 1) := by decide +kernel
theorem dS_tokenFrom_46 : decode mS_tokenFrom.2.1 46 = .ok (.aload_n 0, 1) := by decide +kernel
theorem dS_tokenFrom_47 : decode mS_tokenFrom.2.1 47 = .ok (.iload_n 1, 1) := by decide +kernel
theorem dS_tokenFrom_48 : decode mS_tokenFrom.2.1 48 = .ok (.iconst 0, 1) := by decide +kernel
theorem dS_tokenFrom_49 : decode mS_tokenFrom.2.1 49 = .ok (.invokevirtual 56, 3) := by decide +kernel
theorem dS_tokenFrom_52 : decode mS_tokenFrom.2.1 52 = .ok (.iconst 1, 1) := by decide +kernel
theorem dS_tokenFrom_53 : decode mS_tokenFrom.2.1 53 = .ok (.invokestatic 60, 3) := by decide +kernel
theorem dS_tokenFrom_56 : decode mS_tokenFrom.2.1 56 = .ok (.ireturn, 1) := by decide +kernel
theorem dS_tokenFrom_57 : decode mS_tokenFrom.2.1 57 = .ok (.iload_n 1, 1) := by decide +kernel
theorem dS_tokenFrom_58 : decode mS_tokenFrom.2.1 58 = .ok (.iload_n 1, 1) := by decide +kernel
theorem dS_tokenFrom_59 : decode mS_tokenFrom.2.1 59 = .ok (.iconst 1, 1) := by decide +kernel
theorem dS_tokenFrom_60 : decode mS_tokenFrom.2.1 60 = .ok (.iadd, 1) := by decide +kernel
theorem dS_tokenFrom_61 : decode mS_tokenFrom.2.1 61 = .ok (.ldc 67, 2) := by decide +kernel
theorem dS_tokenFrom_63 : decode mS_tokenFrom.2.1 63 = .ok (.iload_n 2, 1) := by decide +kernel
theorem dS_tokenFrom_64 : decode mS_tokenFrom.2.1 64 = .ok (.invokevirtual 69, 3) := by decide +kernel
theorem dS_tokenFrom_67 : decode mS_tokenFrom.2.1 67 = .ok (.ifCond .lt (7), 3) := by decide +kernel
theorem dS_tokenFrom_70 : decode mS_tokenFrom.2.1 70 = .ok (.iconst 3, 1) := by decide +kernel
theorem dS_tokenFrom_71 : decode mS_tokenFrom.2.1 71 = .ok (.goto (4), 3) := by decide +kernel
theorem dS_tokenFrom_74 : decode mS_tokenFrom.2.1 74 = .ok (.iconst 4, 1) := by decide +kernel
theorem dS_tokenFrom_75 : decode mS_tokenFrom.2.1 75 = .ok (.invokestatic 60, 3) := by decide +kernel
theorem dS_tokenFrom_78 : decode mS_tokenFrom.2.1 78 = .ok (.ireturn, 1) := by decide +kernel
theorem dS_markOf_0 : decode mS_markOf.2.1 0 = .ok (.iload_n 0, 1) := by decide +kernel
theorem dS_markOf_1 : decode mS_markOf.2.1 1 = .ok (.tableswitch (42) (0) (3) #[31, 34, 37, 40], 31) := by decide +kernel
theorem dS_markOf_32 : decode mS_markOf.2.1 32 = .ok (.bipush (97), 2) := by decide +kernel
theorem dS_markOf_34 : decode mS_markOf.2.1 34 = .ok (.ireturn, 1) := by decide +kernel
theorem dS_markOf_35 : decode mS_markOf.2.1 35 = .ok (.bipush (48), 2) := by decide +kernel
theorem dS_markOf_37 : decode mS_markOf.2.1 37 = .ok (.ireturn, 1) := by decide +kernel
theorem dS_markOf_38 : decode mS_markOf.2.1 38 = .ok (.bipush (34), 2) := by decide +kernel
theorem dS_markOf_40 : decode mS_markOf.2.1 40 = .ok (.ireturn, 1) := by decide +kernel
theorem dS_markOf_41 : decode mS_markOf.2.1 41 = .ok (.iload_n 1, 1) := by decide +kernel
theorem dS_markOf_42 : decode mS_markOf.2.1 42 = .ok (.ireturn, 1) := by decide +kernel
theorem dS_markOf_43 : decode mS_markOf.2.1 43 = .ok (.bipush (63), 2) := by decide +kernel
theorem dS_markOf_45 : decode mS_markOf.2.1 45 = .ok (.ireturn, 1) := by decide +kernel
theorem dS_quotedFrom_0 : decode mS_quotedFrom.2.1 0 = .ok (.iload_n 1, 1) := by decide +kernel
theorem dS_quotedFrom_1 : decode mS_quotedFrom.2.1 1 = .ok (.iconst 1, 1) := by decide +kernel
theorem dS_quotedFrom_2 : decode mS_quotedFrom.2.1 2 = .ok (.iadd, 1) := by decide +kernel
theorem dS_quotedFrom_3 : decode mS_quotedFrom.2.1 3 = .ok (.istore_n 2, 1) := by decide +kernel
theorem dS_quotedFrom_4 : decode mS_quotedFrom.2.1 4 = .ok (.iload_n 2, 1) := by decide +kernel
theorem dS_quotedFrom_5 : decode mS_quotedFrom.2.1 5 = .ok (.aload_n 0, 1) := by decide +kernel
theorem dS_quotedFrom_6 : decode mS_quotedFrom.2.1 6 = .ok (.getfield 28, 3) := by decide +kernel
theorem dS_quotedFrom_9 : decode mS_quotedFrom.2.1 9 = .ok (.if_icmp .ge (29), 3) := by decide +kernel
theorem dS_quotedFrom_12 : decode mS_quotedFrom.2.1 12 = .ok (.aload_n 0, 1) := by decide +kernel
theorem dS_quotedFrom_13 : decode mS_quotedFrom.2.1 13 = .ok (.getfield 9, 3) := by decide +kernel
theorem dS_quotedFrom_16 : decode mS_quotedFrom.2.1 16 = .ok (.iload_n 2, 1) := by decide +kernel
theorem dS_quotedFrom_17 : decode mS_quotedFrom.2.1 17 = .ok (.caload, 1) := by decide +kernel
theorem dS_quotedFrom_18 : decode mS_quotedFrom.2.1 18 = .ok (.bipush (34), 2) := by decide +kernel
theorem dS_quotedFrom_20 : decode mS_quotedFrom.2.1 20 = .ok (.if_icmp .ne (12), 3) := by decide +kernel
theorem dS_quotedFrom_23 : decode mS_quotedFrom.2.1 23 = .ok (.iload_n 1, 1) := by decide +kernel
theorem dS_quotedFrom_24 : decode mS_quotedFrom.2.1 24 = .ok (.iload_n 2, 1) := by decide +kernel
theorem dS_quotedFrom_25 : decode mS_quotedFrom.2.1 25 = .ok (.iconst 1, 1) := by decide +kernel
theorem dS_quotedFrom_26 : decode mS_quotedFrom.2.1 26 = .ok (.iadd, 1) := by decide +kernel
theorem dS_quotedFrom_27 : decode mS_quotedFrom.2.1 27 = .ok (.iconst 2, 1) := by decide +kernel
theorem dS_quotedFrom_28 : decode mS_quotedFrom.2.1 28 = .ok (.invokestatic 60, 3) := by decide +kernel
theorem dS_quotedFrom_31 : decode mS_quotedFrom.2.1 31 = .ok (.ireturn, 1) := by decide +kernel
theorem dS_quotedFrom_32 : decode mS_quotedFrom.2.1 32 = .ok (.iinc 2 (1), 3) := by decide +kernel
theorem dS_quotedFrom_35 : decode mS_quotedFrom.2.1 35 = .ok (.goto (-31), 3) := by decide +kernel
theorem dS_quotedFrom_38 : decode mS_quotedFrom.2.1 38 = .ok (.iload_n 1, 1) := by decide +kernel
theorem dS_quotedFrom_39 : decode mS_quotedFrom.2.1 39 = .ok (.aload_n 0, 1) := by decide +kernel
theorem dS_quotedFrom_40 : decode mS_quotedFrom.2.1 40 = .ok (.getfield 28, 3) := by decide +kernel
theorem dS_quotedFrom_43 : decode mS_quotedFrom.2.1 43 = .ok (.iconst 4, 1) := by decide +kernel
theorem dS_quotedFrom_44 : decode mS_quotedFrom.2.1 44 = .ok (.invokestatic 60, 3) := by decide +kernel
theorem dS_quotedFrom_47 : decode mS_quotedFrom.2.1 47 = .ok (.ireturn, 1) := by decide +kernel
theorem dS_behindRun_0 : decode mS_behindRun.2.1 0 = .ok (.iload_n 1, 1) := by decide +kernel
theorem dS_behindRun_1 : decode mS_behindRun.2.1 1 = .ok (.istore_n 3, 1) := by decide +kernel
theorem dS_behindRun_2 : decode mS_behindRun.2.1 2 = .ok (.iload_n 3, 1) := by decide +kernel
theorem dS_behindRun_3 : decode mS_behindRun.2.1 3 = .ok (.aload_n 0, 1) := by decide +kernel
theorem dS_behindRun_4 : decode mS_behindRun.2.1 4 = .ok (.getfield 28, 3) := by decide +kernel
theorem dS_behindRun_7 : decode mS_behindRun.2.1 7 = .ok (.if_icmp .ge (40), 3) := by decide +kernel
theorem dS_behindRun_10 : decode mS_behindRun.2.1 10 = .ok (.iload_n 2, 1) := by decide +kernel
theorem dS_behindRun_11 : decode mS_behindRun.2.1 11 = .ok (.ifCond .eq (18), 3) := by decide +kernel
theorem dS_behindRun_14 : decode mS_behindRun.2.1 14 = .ok (.aload_n 0, 1) := by decide +kernel
theorem dS_behindRun_15 : decode mS_behindRun.2.1 15 = .ok (.getfield 9, 3) := by decide +kernel
theorem dS_behindRun_18 : decode mS_behindRun.2.1 18 = .ok (.iload_n 3, 1) := by decide +kernel
theorem dS_behindRun_19 : decode mS_behindRun.2.1 19 = .ok (.caload, 1) := by decide +kernel
theorem dS_behindRun_20 : decode mS_behindRun.2.1 20 = .ok (.invokestatic 52, 3) := by decide +kernel
theorem dS_behindRun_23 : decode mS_behindRun.2.1 23 = .ok (.ifCond .eq (24), 3) := by decide +kernel
theorem dS_behindRun_26 : decode mS_behindRun.2.1 26 = .ok (.goto (15), 3) := by decide +kernel
theorem dS_behindRun_29 : decode mS_behindRun.2.1 29 = .ok (.aload_n 0, 1) := by decide +kernel
theorem dS_behindRun_30 : decode mS_behindRun.2.1 30 = .ok (.getfield 9, 3) := by decide +kernel
theorem dS_behindRun_33 : decode mS_behindRun.2.1 33 = .ok (.iload_n 3, 1) := by decide +kernel
theorem dS_behindRun_34 : decode mS_behindRun.2.1 34 = .ok (.caload, 1) := by decide +kernel
theorem dS_behindRun_35 : decode mS_behindRun.2.1 35 = .ok (.invokestatic 64, 3) := by decide +kernel
theorem dS_behindRun_38 : decode mS_behindRun.2.1 38 = .ok (.ifCond .eq (9), 3) := by decide +kernel
theorem dS_behindRun_41 : decode mS_behindRun.2.1 41 = .ok (.iinc 3 (1), 3) := by decide +kernel
theorem dS_behindRun_44 : decode mS_behindRun.2.1 44 = .ok (.goto (-42), 3) := by decide +kernel
theorem dS_behindRun_47 : decode mS_behindRun.2.1 47 = .ok (.iload_n 3, 1) := by decide +kernel
theorem dS_behindRun_48 : decode mS_behindRun.2.1 48 = .ok (.ireturn, 1) := by decide +kernel
theorem dS_isLetter_0 : decode mS_isLetter.2.1 0 = .ok (.iload_n 0, 1) := by decide +kernel
theorem dS_isLetter_1 : decode mS_isLetter.2.1 1 = .ok (.bipush (97), 2) := by decide +kernel
theorem dS_isLetter_3 : decode mS_isLetter.2.1 3 = .ok (.if_icmp .lt (13), 3) := by decide +kernel
theorem dS_isLetter_6 : decode mS_isLetter.2.1 6 = .ok (.iload_n 0, 1) := by decide +kernel
theorem dS_isLetter_7 : decode mS_isLetter.2.1 7 = .ok (.bipush (122), 2) := by decide +kernel
theorem dS_isLetter_9 : decode mS_isLetter.2.1 9 = .ok (.if_icmp .gt (7), 3) := by decide +kernel
theorem dS_isLetter_12 : decode mS_isLetter.2.1 12 = .ok (.iconst 1, 1) := by decide +kernel
theorem dS_isLetter_13 : decode mS_isLetter.2.1 13 = .ok (.goto (4), 3) := by decide +kernel
theorem dS_isLetter_16 : decode mS_isLetter.2.1 16 = .ok (.iconst 0, 1) := by decide +kernel
theorem dS_isLetter_17 : decode mS_isLetter.2.1 17 = .ok (.ireturn, 1) := by decide +kernel
theorem dS_isDigit_0 : decode mS_isDigit.2.1 0 = .ok (.iload_n 0, 1) := by decide +kernel
theorem dS_isDigit_1 : decode mS_isDigit.2.1 1 = .ok (.bipush (48), 2) := by decide +kernel
theorem dS_isDigit_3 : decode mS_isDigit.2.1 3 = .ok (.if_icmp .lt (13), 3) := by decide +kernel
theorem dS_isDigit_6 : decode mS_isDigit.2.1 6 = .ok (.iload_n 0, 1) := by decide +kernel
theorem dS_isDigit_7 : decode mS_isDigit.2.1 7 = .ok (.bipush (57), 2) := by decide +kernel
theorem dS_isDigit_9 : decode mS_isDigit.2.1 9 = .ok (.if_icmp .gt (7), 3) := by decide +kernel
theorem dS_isDigit_12 : decode mS_isDigit.2.1 12 = .ok (.iconst 1, 1) := by decide +kernel
theorem dS_isDigit_13 : decode mS_isDigit.2.1 13 = .ok (.goto (4), 3) := by decide +kernel
theorem dS_isDigit_16 : decode mS_isDigit.2.1 16 = .ok (.iconst 0, 1) := by decide +kernel
theorem dS_isDigit_17 : decode mS_isDigit.2.1 17 = .ok (.ireturn, 1) := by decide +kernel
theorem dS_packed_0 : decode mS_packed.2.1 0 = .ok (.iload_n 0, 1) := by decide +kernel
theorem dS_packed_1 : decode mS_packed.2.1 1 = .ok (.sipush (2048), 3) := by decide +kernel
theorem dS_packed_4 : decode mS_packed.2.1 4 = .ok (.imul, 1) := by decide +kernel
theorem dS_packed_5 : decode mS_packed.2.1 5 = .ok (.iload_n 1, 1) := by decide +kernel
theorem dS_packed_6 : decode mS_packed.2.1 6 = .ok (.iload_n 0, 1) := by decide +kernel
theorem dS_packed_7 : decode mS_packed.2.1 7 = .ok (.isub, 1) := by decide +kernel
theorem dS_packed_8 : decode mS_packed.2.1 8 = .ok (.bipush (8), 2) := by decide +kernel
theorem dS_packed_10 : decode mS_packed.2.1 10 = .ok (.imul, 1) := by decide +kernel
theorem dS_packed_11 : decode mS_packed.2.1 11 = .ok (.iadd, 1) := by decide +kernel
theorem dS_packed_12 : decode mS_packed.2.1 12 = .ok (.iload_n 2, 1) := by decide +kernel
theorem dS_packed_13 : decode mS_packed.2.1 13 = .ok (.iadd, 1) := by decide +kernel
theorem dS_packed_14 : decode mS_packed.2.1 14 = .ok (.ireturn, 1) := by decide +kernel
theorem dS_placeOf_0 : decode mS_placeOf.2.1 0 = .ok (.aload_n 0, 1) := by decide +kernel
theorem dS_placeOf_1 : decode mS_placeOf.2.1 1 = .ok (.getfield 15, 3) := by decide +kernel
theorem dS_placeOf_4 : decode mS_placeOf.2.1 4 = .ok (.iload_n 1, 1) := by decide +kernel
theorem dS_placeOf_5 : decode mS_placeOf.2.1 5 = .ok (.iaload, 1) := by decide +kernel
theorem dS_placeOf_6 : decode mS_placeOf.2.1 6 = .ok (.sipush (2048), 3) := by decide +kernel
theorem dS_placeOf_9 : decode mS_placeOf.2.1 9 = .ok (.idiv, 1) := by decide +kernel
theorem dS_placeOf_10 : decode mS_placeOf.2.1 10 = .ok (.ireturn, 1) := by decide +kernel
theorem dS_lengthOf_0 : decode mS_lengthOf.2.1 0 = .ok (.aload_n 0, 1) := by decide +kernel
theorem dS_lengthOf_1 : decode mS_lengthOf.2.1 1 = .ok (.getfield 15, 3) := by decide +kernel
theorem dS_lengthOf_4 : decode mS_lengthOf.2.1 4 = .ok (.iload_n 1, 1) := by decide +kernel
theorem dS_lengthOf_5 : decode mS_lengthOf.2.1 5 = .ok (.iaload, 1) := by decide +kernel
theorem dS_lengthOf_6 : decode mS_lengthOf.2.1 6 = .ok (.sipush (2048), 3) := by decide +kernel
theorem dS_lengthOf_9 : decode mS_lengthOf.2.1 9 = .ok (.irem, 1) := by decide +kernel
theorem dS_lengthOf_10 : decode mS_lengthOf.2.1 10 = .ok (.bipush (8), 2) := by decide +kernel
theorem dS_lengthOf_12 : decode mS_lengthOf.2.1 12 = .ok (.idiv, 1) := by decide +kernel
theorem dS_lengthOf_13 : decode mS_lengthOf.2.1 13 = .ok (.ireturn, 1) := by decide +kernel
theorem dS_placeBehind_0 : decode mS_placeBehind.2.1 0 = .ok (.aload_n 0, 1) := by decide +kernel
theorem dS_placeBehind_1 : decode mS_placeBehind.2.1 1 = .ok (.iload_n 1, 1) := by decide +kernel
theorem dS_placeBehind_2 : decode mS_placeBehind.2.1 2 = .ok (.invokevirtual 74, 3) := by decide +kernel
theorem dS_placeBehind_5 : decode mS_placeBehind.2.1 5 = .ok (.aload_n 0, 1) := by decide +kernel
theorem dS_placeBehind_6 : decode mS_placeBehind.2.1 6 = .ok (.iload_n 1, 1) := by decide +kernel
theorem dS_placeBehind_7 : decode mS_placeBehind.2.1 7 = .ok (.invokevirtual 77, 3) := by decide +kernel
theorem dS_placeBehind_10 : decode mS_placeBehind.2.1 10 = .ok (.iadd, 1) := by decide +kernel
theorem dS_placeBehind_11 : decode mS_placeBehind.2.1 11 = .ok (.ireturn, 1) := by decide +kernel
theorem dS_movedToken_0 : decode mS_movedToken.2.1 0 = .ok (.aload_n 0, 1) := by decide +kernel
theorem dS_movedToken_1 : decode mS_movedToken.2.1 1 = .ok (.iload_n 1, 1) := by decide +kernel
theorem dS_movedToken_2 : decode mS_movedToken.2.1 2 = .ok (.invokevirtual 46, 3) := by decide +kernel
theorem dS_movedToken_5 : decode mS_movedToken.2.1 5 = .ok (.iload_n 2, 1) := by decide +kernel
theorem dS_movedToken_6 : decode mS_movedToken.2.1 6 = .ok (.if_icmp .gt (10), 3) := by decide +kernel
theorem dS_movedToken_9 : decode mS_movedToken.2.1 9 = .ok (.aload_n 0, 1) := by decide +kernel
theorem dS_movedToken_10 : decode mS_movedToken.2.1 10 = .ok (.getfield 15, 3) := by decide +kernel
theorem dS_movedToken_13 : decode mS_movedToken.2.1 13 = .ok (.iload_n 1, 1) := by decide +kernel
theorem dS_movedToken_14 : decode mS_movedToken.2.1 14 = .ok (.iaload, 1) := by decide +kernel
theorem dS_movedToken_15 : decode mS_movedToken.2.1 15 = .ok (.ireturn, 1) := by decide +kernel
theorem dS_movedToken_16 : decode mS_movedToken.2.1 16 = .ok (.aload_n 0, 1) := by decide +kernel
theorem dS_movedToken_17 : decode mS_movedToken.2.1 17 = .ok (.iload_n 1, 1) := by decide +kernel
theorem dS_movedToken_18 : decode mS_movedToken.2.1 18 = .ok (.invokevirtual 74, 3) := by decide +kernel
theorem dS_movedToken_21 : decode mS_movedToken.2.1 21 = .ok (.iload_n 2, 1) := by decide +kernel
theorem dS_movedToken_22 : decode mS_movedToken.2.1 22 = .ok (.iload_n 3, 1) := by decide +kernel
theorem dS_movedToken_23 : decode mS_movedToken.2.1 23 = .ok (.iadd, 1) := by decide +kernel
theorem dS_movedToken_24 : decode mS_movedToken.2.1 24 = .ok (.if_icmp .lt (19), 3) := by decide +kernel
theorem dS_movedToken_27 : decode mS_movedToken.2.1 27 = .ok (.aload_n 0, 1) := by decide +kernel
theorem dS_movedToken_28 : decode mS_movedToken.2.1 28 = .ok (.getfield 15, 3) := by decide +kernel
theorem dS_movedToken_31 : decode mS_movedToken.2.1 31 = .ok (.iload_n 1, 1) := by decide +kernel
theorem dS_movedToken_32 : decode mS_movedToken.2.1 32 = .ok (.iaload, 1) := by decide +kernel
theorem dS_movedToken_33 : decode mS_movedToken.2.1 33 = .ok (.iload 4, 2) := by decide +kernel
theorem dS_movedToken_35 : decode mS_movedToken.2.1 35 = .ok (.iload_n 3, 1) := by decide +kernel
theorem dS_movedToken_36 : decode mS_movedToken.2.1 36 = .ok (.isub, 1) := by decide +kernel
theorem dS_movedToken_37 : decode mS_movedToken.2.1 37 = .ok (.sipush (2048), 3) := by decide +kernel
theorem dS_movedToken_40 : decode mS_movedToken.2.1 40 = .ok (.imul, 1) := by decide +kernel
theorem dS_movedToken_41 : decode mS_movedToken.2.1 41 = .ok (.iadd, 1) := by decide +kernel
theorem dS_movedToken_42 : decode mS_movedToken.2.1 42 = .ok (.ireturn, 1) := by decide +kernel
theorem dS_movedToken_43 : decode mS_movedToken.2.1 43 = .ok (.iconst (-1), 1) := by decide +kernel
theorem dS_movedToken_44 : decode mS_movedToken.2.1 44 = .ok (.ireturn, 1) := by decide +kernel
theorem dS_areSame_0 : decode mS_areSame.2.1 0 = .ok (.aload_n 0, 1) := by decide +kernel
theorem dS_areSame_1 : decode mS_areSame.2.1 1 = .ok (.getfield 15, 3) := by decide +kernel
theorem dS_areSame_4 : decode mS_areSame.2.1 4 = .ok (.iload_n 1, 1) := by decide +kernel
theorem dS_areSame_5 : decode mS_areSame.2.1 5 = .ok (.iaload, 1) := by decide +kernel
theorem dS_areSame_6 : decode mS_areSame.2.1 6 = .ok (.sipush (2048), 3) := by decide +kernel
theorem dS_areSame_9 : decode mS_areSame.2.1 9 = .ok (.irem, 1) := by decide +kernel
theorem dS_areSame_10 : decode mS_areSame.2.1 10 = .ok (.istore_n 3, 1) := by decide +kernel
theorem dS_areSame_11 : decode mS_areSame.2.1 11 = .ok (.iload_n 3, 1) := by decide +kernel
theorem dS_areSame_12 : decode mS_areSame.2.1 12 = .ok (.aload_n 0, 1) := by decide +kernel
theorem dS_areSame_13 : decode mS_areSame.2.1 13 = .ok (.getfield 15, 3) := by decide +kernel
theorem dS_areSame_16 : decode mS_areSame.2.1 16 = .ok (.iload_n 2, 1) := by decide +kernel
theorem dS_areSame_17 : decode mS_areSame.2.1 17 = .ok (.iaload, 1) := by decide +kernel
theorem dS_areSame_18 : decode mS_areSame.2.1 18 = .ok (.sipush (2048), 3) := by decide +kernel
theorem dS_areSame_21 : decode mS_areSame.2.1 21 = .ok (.irem, 1) := by decide +kernel
theorem dS_areSame_22 : decode mS_areSame.2.1 22 = .ok (.if_icmp .eq (5), 3) := by decide +kernel
theorem dS_areSame_25 : decode mS_areSame.2.1 25 = .ok (.iconst 0, 1) := by decide +kernel
theorem dS_areSame_26 : decode mS_areSame.2.1 26 = .ok (.ireturn, 1) := by decide +kernel
theorem dS_areSame_27 : decode mS_areSame.2.1 27 = .ok (.aload_n 0, 1) := by decide +kernel
theorem dS_areSame_28 : decode mS_areSame.2.1 28 = .ok (.getfield 15, 3) := by decide +kernel
theorem dS_areSame_31 : decode mS_areSame.2.1 31 = .ok (.iload_n 1, 1) := by decide +kernel
theorem dS_areSame_32 : decode mS_areSame.2.1 32 = .ok (.iaload, 1) := by decide +kernel
theorem dS_areSame_33 : decode mS_areSame.2.1 33 = .ok (.sipush (2048), 3) := by decide +kernel
theorem dS_areSame_36 : decode mS_areSame.2.1 36 = .ok (.idiv, 1) := by decide +kernel
theorem dS_areSame_37 : decode mS_areSame.2.1 37 = .ok (.istore 4, 2) := by decide +kernel
theorem dS_areSame_39 : decode mS_areSame.2.1 39 = .ok (.aload_n 0, 1) := by decide +kernel
theorem dS_areSame_40 : decode mS_areSame.2.1 40 = .ok (.getfield 15, 3) := by decide +kernel
theorem dS_areSame_43 : decode mS_areSame.2.1 43 = .ok (.iload_n 2, 1) := by decide +kernel
theorem dS_areSame_44 : decode mS_areSame.2.1 44 = .ok (.iaload, 1) := by decide +kernel
theorem dS_areSame_45 : decode mS_areSame.2.1 45 = .ok (.sipush (2048), 3) := by decide +kernel
theorem dS_areSame_48 : decode mS_areSame.2.1 48 = .ok (.idiv, 1) := by decide +kernel
theorem dS_areSame_49 : decode mS_areSame.2.1 49 = .ok (.istore 5, 2) := by decide +kernel
theorem dS_areSame_51 : decode mS_areSame.2.1 51 = .ok (.iconst 0, 1) := by decide +kernel
theorem dS_areSame_52 : decode mS_areSame.2.1 52 = .ok (.istore 6, 2) := by decide +kernel
theorem dS_areSame_54 : decode mS_areSame.2.1 54 = .ok (.iload 6, 2) := by decide +kernel
theorem dS_areSame_56 : decode mS_areSame.2.1 56 = .ok (.iload_n 3, 1) := by decide +kernel
theorem dS_areSame_57 : decode mS_areSame.2.1 57 = .ok (.bipush (8), 2) := by decide +kernel
theorem dS_areSame_59 : decode mS_areSame.2.1 59 = .ok (.idiv, 1) := by decide +kernel
theorem dS_areSame_60 : decode mS_areSame.2.1 60 = .ok (.if_icmp .ge (34), 3) := by decide +kernel
theorem dS_areSame_63 : decode mS_areSame.2.1 63 = .ok (.aload_n 0, 1) := by decide +kernel
theorem dS_areSame_64 : decode mS_areSame.2.1 64 = .ok (.getfield 9, 3) := by decide +kernel
theorem dS_areSame_67 : decode mS_areSame.2.1 67 = .ok (.iload 4, 2) := by decide +kernel
theorem dS_areSame_69 : decode mS_areSame.2.1 69 = .ok (.iload 6, 2) := by decide +kernel
theorem dS_areSame_71 : decode mS_areSame.2.1 71 = .ok (.iadd, 1) := by decide +kernel
theorem dS_areSame_72 : decode mS_areSame.2.1 72 = .ok (.caload, 1) := by decide +kernel
theorem dS_areSame_73 : decode mS_areSame.2.1 73 = .ok (.aload_n 0, 1) := by decide +kernel
theorem dS_areSame_74 : decode mS_areSame.2.1 74 = .ok (.getfield 9, 3) := by decide +kernel
theorem dS_areSame_77 : decode mS_areSame.2.1 77 = .ok (.iload 5, 2) := by decide +kernel
theorem dS_areSame_79 : decode mS_areSame.2.1 79 = .ok (.iload 6, 2) := by decide +kernel
theorem dS_areSame_81 : decode mS_areSame.2.1 81 = .ok (.iadd, 1) := by decide +kernel
theorem dS_areSame_82 : decode mS_areSame.2.1 82 = .ok (.caload, 1) := by decide +kernel
theorem dS_areSame_83 : decode mS_areSame.2.1 83 = .ok (.if_icmp .eq (5), 3) := by decide +kernel
theorem dS_areSame_86 : decode mS_areSame.2.1 86 = .ok (.iconst 0, 1) := by decide +kernel
theorem dS_areSame_87 : decode mS_areSame.2.1 87 = .ok (.ireturn, 1) := by decide +kernel
theorem dS_areSame_88 : decode mS_areSame.2.1 88 = .ok (.iinc 6 (1), 3) := by decide +kernel
theorem dS_areSame_91 : decode mS_areSame.2.1 91 = .ok (.goto (-37), 3) := by decide +kernel
theorem dS_areSame_94 : decode mS_areSame.2.1 94 = .ok (.iconst 1, 1) := by decide +kernel
theorem dS_areSame_95 : decode mS_areSame.2.1 95 = .ok (.ireturn, 1) := by decide +kernel
theorem dS_digitsValue_0 : decode mS_digitsValue.2.1 0 = .ok (.iconst 0, 1) := by decide +kernel
theorem dS_digitsValue_1 : decode mS_digitsValue.2.1 1 = .ok (.istore_n 2, 1) := by decide +kernel
theorem dS_digitsValue_2 : decode mS_digitsValue.2.1 2 = .ok (.aload_n 0, 1) := by decide +kernel
theorem dS_digitsValue_3 : decode mS_digitsValue.2.1 3 = .ok (.iload_n 1, 1) := by decide +kernel
theorem dS_digitsValue_4 : decode mS_digitsValue.2.1 4 = .ok (.invokevirtual 74, 3) := by decide +kernel
theorem dS_digitsValue_7 : decode mS_digitsValue.2.1 7 = .ok (.istore_n 3, 1) := by decide +kernel
theorem dS_digitsValue_8 : decode mS_digitsValue.2.1 8 = .ok (.aload_n 0, 1) := by decide +kernel
theorem dS_digitsValue_9 : decode mS_digitsValue.2.1 9 = .ok (.iload_n 1, 1) := by decide +kernel
theorem dS_digitsValue_10 : decode mS_digitsValue.2.1 10 = .ok (.invokevirtual 77, 3) := by decide +kernel
theorem dS_digitsValue_13 : decode mS_digitsValue.2.1 13 = .ok (.istore 4, 2) := by decide +kernel
theorem dS_digitsValue_15 : decode mS_digitsValue.2.1 15 = .ok (.iconst 0, 1) := by decide +kernel
theorem dS_digitsValue_16 : decode mS_digitsValue.2.1 16 = .ok (.istore 5, 2) := by decide +kernel
theorem dS_digitsValue_18 : decode mS_digitsValue.2.1 18 = .ok (.iload 5, 2) := by decide +kernel
theorem dS_digitsValue_20 : decode mS_digitsValue.2.1 20 = .ok (.iload 4, 2) := by decide +kernel
theorem dS_digitsValue_22 : decode mS_digitsValue.2.1 22 = .ok (.if_icmp .ge (27), 3) := by decide +kernel
theorem dS_digitsValue_25 : decode mS_digitsValue.2.1 25 = .ok (.bipush (10), 2) := by decide +kernel
theorem dS_digitsValue_27 : decode mS_digitsValue.2.1 27 = .ok (.iload_n 2, 1) := by decide +kernel
theorem dS_digitsValue_28 : decode mS_digitsValue.2.1 28 = .ok (.imul, 1) := by decide +kernel
theorem dS_digitsValue_29 : decode mS_digitsValue.2.1 29 = .ok (.aload_n 0, 1) := by decide +kernel
theorem dS_digitsValue_30 : decode mS_digitsValue.2.1 30 = .ok (.getfield 9, 3) := by decide +kernel
theorem dS_digitsValue_33 : decode mS_digitsValue.2.1 33 = .ok (.iload_n 3, 1) := by decide +kernel
theorem dS_digitsValue_34 : decode mS_digitsValue.2.1 34 = .ok (.iload 5, 2) := by decide +kernel
theorem dS_digitsValue_36 : decode mS_digitsValue.2.1 36 = .ok (.iadd, 1) := by decide +kernel
theorem dS_digitsValue_37 : decode mS_digitsValue.2.1 37 = .ok (.caload, 1) := by decide +kernel
theorem dS_digitsValue_38 : decode mS_digitsValue.2.1 38 = .ok (.bipush (48), 2) := by decide +kernel
theorem dS_digitsValue_40 : decode mS_digitsValue.2.1 40 = .ok (.isub, 1) := by decide +kernel
theorem dS_digitsValue_41 : decode mS_digitsValue.2.1 41 = .ok (.iadd, 1) := by decide +kernel
theorem dS_digitsValue_42 : decode mS_digitsValue.2.1 42 = .ok (.istore_n 2, 1) := by decide +kernel
theorem dS_digitsValue_43 : decode mS_digitsValue.2.1 43 = .ok (.iinc 5 (1), 3) := by decide +kernel
theorem dS_digitsValue_46 : decode mS_digitsValue.2.1 46 = .ok (.goto (-28), 3) := by decide +kernel
theorem dS_digitsValue_49 : decode mS_digitsValue.2.1 49 = .ok (.iload_n 2, 1) := by decide +kernel
theorem dS_digitsValue_50 : decode mS_digitsValue.2.1 50 = .ok (.ireturn, 1) := by decide +kernel
end
section
theorem dT_init_0 : decode mT_init.2.1 0 = .ok (.aload_n 0, 1) := by decide +kernel
theorem dT_init_1 : decode mT_init.2.1 1 = .ok (.invokespecial 3, 3) := by decide +kernel
theorem dT_init_4 : decode mT_init.2.1 4 = .ok (.aload_n 0, 1) := by decide +kernel
theorem dT_init_5 : decode mT_init.2.1 5 = .ok (.sipush (160), 3) := by decide +kernel
theorem dT_init_8 : decode mT_init.2.1 8 = .ok (.newarray .int, 2) := by decide +kernel
theorem dT_init_10 : decode mT_init.2.1 10 = .ok (.putfield 9, 3) := by decide +kernel
theorem dT_init_13 : decode mT_init.2.1 13 = .ok (.aload_n 0, 1) := by decide +kernel
theorem dT_init_14 : decode mT_init.2.1 14 = .ok (.sipush (160), 3) := by decide +kernel
theorem dT_init_17 : decode mT_init.2.1 17 = .ok (.newarray .int, 2) := by decide +kernel
theorem dT_init_19 : decode mT_init.2.1 19 = .ok (.putfield 15, 3) := by decide +kernel
theorem dT_init_22 : decode mT_init.2.1 22 = .ok (.aload_n 0, 1) := by decide +kernel
theorem dT_init_23 : decode mT_init.2.1 23 = .ok (.sipush (160), 3) := by decide +kernel
theorem dT_init_26 : decode mT_init.2.1 26 = .ok (.newarray .int, 2) := by decide +kernel
theorem dT_init_28 : decode mT_init.2.1 28 = .ok (.putfield 18, 3) := by decide +kernel
theorem dT_init_31 : decode mT_init.2.1 31 = .ok (.aload_n 0, 1) := by decide +kernel
theorem dT_init_32 : decode mT_init.2.1 32 = .ok (.sipush (160), 3) := by decide +kernel
theorem dT_init_35 : decode mT_init.2.1 35 = .ok (.newarray .int, 2) := by decide +kernel
theorem dT_init_37 : decode mT_init.2.1 37 = .ok (.putfield 21, 3) := by decide +kernel
theorem dT_init_40 : decode mT_init.2.1 40 = .ok (.aload_n 0, 1) := by decide +kernel
theorem dT_init_41 : decode mT_init.2.1 41 = .ok (.sipush (160), 3) := by decide +kernel
theorem dT_init_44 : decode mT_init.2.1 44 = .ok (.newarray .int, 2) := by decide +kernel
theorem dT_init_46 : decode mT_init.2.1 46 = .ok (.putfield 24, 3) := by decide +kernel
theorem dT_init_49 : decode mT_init.2.1 49 = .ok (.return_, 1) := by decide +kernel
theorem dT_has_0 : decode mT_has.2.1 0 = .ok (.iload_n 1, 1) := by decide +kernel
theorem dT_has_1 : decode mT_has.2.1 1 = .ok (.ifCond .lt (15), 3) := by decide +kernel
theorem dT_has_4 : decode mT_has.2.1 4 = .ok (.iload_n 1, 1) := by decide +kernel
theorem dT_has_5 : decode mT_has.2.1 5 = .ok (.aload_n 0, 1) := by decide +kernel
theorem dT_has_6 : decode mT_has.2.1 6 = .ok (.getfield 27, 3) := by decide +kernel
theorem dT_has_9 : decode mT_has.2.1 9 = .ok (.if_icmp .ge (7), 3) := by decide +kernel
theorem dT_has_12 : decode mT_has.2.1 12 = .ok (.iconst 1, 1) := by decide +kernel
theorem dT_has_13 : decode mT_has.2.1 13 = .ok (.goto (4), 3) := by decide +kernel
theorem dT_has_16 : decode mT_has.2.1 16 = .ok (.iconst 0, 1) := by decide +kernel
theorem dT_has_17 : decode mT_has.2.1 17 = .ok (.ireturn, 1) := by decide +kernel
theorem dT_itemOfTokens_0 : decode mT_itemOfTokens.2.1 0 = .ok (.iconst 0, 1) := by decide +kernel
theorem dT_itemOfTokens_1 : decode mT_itemOfTokens.2.1 1 = .ok (.istore_n 3, 1) := by decide +kernel
theorem dT_itemOfTokens_2 : decode mT_itemOfTokens.2.1 2 = .ok (.iload_n 3, 1) := by decide +kernel
theorem dT_itemOfTokens_3 : decode mT_itemOfTokens.2.1 3 = .ok (.aload_n 0, 1) := by decide +kernel
theorem dT_itemOfTokens_4 : decode mT_itemOfTokens.2.1 4 = .ok (.getfield 27, 3) := by decide +kernel
theorem dT_itemOfTokens_7 : decode mT_itemOfTokens.2.1 7 = .ok (.if_icmp .ge (31), 3) := by decide +kernel
theorem dT_itemOfTokens_10 : decode mT_itemOfTokens.2.1 10 = .ok (.aload_n 0, 1) := by decide +kernel
theorem dT_itemOfTokens_11 : decode mT_itemOfTokens.2.1 11 = .ok (.getfield 9, 3) := by decide +kernel
theorem dT_itemOfTokens_14 : decode mT_itemOfTokens.2.1 14 = .ok (.iload_n 3, 1) := by decide +kernel
theorem dT_itemOfTokens_15 : decode mT_itemOfTokens.2.1 15 = .ok (.iaload, 1) := by decide +kernel
theorem dT_itemOfTokens_16 : decode mT_itemOfTokens.2.1 16 = .ok (.iload_n 1, 1) := by decide +kernel
theorem dT_itemOfTokens_17 : decode mT_itemOfTokens.2.1 17 = .ok (.if_icmp .ne (15), 3) := by decide +kernel
theorem dT_itemOfTokens_20 : decode mT_itemOfTokens.2.1 20 = .ok (.aload_n 0, 1) := by decide +kernel
theorem dT_itemOfTokens_21 : decode mT_itemOfTokens.2.1 21 = .ok (.getfield 15, 3) := by decide +kernel
theorem dT_itemOfTokens_24 : decode mT_itemOfTokens.2.1 24 = .ok (.iload_n 3, 1) := by decide +kernel
theorem dT_itemOfTokens_25 : decode mT_itemOfTokens.2.1 25 = .ok (.iaload, 1) := by decide +kernel
theorem dT_itemOfTokens_26 : decode mT_itemOfTokens.2.1 26 = .ok (.iload_n 2, 1) := by decide +kernel
theorem dT_itemOfTokens_27 : decode mT_itemOfTokens.2.1 27 = .ok (.if_icmp .ne (5), 3) := by decide +kernel
theorem dT_itemOfTokens_30 : decode mT_itemOfTokens.2.1 30 = .ok (.iload_n 3, 1) := by decide +kernel
theorem dT_itemOfTokens_31 : decode mT_itemOfTokens.2.1 31 = .ok (.ireturn, 1) := by decide +kernel
theorem dT_itemOfTokens_32 : decode mT_itemOfTokens.2.1 32 = .ok (.iinc 3 (1), 3) := by decide +kernel
theorem dT_itemOfTokens_35 : decode mT_itemOfTokens.2.1 35 = .ok (.goto (-33), 3) := by decide +kernel
theorem dT_itemOfTokens_38 : decode mT_itemOfTokens.2.1 38 = .ok (.iconst (-1), 1) := by decide +kernel
theorem dT_itemOfTokens_39 : decode mT_itemOfTokens.2.1 39 = .ok (.ireturn, 1) := by decide +kernel
theorem dT_itemNumbered_0 : decode mT_itemNumbered.2.1 0 = .ok (.iconst 0, 1) := by decide +kernel
theorem dT_itemNumbered_1 : decode mT_itemNumbered.2.1 1 = .ok (.istore_n 2, 1) := by decide +kernel
theorem dT_itemNumbered_2 : decode mT_itemNumbered.2.1 2 = .ok (.iload_n 2, 1) := by decide +kernel
theorem dT_itemNumbered_3 : decode mT_itemNumbered.2.1 3 = .ok (.aload_n 0, 1) := by decide +kernel
theorem dT_itemNumbered_4 : decode mT_itemNumbered.2.1 4 = .ok (.getfield 27, 3) := by decide +kernel
theorem dT_itemNumbered_7 : decode mT_itemNumbered.2.1 7 = .ok (.if_icmp .ge (21), 3) := by decide +kernel
theorem dT_itemNumbered_10 : decode mT_itemNumbered.2.1 10 = .ok (.aload_n 0, 1) := by decide +kernel
theorem dT_itemNumbered_11 : decode mT_itemNumbered.2.1 11 = .ok (.getfield 24, 3) := by decide +kernel
theorem dT_itemNumbered_14 : decode mT_itemNumbered.2.1 14 = .ok (.iload_n 2, 1) := by decide +kernel
theorem dT_itemNumbered_15 : decode mT_itemNumbered.2.1 15 = .ok (.iaload, 1) := by decide +kernel
theorem dT_itemNumbered_16 : decode mT_itemNumbered.2.1 16 = .ok (.iload_n 1, 1) := by decide +kernel
theorem dT_itemNumbered_17 : decode mT_itemNumbered.2.1 17 = .ok (.if_icmp .ne (5), 3) := by decide +kernel
theorem dT_itemNumbered_20 : decode mT_itemNumbered.2.1 20 = .ok (.iload_n 2, 1) := by decide +kernel
theorem dT_itemNumbered_21 : decode mT_itemNumbered.2.1 21 = .ok (.ireturn, 1) := by decide +kernel
theorem dT_itemNumbered_22 : decode mT_itemNumbered.2.1 22 = .ok (.iinc 2 (1), 3) := by decide +kernel
theorem dT_itemNumbered_25 : decode mT_itemNumbered.2.1 25 = .ok (.goto (-23), 3) := by decide +kernel
theorem dT_itemNumbered_28 : decode mT_itemNumbered.2.1 28 = .ok (.iconst (-1), 1) := by decide +kernel
theorem dT_itemNumbered_29 : decode mT_itemNumbered.2.1 29 = .ok (.ireturn, 1) := by decide +kernel
end
section
theorem dW_edit_0 : decode mW_edit.2.1 0 = .ok (.aload_n 3, 1) := by decide +kernel
theorem dW_edit_1 : decode mW_edit.2.1 1 = .ok (.iconst 0, 1) := by decide +kernel
theorem dW_edit_2 : decode mW_edit.2.1 2 = .ok (.aload_n 0, 1) := by decide +kernel
theorem dW_edit_3 : decode mW_edit.2.1 3 = .ok (.iload_n 1, 1) := by decide +kernel
theorem dW_edit_4 : decode mW_edit.2.1 4 = .ok (.iload_n 2, 1) := by decide +kernel
theorem dW_edit_5 : decode mW_edit.2.1 5 = .ok (.invokevirtual 7, 3) := by decide +kernel
theorem dW_edit_8 : decode mW_edit.2.1 8 = .ok (.i2l, 1) := by decide +kernel
theorem dW_edit_9 : decode mW_edit.2.1 9 = .ok (.lastore, 1) := by decide +kernel
theorem dW_edit_10 : decode mW_edit.2.1 10 = .ok (.goto (11), 3) := by decide +kernel
theorem dW_edit_13 : decode mW_edit.2.1 13 = .ok (.astore 4, 2) := by decide +kernel
theorem dW_edit_15 : decode mW_edit.2.1 15 = .ok (.iconst 1, 1) := by decide +kernel
theorem dW_edit_16 : decode mW_edit.2.1 16 = .ok (.ireturn, 1) := by decide +kernel
theorem dW_edit_17 : decode mW_edit.2.1 17 = .ok (.astore 4, 2) := by decide +kernel
theorem dW_edit_19 : decode mW_edit.2.1 19 = .ok (.iconst 2, 1) := by decide +kernel
theorem dW_edit_20 : decode mW_edit.2.1 20 = .ok (.ireturn, 1) := by decide +kernel
theorem dW_edit_21 : decode mW_edit.2.1 21 = .ok (.iconst 0, 1) := by decide +kernel
theorem dW_edit_22 : decode mW_edit.2.1 22 = .ok (.ireturn, 1) := by decide +kernel
theorem dW_token_0 : decode mW_token.2.1 0 = .ok (.aload_n 2, 1) := by decide +kernel
theorem dW_token_1 : decode mW_token.2.1 1 = .ok (.iconst 0, 1) := by decide +kernel
theorem dW_token_2 : decode mW_token.2.1 2 = .ok (.aload_n 0, 1) := by decide +kernel
theorem dW_token_3 : decode mW_token.2.1 3 = .ok (.iload_n 1, 1) := by decide +kernel
theorem dW_token_4 : decode mW_token.2.1 4 = .ok (.invokevirtual 17, 3) := by decide +kernel
theorem dW_token_7 : decode mW_token.2.1 7 = .ok (.i2l, 1) := by decide +kernel
theorem dW_token_8 : decode mW_token.2.1 8 = .ok (.lastore, 1) := by decide +kernel
theorem dW_token_9 : decode mW_token.2.1 9 = .ok (.goto (6), 3) := by decide +kernel
theorem dW_token_12 : decode mW_token.2.1 12 = .ok (.astore_n 3, 1) := by decide +kernel
theorem dW_token_13 : decode mW_token.2.1 13 = .ok (.iconst 1, 1) := by decide +kernel
theorem dW_token_14 : decode mW_token.2.1 14 = .ok (.ireturn, 1) := by decide +kernel
theorem dW_token_15 : decode mW_token.2.1 15 = .ok (.iconst 0, 1) := by decide +kernel
theorem dW_token_16 : decode mW_token.2.1 16 = .ok (.ireturn, 1) := by decide +kernel
theorem dW_begin_0 : decode mW_begin.2.1 0 = .ok (.aload_n 2, 1) := by decide +kernel
theorem dW_begin_1 : decode mW_begin.2.1 1 = .ok (.iconst 0, 1) := by decide +kernel
theorem dW_begin_2 : decode mW_begin.2.1 2 = .ok (.aload_n 0, 1) := by decide +kernel
theorem dW_begin_3 : decode mW_begin.2.1 3 = .ok (.iload_n 1, 1) := by decide +kernel
theorem dW_begin_4 : decode mW_begin.2.1 4 = .ok (.invokevirtual 21, 3) := by decide +kernel
theorem dW_begin_7 : decode mW_begin.2.1 7 = .ok (.i2l, 1) := by decide +kernel
theorem dW_begin_8 : decode mW_begin.2.1 8 = .ok (.lastore, 1) := by decide +kernel
theorem dW_begin_9 : decode mW_begin.2.1 9 = .ok (.goto (6), 3) := by decide +kernel
theorem dW_begin_12 : decode mW_begin.2.1 12 = .ok (.astore_n 3, 1) := by decide +kernel
theorem dW_begin_13 : decode mW_begin.2.1 13 = .ok (.iconst 1, 1) := by decide +kernel
theorem dW_begin_14 : decode mW_begin.2.1 14 = .ok (.ireturn, 1) := by decide +kernel
theorem dW_begin_15 : decode mW_begin.2.1 15 = .ok (.iconst 0, 1) := by decide +kernel
theorem dW_begin_16 : decode mW_begin.2.1 16 = .ok (.ireturn, 1) := by decide +kernel
theorem dW_end_0 : decode mW_end.2.1 0 = .ok (.aload_n 2, 1) := by decide +kernel
theorem dW_end_1 : decode mW_end.2.1 1 = .ok (.iconst 0, 1) := by decide +kernel
theorem dW_end_2 : decode mW_end.2.1 2 = .ok (.aload_n 0, 1) := by decide +kernel
theorem dW_end_3 : decode mW_end.2.1 3 = .ok (.iload_n 1, 1) := by decide +kernel
theorem dW_end_4 : decode mW_end.2.1 4 = .ok (.invokevirtual 24, 3) := by decide +kernel
theorem dW_end_7 : decode mW_end.2.1 7 = .ok (.i2l, 1) := by decide +kernel
theorem dW_end_8 : decode mW_end.2.1 8 = .ok (.lastore, 1) := by decide +kernel
theorem dW_end_9 : decode mW_end.2.1 9 = .ok (.goto (6), 3) := by decide +kernel
theorem dW_end_12 : decode mW_end.2.1 12 = .ok (.astore_n 3, 1) := by decide +kernel
theorem dW_end_13 : decode mW_end.2.1 13 = .ok (.iconst 1, 1) := by decide +kernel
theorem dW_end_14 : decode mW_end.2.1 14 = .ok (.ireturn, 1) := by decide +kernel
theorem dW_end_15 : decode mW_end.2.1 15 = .ok (.iconst 0, 1) := by decide +kernel
theorem dW_end_16 : decode mW_end.2.1 16 = .ok (.ireturn, 1) := by decide +kernel
theorem dW_value_0 : decode mW_value.2.1 0 = .ok (.aload_n 2, 1) := by decide +kernel
theorem dW_value_1 : decode mW_value.2.1 1 = .ok (.iconst 0, 1) := by decide +kernel
theorem dW_value_2 : decode mW_value.2.1 2 = .ok (.aload_n 0, 1) := by decide +kernel
theorem dW_value_3 : decode mW_value.2.1 3 = .ok (.iload_n 1, 1) := by decide +kernel
theorem dW_value_4 : decode mW_value.2.1 4 = .ok (.invokevirtual 27, 3) := by decide +kernel
theorem dW_value_7 : decode mW_value.2.1 7 = .ok (.i2l, 1) := by decide +kernel
theorem dW_value_8 : decode mW_value.2.1 8 = .ok (.lastore, 1) := by decide +kernel
theorem dW_value_9 : decode mW_value.2.1 9 = .ok (.goto (6), 3) := by decide +kernel
theorem dW_value_12 : decode mW_value.2.1 12 = .ok (.astore_n 3, 1) := by decide +kernel
theorem dW_value_13 : decode mW_value.2.1 13 = .ok (.iconst 1, 1) := by decide +kernel
theorem dW_value_14 : decode mW_value.2.1 14 = .ok (.ireturn, 1) := by decide +kernel
theorem dW_value_15 : decode mW_value.2.1 15 = .ok (.iconst 0, 1) := by decide +kernel
theorem dW_value_16 : decode mW_value.2.1 16 = .ok (.ireturn, 1) := by decide +kernel
theorem dW_law_0 : decode mW_law.2.1 0 = .ok (.new 8, 3) := by decide +kernel
theorem dW_law_3 : decode mW_law.2.1 3 = .ok (.dup, 1) := by decide +kernel
theorem dW_law_4 : decode mW_law.2.1 4 = .ok (.invokespecial 30, 3) := by decide +kernel
theorem dW_law_7 : decode mW_law.2.1 7 = .ok (.astore_n 1, 1) := by decide +kernel
theorem dW_law_8 : decode mW_law.2.1 8 = .ok (.new 31, 3) := by decide +kernel
theorem dW_law_11 : decode mW_law.2.1 11 = .ok (.dup, 1) := by decide +kernel
theorem dW_law_12 : decode mW_law.2.1 12 = .ok (.invokespecial 33, 3) := by decide +kernel
theorem dW_law_15 : decode mW_law.2.1 15 = .ok (.astore_n 2, 1) := by decide +kernel
theorem dW_law_16 : decode mW_law.2.1 16 = .ok (.iconst 1, 1) := by decide +kernel
theorem dW_law_17 : decode mW_law.2.1 17 = .ok (.newarray .long, 2) := by decide +kernel
theorem dW_law_19 : decode mW_law.2.1 19 = .ok (.astore_n 3, 1) := by decide +kernel
theorem dW_law_20 : decode mW_law.2.1 20 = .ok (.iconst 0, 1) := by decide +kernel
theorem dW_law_21 : decode mW_law.2.1 21 = .ok (.istore 4, 2) := by decide +kernel
theorem dW_law_23 : decode mW_law.2.1 23 = .ok (.iload 4, 2) := by decide +kernel
theorem dW_law_25 : decode mW_law.2.1 25 = .ok (.aload_n 0, 1) := by decide +kernel
theorem dW_law_26 : decode mW_law.2.1 26 = .ok (.arraylength, 1) := by decide +kernel
theorem dW_law_27 : decode mW_law.2.1 27 = .ok (.iconst 3, 1) := by decide +kernel
theorem dW_law_28 : decode mW_law.2.1 28 = .ok (.isub, 1) := by decide +kernel
theorem dW_law_29 : decode mW_law.2.1 29 = .ok (.if_icmp .gt (590), 3) := by decide +kernel
theorem dW_law_32 : decode mW_law.2.1 32 = .ok (.aload_n 0, 1) := by decide +kernel
theorem dW_law_33 : decode mW_law.2.1 33 = .ok (.iload 4, 2) := by decide +kernel
theorem dW_law_35 : decode mW_law.2.1 35 = .ok (.iaload, 1) := by decide +kernel
theorem dW_law_36 : decode mW_law.2.1 36 = .ok (.bipush (15), 2) := by decide +kernel
theorem dW_law_38 : decode mW_law.2.1 38 = .ok (.iand, 1) := by decide +kernel
theorem dW_law_39 : decode mW_law.2.1 39 = .ok (.tableswitch (574) (0) (15) #[77, 104, 117, 185, 198, 223, 236, 292, 305, 318, 331, 356, 381, 437, 493, 518], 77) := by decide +kernel
theorem dW_law_116 : decode mW_law.2.1 116 = .ok (.aload_n 1, 1) := by decide +kernel
theorem dW_law_117 : decode mW_law.2.1 117 = .ok (.aload_n 0, 1) := by decide +kernel
theorem dW_law_118 : decode mW_law.2.1 118 = .ok (.iload 4, 2) := by decide +kernel
theorem dW_law_120 : decode mW_law.2.1 120 = .ok (.iconst 1, 1) := by decide +kernel
theorem dW_law_121 : decode mW_law.2.1 121 = .ok (.iadd, 1) := by decide +kernel
theorem dW_law_122 : decode mW_law.2.1 122 = .ok (.iaload, 1) := by decide +kernel
theorem dW_law_123 : decode mW_law.2.1 123 = .ok (.i2c, 1) := by decide +kernel
theorem dW_law_124 : decode mW_law.2.1 124 = .ok (.invokevirtual 34, 3) := by decide +kernel
theorem dW_law_127 : decode mW_law.2.1 127 = .ok (.aload_n 2, 1) := by decide +kernel
theorem dW_law_128 : decode mW_law.2.1 128 = .ok (.aload_n 0, 1) := by decide +kernel
theorem dW_law_129 : decode mW_law.2.1 129 = .ok (.iload 4, 2) := by decide +kernel
theorem dW_law_131 : decode mW_law.2.1 131 = .ok (.iconst 1, 1) := by decide +kernel
theorem dW_law_132 : decode mW_law.2.1 132 = .ok (.iadd, 1) := by decide +kernel
theorem dW_law_133 : decode mW_law.2.1 133 = .ok (.iaload, 1) := by decide +kernel
theorem dW_law_134 : decode mW_law.2.1 134 = .ok (.i2c, 1) := by decide +kernel
theorem dW_law_135 : decode mW_law.2.1 135 = .ok (.invokevirtual 38, 3) := by decide +kernel
theorem dW_law_138 : decode mW_law.2.1 138 = .ok (.if_icmp .eq (475), 3) := by decide +kernel
theorem dW_law_141 : decode mW_law.2.1 141 = .ok (.iconst 0, 1) := by decide +kernel
theorem dW_law_142 : decode mW_law.2.1 142 = .ok (.ireturn, 1) := by decide +kernel
theorem dW_law_143 : decode mW_law.2.1 143 = .ok (.aload_n 1, 1) := by decide +kernel
theorem dW_law_144 : decode mW_law.2.1 144 = .ok (.invokevirtual 39, 3) := by decide +kernel
theorem dW_law_147 : decode mW_law.2.1 147 = .ok (.aload_n 2, 1) := by decide +kernel
theorem dW_law_148 : decode mW_law.2.1 148 = .ok (.invokevirtual 43, 3) := by decide +kernel
theorem dW_law_151 : decode mW_law.2.1 151 = .ok (.if_icmp .eq (462), 3) := by decide +kernel
theorem dW_law_154 : decode mW_law.2.1 154 = .ok (.iconst 0, 1) := by decide +kernel
theorem dW_law_155 : decode mW_law.2.1 155 = .ok (.ireturn, 1) := by decide +kernel
theorem dW_law_156 : decode mW_law.2.1 156 = .ok (.aload_n 1, 1) := by decide +kernel
theorem dW_law_157 : decode mW_law.2.1 157 = .ok (.aload_n 0, 1) := by decide +kernel
theorem dW_law_158 : decode mW_law.2.1 158 = .ok (.iload 4, 2) := by decide +kernel
theorem dW_law_160 : decode mW_law.2.1 160 = .ok (.iconst 1, 1) := by decide +kernel
theorem dW_law_161 : decode mW_law.2.1 161 = .ok (.iadd, 1) := by decide +kernel
theorem dW_law_162 : decode mW_law.2.1 162 = .ok (.iaload, 1) := by decide +kernel
theorem dW_law_163 : decode mW_law.2.1 163 = .ok (.aload_n 0, 1) := by decide +kernel
theorem dW_law_164 : decode mW_law.2.1 164 = .ok (.iload 4, 2) := by decide +kernel
theorem dW_law_166 : decode mW_law.2.1 166 = .ok (.iconst 2, 1) := by decide +kernel
theorem dW_law_167 : decode mW_law.2.1 167 = .ok (.iadd, 1) := by decide +kernel
theorem dW_law_168 : decode mW_law.2.1 168 = .ok (.iaload, 1) := by decide +kernel
theorem dW_law_169 : decode mW_law.2.1 169 = .ok (.aload_n 3, 1) := by decide +kernel
theorem dW_law_170 : decode mW_law.2.1 170 = .ok (.invokestatic 44, 3) := by decide +kernel
theorem dW_law_173 : decode mW_law.2.1 173 = .ok (.istore 5, 2) := by decide +kernel
theorem dW_law_175 : decode mW_law.2.1 175 = .ok (.aload_n 2, 1) := by decide +kernel
theorem dW_law_176 : decode mW_law.2.1 176 = .ok (.aload_n 0, 1) := by decide +kernel
theorem dW_law_177 : decode mW_law.2.1 177 = .ok (.iload 4, 2) := by decide +kernel
theorem dW_law_179 : decode mW_law.2.1 179 = .ok (.iconst 1, 1) := by decide +kernel
theorem dW_law_180 : decode mW_law.2.1 180 = .ok (.iadd, 1) := by decide +kernel
theorem dW_law_181 : decode mW_law.2.1 181 = .ok (.iaload, 1) := by decide +kernel
theorem dW_law_182 : decode mW_law.2.1 182 = .ok (.aload_n 0, 1) := by decide +kernel
theorem dW_law_183 : decode mW_law.2.1 183 = .ok (.iload 4, 2) := by decide +kernel
theorem dW_law_185 : decode mW_law.2.1 185 = .ok (.iconst 2, 1) := by decide +kernel
theorem dW_law_186 : decode mW_law.2.1 186 = .ok (.iadd, 1) := by decide +kernel
theorem dW_law_187 : decode mW_law.2.1 187 = .ok (.iaload, 1) := by decide +kernel
theorem dW_law_188 : decode mW_law.2.1 188 = .ok (.invokevirtual 49, 3) := by decide +kernel
theorem dW_law_191 : decode mW_law.2.1 191 = .ok (.istore 6, 2) := by decide +kernel
theorem dW_law_193 : decode mW_law.2.1 193 = .ok (.aload_n 2, 1) := by decide +kernel
theorem dW_law_194 : decode mW_law.2.1 194 = .ok (.invokevirtual 50, 3) := by decide +kernel
theorem dW_law_197 : decode mW_law.2.1 197 = .ok (.iload 5, 2) := by decide +kernel
theorem dW_law_199 : decode mW_law.2.1 199 = .ok (.if_icmp .eq (5), 3) := by decide +kernel
theorem dW_law_202 : decode mW_law.2.1 202 = .ok (.iconst 0, 1) := by decide +kernel
theorem dW_law_203 : decode mW_law.2.1 203 = .ok (.ireturn, 1) := by decide +kernel
theorem dW_law_204 : decode mW_law.2.1 204 = .ok (.iload 5, 2) := by decide +kernel
theorem dW_law_206 : decode mW_law.2.1 206 = .ok (.ifCond .ne (15), 3) := by decide +kernel
theorem dW_law_209 : decode mW_law.2.1 209 = .ok (.aload_n 3, 1) := by decide +kernel
theorem dW_law_210 : decode mW_law.2.1 210 = .ok (.iconst 0, 1) := by decide +kernel
theorem dW_law_211 : decode mW_law.2.1 211 = .ok (.laload, 1) := by decide +kernel
theorem dW_law_212 : decode mW_law.2.1 212 = .ok (.iload 6, 2) := by decide +kernel
theorem dW_law_214 : decode mW_law.2.1 214 = .ok (.i2l, 1) := by decide +kernel
theorem dW_law_215 : decode mW_law.2.1 215 = .ok (.lcmp, 1) := by decide +kernel
theorem dW_law_216 : decode mW_law.2.1 216 = .ok (.ifCond .eq (5), 3) := by decide +kernel
theorem dW_law_219 : decode mW_law.2.1 219 = .ok (.iconst 0, 1) := by decide +kernel
theorem dW_law_220 : decode mW_law.2.1 220 = .ok (.ireturn, 1) := by decide +kernel
theorem dW_law_221 : decode mW_law.2.1 221 = .ok (.goto (392), 3) := by decide +kernel
theorem dW_law_224 : decode mW_law.2.1 224 = .ok (.aload_n 1, 1) := by decide +kernel
theorem dW_law_225 : decode mW_law.2.1 225 = .ok (.invokevirtual 53, 3) := by decide +kernel
theorem dW_law_228 : decode mW_law.2.1 228 = .ok (.aload_n 2, 1) := by decide +kernel
theorem dW_law_229 : decode mW_law.2.1 229 = .ok (.invokevirtual 56, 3) := by decide +kernel
theorem dW_law_232 : decode mW_law.2.1 232 = .ok (.if_icmp .eq (381), 3) := by decide +kernel
theorem dW_law_235 : decode mW_law.2.1 235 = .ok (.iconst 0, 1) := by decide +kernel
theorem dW_law_236 : decode mW_law.2.1 236 = .ok (.ireturn, 1) := by decide +kernel
theorem dW_law_237 : decode mW_law.2.1 237 = .ok (.aload_n 1, 1) := by decide +kernel
theorem dW_law_238 : decode mW_law.2.1 238 = .ok (.aload_n 0, 1) := by decide +kernel
theorem dW_law_239 : decode mW_law.2.1 239 = .ok (.iload 4, 2) := by decide +kernel
theorem dW_law_241 : decode mW_law.2.1 241 = .ok (.iconst 1, 1) := by decide +kernel
theorem dW_law_242 : decode mW_law.2.1 242 = .ok (.iadd, 1) := by decide +kernel
theorem dW_law_243 : decode mW_law.2.1 243 = .ok (.iaload, 1) := by decide +kernel
theorem dW_law_244 : decode mW_law.2.1 244 = .ok (.invokevirtual 57, 3) := by decide +kernel
theorem dW_law_247 : decode mW_law.2.1 247 = .ok (.aload_n 2, 1) := by decide +kernel
theorem dW_law_248 : decode mW_law.2.1 248 = .ok (.aload_n 0, 1) := by decide +kernel
theorem dW_law_249 : decode mW_law.2.1 249 = .ok (.iload 4, 2) := by decide +kernel
theorem dW_law_251 : decode mW_law.2.1 251 = .ok (.iconst 1, 1) := by decide +kernel
theorem dW_law_252 : decode mW_law.2.1 252 = .ok (.iadd, 1) := by decide +kernel
theorem dW_law_253 : decode mW_law.2.1 253 = .ok (.iaload, 1) := by decide +kernel
theorem dW_law_254 : decode mW_law.2.1 254 = .ok (.invokevirtual 61, 3) := by decide +kernel
theorem dW_law_257 : decode mW_law.2.1 257 = .ok (.if_icmp .eq (356), 3) := by decide +kernel
theorem dW_law_260 : decode mW_law.2.1 260 = .ok (.iconst 0, 1) := by decide +kernel
theorem dW_law_261 : decode mW_law.2.1 261 = .ok (.ireturn, 1) := by decide +kernel
theorem dW_law_262 : decode mW_law.2.1 262 = .ok (.aload_n 1, 1) := by decide +kernel
theorem dW_law_263 : decode mW_law.2.1 263 = .ok (.invokevirtual 62, 3) := by decide +kernel
theorem dW_law_266 : decode mW_law.2.1 266 = .ok (.aload_n 2, 1) := by decide +kernel
theorem dW_law_267 : decode mW_law.2.1 267 = .ok (.invokevirtual 65, 3) := by decide +kernel
theorem dW_law_270 : decode mW_law.2.1 270 = .ok (.if_icmp .eq (343), 3) := by decide +kernel
theorem dW_law_273 : decode mW_law.2.1 273 = .ok (.iconst 0, 1) := by decide +kernel
theorem dW_law_274 : decode mW_law.2.1 274 = .ok (.ireturn, 1) := by decide +kernel
theorem dW_law_275 : decode mW_law.2.1 275 = .ok (.aload_n 1, 1) := by decide +kernel
theorem dW_law_276 : decode mW_law.2.1 276 = .ok (.aload_n 0, 1) := by decide +kernel
theorem dW_law_277 : decode mW_law.2.1 277 = .ok (.iload 4, 2) := by decide +kernel
theorem dW_law_279 : decode mW_law.2.1 279 = .ok (.iconst 1, 1) := by decide +kernel
theorem dW_law_280 : decode mW_law.2.1 280 = .ok (.iadd, 1) := by decide +kernel
theorem dW_law_281 : decode mW_law.2.1 281 = .ok (.iaload, 1) := by decide +kernel
theorem dW_law_282 : decode mW_law.2.1 282 = .ok (.aload_n 3, 1) := by decide +kernel
theorem dW_law_283 : decode mW_law.2.1 283 = .ok (.invokestatic 66, 3) := by decide +kernel
theorem dW_law_286 : decode mW_law.2.1 286 = .ok (.istore 5, 2) := by decide +kernel
theorem dW_law_288 : decode mW_law.2.1 288 = .ok (.aload_n 2, 1) := by decide +kernel
theorem dW_law_289 : decode mW_law.2.1 289 = .ok (.aload_n 0, 1) := by decide +kernel
theorem dW_law_290 : decode mW_law.2.1 290 = .ok (.iload 4, 2) := by decide +kernel
theorem dW_law_292 : decode mW_law.2.1 292 = .ok (.iconst 1, 1) := by decide +kernel
theorem dW_law_293 : decode mW_law.2.1 293 = .ok (.iadd, 1) := by decide +kernel
theorem dW_law_294 : decode mW_law.2.1 294 = .ok (.iaload, 1) := by decide +kernel
theorem dW_law_295 : decode mW_law.2.1 295 = .ok (.invokevirtual 69, 3) := by decide +kernel
theorem dW_law_298 : decode mW_law.2.1 298 = .ok (.istore 6, 2) := by decide +kernel
theorem dW_law_300 : decode mW_law.2.1 300 = .ok (.aload_n 2, 1) := by decide +kernel
theorem dW_law_301 : decode mW_law.2.1 301 = .ok (.invokevirtual 50, 3) := by decide +kernel
theorem dW_law_304 : decode mW_law.2.1 304 = .ok (.iload 5, 2) := by decide +kernel
theorem dW_law_306 : decode mW_law.2.1 306 = .ok (.if_icmp .eq (5), 3) := by decide +kernel
theorem dW_law_309 : decode mW_law.2.1 309 = .ok (.iconst 0, 1) := by decide +kernel
theorem dW_law_310 : decode mW_law.2.1 310 = .ok (.ireturn, 1) := by decide +kernel
theorem dW_law_311 : decode mW_law.2.1 311 = .ok (.iload 5, 2) := by decide +kernel
theorem dW_law_313 : decode mW_law.2.1 313 = .ok (.ifCond .ne (15), 3) := by decide +kernel
theorem dW_law_316 : decode mW_law.2.1 316 = .ok (.aload_n 3, 1) := by decide +kernel
theorem dW_law_317 : decode mW_law.2.1 317 = .ok (.iconst 0, 1) := by decide +kernel
theorem dW_law_318 : decode mW_law.2.1 318 = .ok (.laload, 1) := by decide +kernel
theorem dW_law_319 : decode mW_law.2.1 319 = .ok (.iload 6, 2) := by decide +kernel
theorem dW_law_321 : decode mW_law.2.1 321 = .ok (.i2l, 1) := by decide +kernel
theorem dW_law_322 : decode mW_law.2.1 322 = .ok (.lcmp, 1) := by decide +kernel
theorem dW_law_323 : decode mW_law.2.1 323 = .ok (.ifCond .eq (5), 3) := by decide +kernel
theorem dW_law_326 : decode mW_law.2.1 326 = .ok (.iconst 0, 1) := by decide +kernel
theorem dW_law_327 : decode mW_law.2.1 327 = .ok (.ireturn, 1) := by decide +kernel
theorem dW_law_328 : decode mW_law.2.1 328 = .ok (.goto (285), 3) := by decide +kernel
theorem dW_law_331 : decode mW_law.2.1 331 = .ok (.aload_n 1, 1) := by decide +kernel
theorem dW_law_332 : decode mW_law.2.1 332 = .ok (.invokevirtual 70, 3) := by decide +kernel
theorem dW_law_335 : decode mW_law.2.1 335 = .ok (.aload_n 2, 1) := by decide +kernel
theorem dW_law_336 : decode mW_law.2.1 336 = .ok (.invokevirtual 73, 3) := by decide +kernel
theorem dW_law_339 : decode mW_law.2.1 339 = .ok (.if_icmp .eq (274), 3) := by decide +kernel
theorem dW_law_342 : decode mW_law.2.1 342 = .ok (.iconst 0, 1) := by decide +kernel
theorem dW_law_343 : decode mW_law.2.1 343 = .ok (.ireturn, 1) := by decide +kernel
theorem dW_law_344 : decode mW_law.2.1 344 = .ok (.aload_n 1, 1) := by decide +kernel
theorem dW_law_345 : decode mW_law.2.1 345 = .ok (.invokevirtual 74, 3) := by decide +kernel
theorem dW_law_348 : decode mW_law.2.1 348 = .ok (.aload_n 2, 1) := by decide +kernel
theorem dW_law_349 : decode mW_law.2.1 349 = .ok (.invokevirtual 77, 3) := by decide +kernel
theorem dW_law_352 : decode mW_law.2.1 352 = .ok (.if_icmp .eq (261), 3) := by decide +kernel
theorem dW_law_355 : decode mW_law.2.1 355 = .ok (.iconst 0, 1) := by decide +kernel
theorem dW_law_356 : decode mW_law.2.1 356 = .ok (.ireturn, 1) := by decide +kernel
theorem dW_law_357 : decode mW_law.2.1 357 = .ok (.aload_n 1, 1) := by decide +kernel
theorem dW_law_358 : decode mW_law.2.1 358 = .ok (.invokevirtual 78, 3) := by decide +kernel
theorem dW_law_361 : decode mW_law.2.1 361 = .ok (.aload_n 2, 1) := by decide +kernel
theorem dW_law_362 : decode mW_law.2.1 362 = .ok (.invokevirtual 81, 3) := by decide +kernel
theorem dW_law_365 : decode mW_law.2.1 365 = .ok (.if_icmp .eq (248), 3) := by decide +kernel
theorem dW_law_368 : decode mW_law.2.1 368 = .ok (.iconst 0, 1) := by decide +kernel
theorem dW_law_369 : decode mW_law.2.1 369 = .ok (.ireturn, 1) := by decide +kernel
theorem dW_law_370 : decode mW_law.2.1 370 = .ok (.aload_n 1, 1) := by decide +kernel
theorem dW_law_371 : decode mW_law.2.1 371 = .ok (.aload_n 0, 1) := by decide +kernel
theorem dW_law_372 : decode mW_law.2.1 372 = .ok (.iload 4, 2) := by decide +kernel
theorem dW_law_374 : decode mW_law.2.1 374 = .ok (.iconst 1, 1) := by decide +kernel
theorem dW_law_375 : decode mW_law.2.1 375 = .ok (.iadd, 1) := by decide +kernel
theorem dW_law_376 : decode mW_law.2.1 376 = .ok (.iaload, 1) := by decide +kernel
theorem dW_law_377 : decode mW_law.2.1 377 = .ok (.invokevirtual 82, 3) := by decide +kernel
theorem dW_law_380 : decode mW_law.2.1 380 = .ok (.aload_n 2, 1) := by decide +kernel
theorem dW_law_381 : decode mW_law.2.1 381 = .ok (.aload_n 0, 1) := by decide +kernel
theorem dW_law_382 : decode mW_law.2.1 382 = .ok (.iload 4, 2) := by decide +kernel
theorem dW_law_384 : decode mW_law.2.1 384 = .ok (.iconst 1, 1) := by decide +kernel
theorem dW_law_385 : decode mW_law.2.1 385 = .ok (.iadd, 1) := by decide +kernel
theorem dW_law_386 : decode mW_law.2.1 386 = .ok (.iaload, 1) := by decide +kernel
theorem dW_law_387 : decode mW_law.2.1 387 = .ok (.invokevirtual 85, 3) := by decide +kernel
theorem dW_law_390 : decode mW_law.2.1 390 = .ok (.if_icmp .eq (223), 3) := by decide +kernel
theorem dW_law_393 : decode mW_law.2.1 393 = .ok (.iconst 0, 1) := by decide +kernel
theorem dW_law_394 : decode mW_law.2.1 394 = .ok (.ireturn, 1) := by decide +kernel
theorem dW_law_395 : decode mW_law.2.1 395 = .ok (.aload_n 1, 1) := by decide +kernel
theorem dW_law_396 : decode mW_law.2.1 396 = .ok (.aload_n 0, 1) := by decide +kernel
theorem dW_law_397 : decode mW_law.2.1 397 = .ok (.iload 4, 2) := by decide +kernel
theorem dW_law_399 : decode mW_law.2.1 399 = .ok (.iconst 1, 1) := by decide +kernel
theorem dW_law_400 : decode mW_law.2.1 400 = .ok (.iadd, 1) := by decide +kernel
theorem dW_law_401 : decode mW_law.2.1 401 = .ok (.iaload, 1) := by decide +kernel
theorem dW_law_402 : decode mW_law.2.1 402 = .ok (.invokevirtual 86, 3) := by decide +kernel
theorem dW_law_405 : decode mW_law.2.1 405 = .ok (.aload_n 2, 1) := by decide +kernel
theorem dW_law_406 : decode mW_law.2.1 406 = .ok (.aload_n 0, 1) := by decide +kernel
theorem dW_law_407 : decode mW_law.2.1 407 = .ok (.iload 4, 2) := by decide +kernel
theorem dW_law_409 : decode mW_law.2.1 409 = .ok (.iconst 1, 1) := by decide +kernel
theorem dW_law_410 : decode mW_law.2.1 410 = .ok (.iadd, 1) := by decide +kernel
theorem dW_law_411 : decode mW_law.2.1 411 = .ok (.iaload, 1) := by decide +kernel
theorem dW_law_412 : decode mW_law.2.1 412 = .ok (.invokevirtual 89, 3) := by decide +kernel
theorem dW_law_415 : decode mW_law.2.1 415 = .ok (.if_icmp .eq (198), 3) := by decide +kernel
theorem dW_law_418 : decode mW_law.2.1 418 = .ok (.iconst 0, 1) := by decide +kernel
theorem dW_law_419 : decode mW_law.2.1 419 = .ok (.ireturn, 1) := by decide +kernel
theorem dW_law_420 : decode mW_law.2.1 420 = .ok (.aload_n 1, 1) := by decide +kernel
theorem dW_law_421 : decode mW_law.2.1 421 = .ok (.aload_n 0, 1) := by decide +kernel
theorem dW_law_422 : decode mW_law.2.1 422 = .ok (.iload 4, 2) := by decide +kernel
theorem dW_law_424 : decode mW_law.2.1 424 = .ok (.iconst 1, 1) := by decide +kernel
theorem dW_law_425 : decode mW_law.2.1 425 = .ok (.iadd, 1) := by decide +kernel
theorem dW_law_426 : decode mW_law.2.1 426 = .ok (.iaload, 1) := by decide +kernel
theorem dW_law_427 : decode mW_law.2.1 427 = .ok (.aload_n 3, 1) := by decide +kernel
theorem dW_law_428 : decode mW_law.2.1 428 = .ok (.invokestatic 90, 3) := by decide +kernel
theorem dW_law_431 : decode mW_law.2.1 431 = .ok (.istore 5, 2) := by decide +kernel
theorem dW_law_433 : decode mW_law.2.1 433 = .ok (.aload_n 2, 1) := by decide +kernel
theorem dW_law_434 : decode mW_law.2.1 434 = .ok (.aload_n 0, 1) := by decide +kernel
theorem dW_law_435 : decode mW_law.2.1 435 = .ok (.iload 4, 2) := by decide +kernel
theorem dW_law_437 : decode mW_law.2.1 437 = .ok (.iconst 1, 1) := by decide +kernel
theorem dW_law_438 : decode mW_law.2.1 438 = .ok (.iadd, 1) := by decide +kernel
theorem dW_law_439 : decode mW_law.2.1 439 = .ok (.iaload, 1) := by decide +kernel
theorem dW_law_440 : decode mW_law.2.1 440 = .ok (.invokevirtual 92, 3) := by decide +kernel
theorem dW_law_443 : decode mW_law.2.1 443 = .ok (.istore 6, 2) := by decide +kernel
theorem dW_law_445 : decode mW_law.2.1 445 = .ok (.aload_n 2, 1) := by decide +kernel
theorem dW_law_446 : decode mW_law.2.1 446 = .ok (.invokevirtual 50, 3) := by decide +kernel
theorem dW_law_449 : decode mW_law.2.1 449 = .ok (.iload 5, 2) := by decide +kernel
theorem dW_law_451 : decode mW_law.2.1 451 = .ok (.if_icmp .eq (5), 3) := by decide +kernel
theorem dW_law_454 : decode mW_law.2.1 454 = .ok (.iconst 0, 1) := by decide +kernel
theorem dW_law_455 : decode mW_law.2.1 455 = .ok (.ireturn, 1) := by decide +kernel
theorem dW_law_456 : decode mW_law.2.1 456 = .ok (.iload 5, 2) := by decide +kernel
theorem dW_law_458 : decode mW_law.2.1 458 = .ok (.ifCond .ne (15), 3) := by decide +kernel
theorem dW_law_461 : decode mW_law.2.1 461 = .ok (.aload_n 3, 1) := by decide +kernel
theorem dW_law_462 : decode mW_law.2.1 462 = .ok (.iconst 0, 1) := by decide +kernel
theorem dW_law_463 : decode mW_law.2.1 463 = .ok (.laload, 1) := by decide +kernel
theorem dW_law_464 : decode mW_law.2.1 464 = .ok (.iload 6, 2) := by decide +kernel
theorem dW_law_466 : decode mW_law.2.1 466 = .ok (.i2l, 1) := by decide +kernel
theorem dW_law_467 : decode mW_law.2.1 467 = .ok (.lcmp, 1) := by decide +kernel
theorem dW_law_468 : decode mW_law.2.1 468 = .ok (.ifCond .eq (5), 3) := by decide +kernel
theorem dW_law_471 : decode mW_law.2.1 471 = .ok (.iconst 0, 1) := by decide +kernel
theorem dW_law_472 : decode mW_law.2.1 472 = .ok (.ireturn, 1) := by decide +kernel
theorem dW_law_473 : decode mW_law.2.1 473 = .ok (.goto (140), 3) := by decide +kernel
theorem dW_law_476 : decode mW_law.2.1 476 = .ok (.aload_n 1, 1) := by decide +kernel
theorem dW_law_477 : decode mW_law.2.1 477 = .ok (.aload_n 0, 1) := by decide +kernel
theorem dW_law_478 : decode mW_law.2.1 478 = .ok (.iload 4, 2) := by decide +kernel
theorem dW_law_480 : decode mW_law.2.1 480 = .ok (.iconst 1, 1) := by decide +kernel
theorem dW_law_481 : decode mW_law.2.1 481 = .ok (.iadd, 1) := by decide +kernel
theorem dW_law_482 : decode mW_law.2.1 482 = .ok (.iaload, 1) := by decide +kernel
theorem dW_law_483 : decode mW_law.2.1 483 = .ok (.aload_n 3, 1) := by decide +kernel
theorem dW_law_484 : decode mW_law.2.1 484 = .ok (.invokestatic 93, 3) := by decide +kernel
theorem dW_law_487 : decode mW_law.2.1 487 = .ok (.istore 5, 2) := by decide +kernel
theorem dW_law_489 : decode mW_law.2.1 489 = .ok (.aload_n 2, 1) := by decide +kernel
theorem dW_law_490 : decode mW_law.2.1 490 = .ok (.aload_n 0, 1) := by decide +kernel
theorem dW_law_491 : decode mW_law.2.1 491 = .ok (.iload 4, 2) := by decide +kernel
theorem dW_law_493 : decode mW_law.2.1 493 = .ok (.iconst 1, 1) := by decide +kernel
theorem dW_law_494 : decode mW_law.2.1 494 = .ok (.iadd, 1) := by decide +kernel
theorem dW_law_495 : decode mW_law.2.1 495 = .ok (.iaload, 1) := by decide +kernel
theorem dW_law_496 : decode mW_law.2.1 496 = .ok (.invokevirtual 95, 3) := by decide +kernel
theorem dW_law_499 : decode mW_law.2.1 499 = .ok (.istore 6, 2) := by decide +kernel
theorem dW_law_501 : decode mW_law.2.1 501 = .ok (.aload_n 2, 1) := by decide +kernel
theorem dW_law_502 : decode mW_law.2.1 502 = .ok (.invokevirtual 50, 3) := by decide +kernel
theorem dW_law_505 : decode mW_law.2.1 505 = .ok (.iload 5, 2) := by decide +kernel
theorem dW_law_507 : decode mW_law.2.1 507 = .ok (.if_icmp .eq (5), 3) := by decide +kernel
theorem dW_law_510 : decode mW_law.2.1 510 = .ok (.iconst 0, 1) := by decide +kernel
theorem dW_law_511 : decode mW_law.2.1 511 = .ok (.ireturn, 1) := by decide +kernel
theorem dW_law_512 : decode mW_law.2.1 512 = .ok (.iload 5, 2) := by decide +kernel
theorem dW_law_514 : decode mW_law.2.1 514 = .ok (.ifCond .ne (15), 3) := by decide +kernel
theorem dW_law_517 : decode mW_law.2.1 517 = .ok (.aload_n 3, 1) := by decide +kernel
theorem dW_law_518 : decode mW_law.2.1 518 = .ok (.iconst 0, 1) := by decide +kernel
theorem dW_law_519 : decode mW_law.2.1 519 = .ok (.laload, 1) := by decide +kernel
theorem dW_law_520 : decode mW_law.2.1 520 = .ok (.iload 6, 2) := by decide +kernel
theorem dW_law_522 : decode mW_law.2.1 522 = .ok (.i2l, 1) := by decide +kernel
theorem dW_law_523 : decode mW_law.2.1 523 = .ok (.lcmp, 1) := by decide +kernel
theorem dW_law_524 : decode mW_law.2.1 524 = .ok (.ifCond .eq (5), 3) := by decide +kernel
theorem dW_law_527 : decode mW_law.2.1 527 = .ok (.iconst 0, 1) := by decide +kernel
theorem dW_law_528 : decode mW_law.2.1 528 = .ok (.ireturn, 1) := by decide +kernel
theorem dW_law_529 : decode mW_law.2.1 529 = .ok (.goto (84), 3) := by decide +kernel
theorem dW_law_532 : decode mW_law.2.1 532 = .ok (.aload_n 1, 1) := by decide +kernel
theorem dW_law_533 : decode mW_law.2.1 533 = .ok (.aload_n 0, 1) := by decide +kernel
theorem dW_law_534 : decode mW_law.2.1 534 = .ok (.iload 4, 2) := by decide +kernel
theorem dW_law_536 : decode mW_law.2.1 536 = .ok (.iconst 1, 1) := by decide +kernel
theorem dW_law_537 : decode mW_law.2.1 537 = .ok (.iadd, 1) := by decide +kernel
theorem dW_law_538 : decode mW_law.2.1 538 = .ok (.iaload, 1) := by decide +kernel
theorem dW_law_539 : decode mW_law.2.1 539 = .ok (.invokevirtual 96, 3) := by decide +kernel
theorem dW_law_542 : decode mW_law.2.1 542 = .ok (.aload_n 2, 1) := by decide +kernel
theorem dW_law_543 : decode mW_law.2.1 543 = .ok (.aload_n 0, 1) := by decide +kernel
theorem dW_law_544 : decode mW_law.2.1 544 = .ok (.iload 4, 2) := by decide +kernel
theorem dW_law_546 : decode mW_law.2.1 546 = .ok (.iconst 1, 1) := by decide +kernel
theorem dW_law_547 : decode mW_law.2.1 547 = .ok (.iadd, 1) := by decide +kernel
theorem dW_law_548 : decode mW_law.2.1 548 = .ok (.iaload, 1) := by decide +kernel
theorem dW_law_549 : decode mW_law.2.1 549 = .ok (.invokevirtual 99, 3) := by decide +kernel
theorem dW_law_552 : decode mW_law.2.1 552 = .ok (.if_icmp .eq (61), 3) := by decide +kernel
theorem dW_law_555 : decode mW_law.2.1 555 = .ok (.iconst 0, 1) := by decide +kernel
theorem dW_law_556 : decode mW_law.2.1 556 = .ok (.ireturn, 1) := by decide +kernel
theorem dW_law_557 : decode mW_law.2.1 557 = .ok (.aload_n 1, 1) := by decide +kernel
theorem dW_law_558 : decode mW_law.2.1 558 = .ok (.aload_n 0, 1) := by decide +kernel
theorem dW_law_559 : decode mW_law.2.1 559 = .ok (.iload 4, 2) := by decide +kernel
theorem dW_law_561 : decode mW_law.2.1 561 = .ok (.iconst 1, 1) := by decide +kernel
theorem dW_law_562 : decode mW_law.2.1 562 = .ok (.iadd, 1) := by decide +kernel
theorem dW_law_563 : decode mW_law.2.1 563 = .ok (.iaload, 1) := by decide +kernel
theorem dW_law_564 : decode mW_law.2.1 564 = .ok (.aload_n 3, 1) := by decide +kernel
theorem dW_law_565 : decode mW_law.2.1 565 = .ok (.invokestatic 100, 3) := by decide +kernel
theorem dW_law_568 : decode mW_law.2.1 568 = .ok (.istore 5, 2) := by decide +kernel
theorem dW_law_570 : decode mW_law.2.1 570 = .ok (.aload_n 2, 1) := by decide +kernel
theorem dW_law_571 : decode mW_law.2.1 571 = .ok (.aload_n 0, 1) := by decide +kernel
theorem dW_law_572 : decode mW_law.2.1 572 = .ok (.iload 4, 2) := by decide +kernel
theorem dW_law_574 : decode mW_law.2.1 574 = .ok (.iconst 1, 1) := by decide +kernel
theorem dW_law_575 : decode mW_law.2.1 575 = .ok (.iadd, 1) := by decide +kernel
theorem dW_law_576 : decode mW_law.2.1 576 = .ok (.iaload, 1) := by decide +kernel
theorem dW_law_577 : decode mW_law.2.1 577 = .ok (.invokevirtual 102, 3) := by decide +kernel
theorem dW_law_580 : decode mW_law.2.1 580 = .ok (.istore 6, 2) := by decide +kernel
theorem dW_law_582 : decode mW_law.2.1 582 = .ok (.aload_n 2, 1) := by decide +kernel
theorem dW_law_583 : decode mW_law.2.1 583 = .ok (.invokevirtual 50, 3) := by decide +kernel
theorem dW_law_586 : decode mW_law.2.1 586 = .ok (.iload 5, 2) := by decide +kernel
theorem dW_law_588 : decode mW_law.2.1 588 = .ok (.if_icmp .eq (5), 3) := by decide +kernel
theorem dW_law_591 : decode mW_law.2.1 591 = .ok (.iconst 0, 1) := by decide +kernel
theorem dW_law_592 : decode mW_law.2.1 592 = .ok (.ireturn, 1) := by decide +kernel
theorem dW_law_593 : decode mW_law.2.1 593 = .ok (.iload 5, 2) := by decide +kernel
theorem dW_law_595 : decode mW_law.2.1 595 = .ok (.ifCond .ne (15), 3) := by decide +kernel
theorem dW_law_598 : decode mW_law.2.1 598 = .ok (.aload_n 3, 1) := by decide +kernel
theorem dW_law_599 : decode mW_law.2.1 599 = .ok (.iconst 0, 1) := by decide +kernel
theorem dW_law_600 : decode mW_law.2.1 600 = .ok (.laload, 1) := by decide +kernel
theorem dW_law_601 : decode mW_law.2.1 601 = .ok (.iload 6, 2) := by decide +kernel
theorem dW_law_603 : decode mW_law.2.1 603 = .ok (.i2l, 1) := by decide +kernel
theorem dW_law_604 : decode mW_law.2.1 604 = .ok (.lcmp, 1) := by decide +kernel
theorem dW_law_605 : decode mW_law.2.1 605 = .ok (.ifCond .eq (5), 3) := by decide +kernel
theorem dW_law_608 : decode mW_law.2.1 608 = .ok (.iconst 0, 1) := by decide +kernel
theorem dW_law_609 : decode mW_law.2.1 609 = .ok (.ireturn, 1) := by decide +kernel
theorem dW_law_610 : decode mW_law.2.1 610 = .ok (.goto (3), 3) := by decide +kernel
theorem dW_law_613 : decode mW_law.2.1 613 = .ok (.iinc 4 (3), 3) := by decide +kernel
theorem dW_law_616 : decode mW_law.2.1 616 = .ok (.goto (-593), 3) := by decide +kernel
theorem dW_law_619 : decode mW_law.2.1 619 = .ok (.iconst 1, 1) := by decide +kernel
theorem dW_law_620 : decode mW_law.2.1 620 = .ok (.ireturn, 1) := by decide +kernel
end
section
/- handier forms of the steps -/
def zpost (y : zY) (R : Option Int32 → zM → Prop) : zQ := fun pc _ st M => ∃ o, zEnd y pc st o ∧ R o M
theorem zall {As : List Value} (h : As.all (fun v => v.category == 1) = true) : ∀ v ∈ As, v.category = 1 := by
  intro v hv
  have := List.all_eq_true.mp h v hv
  simpa using this
theorem nI_mul (a b : Nat) : nI a * nI b = nI (a * b) := pk_mul a b
section
variable {Lx : Nat} {xs : Nat → Int32} {d : Nat} {y : zY} {pc : Nat} {L : Nat → Value} {st : List Value} {M : zM} {Q : zQ}
theorem ev_inc1 {i k : Nat} (h0 : decode y.2.1 pc = .ok (.iinc i 1, 3)) (h1 : L i = .int (nI k)) (h2 : Ev Lx xs d y (pc + 3) (zu L i (.int (nI (k + 1)))) st M Q) : Ev Lx xs d y pc L st M Q :=
  ev_inc h0 h1 (by rw [show nI k + Int32.ofInt 1 = nI (k + 1) from (nI_succ k).symm]; exact h2)
theorem ev_add {a b : Int32} (h0 : decode y.2.1 pc = .ok (.iadd, 1)) (h2 : Ev Lx xs d y (pc + 1) L (.int (a + b) :: st) M Q) : Ev Lx xs d y pc L (.int b :: .int a :: st) M Q := ev_bin h0 rfl h2
theorem ev_sub {a b : Int32} (h0 : decode y.2.1 pc = .ok (.isub, 1)) (h2 : Ev Lx xs d y (pc + 1) L (.int (a - b) :: st) M Q) : Ev Lx xs d y pc L (.int b :: .int a :: st) M Q := ev_bin h0 rfl h2
theorem ev_mul {a b : Int32} (h0 : decode y.2.1 pc = .ok (.imul, 1)) (h2 : Ev Lx xs d y (pc + 1) L (.int (a * b) :: st) M Q) : Ev Lx xs d y pc L (.int b :: .int a :: st) M Q := ev_bin h0 rfl h2
theorem ev_and {a b : Int32} (h0 : decode y.2.1 pc = .ok (.iand, 1)) (h2 : Ev Lx xs d y (pc + 1) L (.int (a &&& b) :: st) M Q) : Ev Lx xs d y pc L (.int b :: .int a :: st) M Q := ev_bin h0 rfl h2
theorem ev_shr {a b : Int32} (h0 : decode y.2.1 pc = .ok (.ishr, 1)) (h2 : Ev Lx xs d y (pc + 1) L (.int (a >>> (b &&& 31)) :: st) M Q) : Ev Lx xs d y pc L (.int b :: .int a :: st) M Q := ev_bin h0 rfl h2
theorem ev_addN {a b : Nat} (h0 : decode y.2.1 pc = .ok (.iadd, 1)) (h2 : Ev Lx xs d y (pc + 1) L (.int (nI (a + b)) :: st) M Q) : Ev Lx xs d y pc L (.int (nI b) :: .int (nI a) :: st) M Q := ev_add h0 (by rw [nI_add]; exact h2)
theorem ev_subN {a b : Nat} (h0 : decode y.2.1 pc = .ok (.isub, 1)) (h : b ≤ a) (h2 : Ev Lx xs d y (pc + 1) L (.int (nI (a - b)) :: st) M Q) : Ev Lx xs d y pc L (.int (nI b) :: .int (nI a) :: st) M Q := ev_sub h0 (by rw [pk_sub h]; exact h2)
theorem ev_mulN {a b : Nat} (h0 : decode y.2.1 pc = .ok (.imul, 1)) (h2 : Ev Lx xs d y (pc + 1) L (.int (nI (a * b)) :: st) M Q) : Ev Lx xs d y pc L (.int (nI b) :: .int (nI a) :: st) M Q := ev_mul h0 (by rw [nI_mul]; exact h2)
theorem ev_divN {a b : Nat} (h0 : decode y.2.1 pc = .ok (.idiv, 1)) (ha : a < 2 ^ 31) (hb : 0 < b) (hb2 : b < 2 ^ 31) (h2 : Ev Lx xs d y (pc + 1) L (.int (nI (a / b)) :: st) M Q) : Ev Lx xs d y pc L (.int (nI b) :: .int (nI a) :: st) M Q :=
  ev_bin h0 (by show (if nI b = 0 then none else some (nI a / nI b)) = some (nI (a / b)); rw [if_neg (nI_ne0 hb hb2), pk_div ha hb hb2]) h2
theorem ev_remN {a b : Nat} (h0 : decode y.2.1 pc = .ok (.irem, 1)) (ha : a < 2 ^ 31) (hb : 0 < b) (hb2 : b < 2 ^ 31) (h2 : Ev Lx xs d y (pc + 1) L (.int (nI (a % b)) :: st) M Q) : Ev Lx xs d y pc L (.int (nI b) :: .int (nI a) :: st) M Q :=
  ev_bin h0 (by show (if nI b = 0 then none else some (nI a - nI a / nI b * nI b)) = some (nI (a % b)); rw [if_neg (nI_ne0 hb hb2), pk_rem ha hb hb2]) h2
theorem ev_if0 {op : Jvm.ClassFile.Cond} {off : Int} {tgt : Nat} {a : Int32} (h0 : decode y.2.1 pc = .ok (.ifCond op off, 3)) (h1 : (pc : Int) + off = (tgt : Int)) (h2 : zcond op a (nI 0) → Ev Lx xs d y tgt L st M Q) (h3 : ¬ zcond op a (nI 0) → Ev Lx xs d y (pc + 3) L st M Q) : Ev Lx xs d y pc L (.int a :: st) M Q := ev_if h0 h1 h2 h3
theorem ev_getrP {idx o ci k q : Nat} (h0 : decode y.2.1 pc = .ok (.getfield idx, 3)) (h1 : zFld y.1.cls idx ci k true) (h2 : zsh[o]? = some (.inr ci)) (hq : M.2.1 o k = q) (h3 : Ev Lx xs d y (pc + 3) L (.ref q :: st) M Q) : Ev Lx xs d y pc L (.ref o :: st) M Q := ev_getr h0 h1 h2 (by rw [hq]; exact h3)
theorem ev_aldN {ins : Instr} {t o n i : Nat} (h0 : decode y.2.1 pc = .ok (ins, 1)) (h1 : zld ins = some t) (h2 : zsh[o]? = some (.inl (t, n))) (h3 : i < n) (h4 : Ev Lx xs d y (pc + 1) L (.int (M.1 o i) :: st) M Q) : Ev Lx xs d y pc L (.int (nI i) :: .ref o :: st) M Q := by
  have hn := zsh_len h2
  refine ev_ald h0 h1 h2 (vp_in_nI h3 (by omega)) ?_
  rw [nI_clamp (by omega)]; exact h4
theorem ev_iastN {o n i : Nat} {x : Int32} (h0 : decode y.2.1 pc = .ok (.iastore, 1)) (h2 : zsh[o]? = some (.inl (0, n))) (h3 : i < n) (h4 : Ev Lx xs d y (pc + 1) L st (zI M o i x) Q) : Ev Lx xs d y pc L (.int x :: .int (nI i) :: .ref o :: st) M Q := by
  have hn := zsh_len h2
  refine ev_ast h0 rfl h2 (vp_in_nI h3 (by omega)) ?_
  rw [nI_clamp (by omega)]; exact h4
theorem ev_castN {o n i c : Nat} (h0 : decode y.2.1 pc = .ok (.castore, 1)) (h2 : zsh[o]? = some (.inl (1, n))) (h3 : i < n) (hc : c < 65536) (h4 : Ev Lx xs d y (pc + 1) L st (zI M o i (nI c)) Q) : Ev Lx xs d y pc L (.int (nI c) :: .int (nI i) :: .ref o :: st) M Q := by
  have hn := zsh_len h2
  refine ev_ast h0 rfl h2 (vp_in_nI h3 (by omega)) ?_
  have hz : znr 1 (nI c) = nI c := by
    show vp_nar .char (nI c) = nI c
    unfold vp_nar
    rw [(pk_charN hc).1]
  rw [nI_clamp (by omega), hz]; exact h4
theorem ev_zastN {o n i c : Nat} (h0 : decode y.2.1 pc = .ok (.bastore, 1)) (h2 : zsh[o]? = some (.inl (2, n))) (h3 : i < n) (hc : c < 2) (h4 : Ev Lx xs d y (pc + 1) L st (zI M o i (nI c)) Q) : Ev Lx xs d y pc L (.int (nI c) :: .int (nI i) :: .ref o :: st) M Q := by
  have hn := zsh_len h2
  refine ev_ast h0 rfl h2 (vp_in_nI h3 (by omega)) ?_
  have hz : znr 2 (nI c) = nI c := by
    rcases (show c = 0 ∨ c = 1 by omega) with rfl | rfl <;> decide
  rw [nI_clamp (by omega), hz]; exact h4
theorem ev_ret {x : Int32} {ty : FieldType} {R : Option Int32 → zM → Prop} (h0 : decode y.2.1 pc = .ok (.ireturn, 1)) (h1 : y.2.2.2 = some ty) (h2 : narrow ty (.int x) = .int x) (h3 : R (some x) M) : Ev Lx xs d y pc L [.int x] M (zpost y R) := ev_done ⟨some x, ⟨h0, rfl, ty, h1, h2⟩, h3⟩
theorem ev_vret {R : Option Int32 → zM → Prop} (h0 : decode y.2.1 pc = .ok (.return_, 1)) (h1 : y.2.2.2 = none) (h3 : R none M) : Ev Lx xs d y pc L [] M (zpost y R) := ev_done ⟨none, ⟨h0, rfl, h1⟩, h3⟩
end
/-- the method y, called with As: it returns, R holds of its answer and its end -/
def Ct (Lx : Nat) (xs : Nat → Int32) (d : Nat) (y : zY) (As : List Value) (M : zM) (R : Option Int32 → zM → Prop) : Prop := Ev Lx xs d y 0 (zarg As) [] M (zpost y R)
/-- a method that answers x and changes nothing -/
def Pu (Lx : Nat) (xs : Nat → Int32) (d : Nat) (y : zY) (As : List Value) (M : zM) (x : Int32) : Prop := Ct Lx xs d y As M (fun o M' => o = some x ∧ M' = M)
section
variable {Lx : Nat} {xs : Nat → Int32} {d : Nat} {y : zY} {pc : Nat} {L : Nat → Value} {st stk : List Value} {M : zM} {Q : zQ}
theorem ev_cS {idx : Nat} {k : zY} {As : List Value} {R : Option Int32 → zM → Prop} (h0 : decode y.2.1 pc = .ok (.invokestatic idx, 3)) (hc : Ct Lx xs d k As M R) (h1 : zLkS y.1.cls idx k As.length) (h2 : As.all (fun v => v.category == 1) = true) (h3 : As.length ≤ k.2.2.1) (hs : stk = As.reverse ++ st) (h4 : zcat st ≤ 8) (h6 : ∀ o M', R o M' → Ev Lx xs (d + 1) y (pc + 3) L (zpush o st) M' Q) : Ev Lx xs (d + 1) y pc L stk M Q := by
  subst hs; exact ev_callS h0 h1 (zall h2) h3 h4 hc h6
theorem ev_cV {idx b : Nat} {k : zY} {As : List Value} {R : Option Int32 → zM → Prop} (h0 : decode y.2.1 pc = .ok (.invokevirtual idx, 3)) (hc : Ct Lx xs d k (.ref b :: As) M R) (h1 : zLkV y.1.cls idx k As.length) (hb : zrec b k.1.cls) (h2 : As.all (fun v => v.category == 1) = true) (h3 : As.length + 1 ≤ k.2.2.1) (hs : stk = As.reverse ++ .ref b :: st) (h4 : zcat st ≤ 8) (h6 : ∀ o M', R o M' → Ev Lx xs (d + 1) y (pc + 3) L (zpush o st) M' Q) : Ev Lx xs (d + 1) y pc L stk M Q := by
  subst hs; exact ev_callV h0 h1 hb (zall h2) h3 h4 hc h6
theorem ev_pS {idx : Nat} {k : zY} {As : List Value} {x : Int32} (h0 : decode y.2.1 pc = .ok (.invokestatic idx, 3)) (hc : Pu Lx xs d k As M x) (h1 : zLkS y.1.cls idx k As.length) (h2 : As.all (fun v => v.category == 1) = true) (h3 : As.length ≤ k.2.2.1) (hs : stk = As.reverse ++ st) (h4 : zcat st ≤ 8) (h6 : Ev Lx xs (d + 1) y (pc + 3) L (.int x :: st) M Q) : Ev Lx xs (d + 1) y pc L stk M Q :=
  ev_cS h0 hc h1 h2 h3 hs h4 (fun o M' h => by obtain ⟨rfl, rfl⟩ := h; exact h6)
theorem ev_pV {idx b : Nat} {k : zY} {As : List Value} {x : Int32} (h0 : decode y.2.1 pc = .ok (.invokevirtual idx, 3)) (hc : Pu Lx xs d k (.ref b :: As) M x) (h1 : zLkV y.1.cls idx k As.length) (hb : zrec b k.1.cls) (h2 : As.all (fun v => v.category == 1) = true) (h3 : As.length + 1 ≤ k.2.2.1) (hs : stk = As.reverse ++ .ref b :: st) (h4 : zcat st ≤ 8) (h6 : Ev Lx xs (d + 1) y (pc + 3) L (.int x :: st) M Q) : Ev Lx xs (d + 1) y pc L stk M Q :=
  ev_cV h0 hc h1 hb h2 h3 hs h4 (fun o M' h => by obtain ⟨rfl, rfl⟩ := h; exact h6)
end
end
section
/- the tokens of a text, as a mathematical value -/
def lLet (c : Nat) : Bool := decide (97 ≤ c ∧ c ≤ 122)
def lDig (c : Nat) : Bool := decide (48 ≤ c ∧ c ≤ 57)
def lSig (c : Nat) : Bool := decide (c = 61 ∨ c = 59 ∨ c = 43 ∨ c = 45 ∨ c = 42 ∨ c = 40 ∨ c = 41 ∨ c = 123 ∨ c = 125 ∨ c = 44)
/-- over blanks and remarks: f characters are left from p on -/
def lBl (t : Nat → Nat) : Nat → Nat → Bool → Nat
  | 0, p, _ => p
  | f + 1, p, cm => if t p = 10 then lBl t f (p + 1) false else if t p = 35 then lBl t f (p + 1) true else if t p ≠ 32 ∧ cm = false then p else lBl t f (p + 1) cm
def lRun (q : Nat → Bool) (t : Nat → Nat) : Nat → Nat → Nat
  | 0, p => p
  | f + 1, p => if q (t p) = true then lRun q t f (p + 1) else p
def lQuo (t : Nat → Nat) : Nat → Nat → Nat
  | 0, p => p
  | f + 1, p => if t p = 34 then p else lQuo t f (p + 1)
def lEnd (t : Nat → Nat) (n p : Nat) : Nat := if t p = 34 then (if lQuo t (n - (p + 1)) (p + 1) < n then lQuo t (n - (p + 1)) (p + 1) + 1 else n) else if lLet (t p) = true then lRun lLet t (n - p) p else if lDig (t p) = true then lRun lDig t (n - p) p else p + 1
def lKind (t : Nat → Nat) (n p : Nat) : Nat := if t p = 34 then (if lQuo t (n - (p + 1)) (p + 1) < n then 2 else 4) else if lLet (t p) = true then 0 else if lDig (t p) = true then 1 else if lSig (t p) = true then 3 else 4
/-- place, length, kind of each token from p on -/
def lTok (t : Nat → Nat) (n : Nat) : Nat → Nat → List (Nat × Nat × Nat)
  | 0, _ => []
  | f + 1, p => if p < n then (p, lEnd t n p - p, lKind t n p) :: lTok t n f (lBl t (n - lEnd t n p) (lEnd t n p) false) else []
theorem lBl_in (t : Nat → Nat) : ∀ (f p : Nat) (cm : Bool), p ≤ lBl t f p cm ∧ lBl t f p cm ≤ p + f
  | 0, p, cm => ⟨Nat.le_refl p, Nat.le_refl p⟩
  | f + 1, p, cm => by
    have h1 := lBl_in t f (p + 1) false
    have h2 := lBl_in t f (p + 1) true
    have h3 := lBl_in t f (p + 1) cm
    unfold lBl
    split
    · omega
    · split
      · omega
      · split <;> omega
theorem lRun_in (q : Nat → Bool) (t : Nat → Nat) : ∀ (f p : Nat), p ≤ lRun q t f p ∧ lRun q t f p ≤ p + f
  | 0, p => ⟨Nat.le_refl p, Nat.le_refl p⟩
  | f + 1, p => by
    have h1 := lRun_in q t f (p + 1)
    unfold lRun
    split <;> omega
theorem lQuo_in (t : Nat → Nat) : ∀ (f p : Nat), p ≤ lQuo t f p ∧ lQuo t f p ≤ p + f
  | 0, p => ⟨Nat.le_refl p, Nat.le_refl p⟩
  | f + 1, p => by
    have h1 := lQuo_in t f (p + 1)
    unfold lQuo
    split <;> omega
theorem lEnd_in (t : Nat → Nat) {n p : Nat} (h : p < n) : p < lEnd t n p ∧ lEnd t n p ≤ n := by
  have h1 := lQuo_in t (n - (p + 1)) (p + 1)
  obtain ⟨f, hf⟩ : ∃ f, n - p = f + 1 := ⟨n - p - 1, by omega⟩
  have h2 := lRun_in lLet t f (p + 1)
  have h3 := lRun_in lDig t f (p + 1)
  unfold lEnd
  rw [hf]
  split
  · split <;> omega
  · split
    · rename_i h4; rw [lRun, if_pos h4]; omega
    · split
      · rename_i h4; rw [lRun, if_pos h4]; omega
      · omega
theorem lKind_lt (t : Nat → Nat) (n p : Nat) : lKind t n p < 5 := by
  unfold lKind
  repeat' split
  all_goals omega
/-- the tokens lie in the text, one behind another -/
theorem lTok_in (t : Nat → Nat) (n : Nat) : ∀ (f p : Nat) (k : Nat) (q : Nat × Nat × Nat), (lTok t n f p)[k]? = some q → p + k ≤ q.1 ∧ 0 < q.2.1 ∧ q.1 + q.2.1 ≤ n ∧ q.2.2 < 5
  | 0, p, k, q, h => by simp [lTok] at h
  | f + 1, p, k, q, h => by
    unfold lTok at h
    split at h
    · rename_i hp
      have he := lEnd_in t hp
      cases k with
      | zero =>
        simp at h
        subst h
        exact ⟨Nat.le_refl _, by show 0 < lEnd t n p - p; omega, by show p + (lEnd t n p - p) ≤ n; omega, lKind_lt t n p⟩
      | succ k =>
        rw [List.getElem?_cons_succ] at h
        have h1 := lTok_in t n f _ k q h
        have h2 := lBl_in t (n - lEnd t n p) (lEnd t n p) false
        omega
    · simp at h
theorem lTok_len (t : Nat → Nat) (n : Nat) (f p : Nat) : (lTok t n f p).length ≤ n := by
  cases hl : (lTok t n f p).length with
  | zero => omega
  | succ k =>
    have hk : k < (lTok t n f p).length := by omega
    have := lTok_in t n f p k _ (List.getElem?_eq_getElem hk)
    omega
end
section
/- places: the two readings stand at 2 and at 13 -/
def zR (r : Nat) : Prop := r = 2 ∨ r = 13
theorem zq {M : zM} {n b o k q : Nat} (hP : M.2.1 = zP0 n b) (h : zP0 n b o k = q) : M.2.1 o k = q := by rw [hP]; exact h
section
variable {r n b : Nat}
theorem sh_R (h : zR r) : zsh[r]? = some (.inr 1) := by rcases h with rfl | rfl <;> rfl
theorem sh_S (h : zR r) : zsh[r + 1]? = some (.inr 2) := by rcases h with rfl | rfl <;> rfl
theorem sh_T (h : zR r) : zsh[r + 2]? = some (.inr 3) := by rcases h with rfl | rfl <;> rfl
theorem sh_chars (h : zR r) : zsh[r + 3]? = some (.inl (1, 160)) := by rcases h with rfl | rfl <;> rfl
theorem sh_found (h : zR r) : zsh[r + 4]? = some (.inl (0, 160)) := by rcases h with rfl | rfl <;> rfl
theorem sh_marks (h : zR r) : zsh[r + 5]? = some (.inl (1, 160)) := by rcases h with rfl | rfl <;> rfl
theorem sh_firsts (h : zR r) : zsh[r + 6]? = some (.inl (0, 160)) := by rcases h with rfl | rfl <;> rfl
theorem sh_lasts (h : zR r) : zsh[r + 7]? = some (.inl (0, 160)) := by rcases h with rfl | rfl <;> rfl
theorem sh_levels (h : zR r) : zsh[r + 8]? = some (.inl (0, 160)) := by rcases h with rfl | rfl <;> rfl
theorem sh_values (h : zR r) : zsh[r + 9]? = some (.inl (0, 160)) := by rcases h with rfl | rfl <;> rfl
theorem sh_numbers (h : zR r) : zsh[r + 10]? = some (.inl (0, 160)) := by rcases h with rfl | rfl <;> rfl
theorem pt_source (h : zR r) : zP0 n b r 0 = r + 1 := by rcases h with rfl | rfl <;> rfl
theorem pt_tree (h : zR r) : zP0 n b r 1 = r + 2 := by rcases h with rfl | rfl <;> rfl
theorem pt_chars (h : zR r) : zP0 n b (r + 1) 0 = r + 3 := by rcases h with rfl | rfl <;> rfl
theorem pt_found (h : zR r) : zP0 n b (r + 1) 2 = r + 4 := by rcases h with rfl | rfl <;> rfl
theorem pt_marks (h : zR r) : zP0 n b (r + 1) 3 = r + 5 := by rcases h with rfl | rfl <;> rfl
theorem pt_firsts (h : zR r) : zP0 n b (r + 2) 0 = r + 6 := by rcases h with rfl | rfl <;> rfl
theorem pt_lasts (h : zR r) : zP0 n b (r + 2) 1 = r + 7 := by rcases h with rfl | rfl <;> rfl
theorem pt_levels (h : zR r) : zP0 n b (r + 2) 2 = r + 8 := by rcases h with rfl | rfl <;> rfl
theorem pt_values (h : zR r) : zP0 n b (r + 2) 3 = r + 9 := by rcases h with rfl | rfl <;> rfl
theorem pt_numbers (h : zR r) : zP0 n b (r + 2) 4 = r + 10 := by rcases h with rfl | rfl <;> rfl
theorem rec_R (h : zR r) : zrec r "KeptItems$Reading" := Or.inl ⟨1, _, _, sh_R h, rfl⟩
theorem rec_S (h : zR r) : zrec (r + 1) "KeptItems$Source" := Or.inl ⟨2, _, _, sh_S h, rfl⟩
theorem rec_T (h : zR r) : zrec (r + 2) "KeptItems$Tree" := Or.inl ⟨3, _, _, sh_T h, rfl⟩
end
theorem rec_K : zrec 0 "KeptItems" := Or.inl ⟨0, _, _, rfl, rfl⟩
theorem rec_M : zrec 25 "KeptItemsModel" := Or.inl ⟨4, _, _, rfl, rfl⟩
theorem rec_J : zrec 1001 "java/lang/String" := Or.inr ⟨rfl, rfl⟩
/- memory -/
theorem zI_s (M : zM) (o k : Nat) (x : Int32) : (zI M o k x).1 o k = x := by simp [zI, upd]
theorem zI_k {M : zM} {o k i : Nat} {x : Int32} (h : i ≠ k) : (zI M o k x).1 o i = M.1 o i := by simp [zI, upd, h]
theorem zI_o {M : zM} {o k a i : Nat} {x : Int32} (h : a ≠ o) : (zI M o k x).1 a i = M.1 a i := by simp [zI, h]
theorem zI_at (M : zM) (o k : Nat) (x : Int32) (a i : Nat) : (zI M o k x).1 a i = if a = o ∧ i = k then x else M.1 a i := by
  by_cases h : a = o
  · subst h
    by_cases h2 : i = k
    · subst h2; rw [zI_s]; simp
    · rw [zI_k h2]; simp [h2]
  · rw [zI_o h]; simp [h]
theorem zb0 {b : Bool} : (nI b.toNat = nI 0) ↔ b = false := by cases b <;> decide
theorem zb1 (b : Bool) : narrow .boolean (.int (nI b.toNat)) = .int (nI b.toNat) := by cases b <;> rfl
theorem zi2b : ∀ c, c < 128 → (nI c).toInt8.toInt32 = nI c := by decide
theorem zchr {c : Nat} (h : c < 65536) : narrow .char (.int (nI c)) = .int (nI c) := (pk_charN h).1
end
section
/- the class's Source, leaves (rows laid by program) -/
/-- the text t of n characters stands in the reading r -/
def Txt (M : zM) (r : Nat) (t : Nat → Nat) (n : Nat) : Prop := M.1 (r + 1) 1 = nI n ∧ n ≤ 160 ∧ ∀ i, i < n → M.1 (r + 3) i = nI (t i) ∧ t i < 128
section
variable {Lx : Nat} {xs : Nat → Int32} {d : Nat} {M : zM} {n b r : Nat}
set_option maxRecDepth 100000 in
set_option maxHeartbeats 4000000 in
theorem c_isLetter {c : Nat} (hc : c < 65536) : Pu Lx xs d mS_isLetter [.int (nI c)] M (nI (lLet c).toNat) := by
  unfold Pu Ct
  refine ev_il dS_isLetter_0 rfl (by first | assumption | rfl) ?_
  refine ev_const (v := nI 97) dS_isLetter_1 (by decide) ?_
  refine ev_icmp (tgt := 16) dS_isLetter_3 (by decide) (fun h3 => ?_) (fun h3 => ?_)
  · try simp (disch := omega) only [zcond, nI_ltI, nI_leI, nI_eq, zb0, Classical.not_not, Bool.not_eq_false, Nat.not_lt, Nat.not_le] at h3
    refine ev_const (v := nI 0) dS_isLetter_16 (by decide) ?_
    refine ev_ret dS_isLetter_17 rfl rfl ?_
    first | exact ⟨by rw [show lLet c = true by (simp [lLet]; omega)]; rfl, rfl⟩ | exact ⟨by rw [show lLet c = false by (simp [lLet]; omega)]; rfl, rfl⟩
  · try simp (disch := omega) only [zcond, nI_ltI, nI_leI, nI_eq, zb0, Classical.not_not, Bool.not_eq_false, Nat.not_lt, Nat.not_le] at h3
    refine ev_il dS_isLetter_6 rfl (by first | assumption | rfl) ?_
    refine ev_const (v := nI 122) dS_isLetter_7 (by decide) ?_
    refine ev_icmp (tgt := 16) dS_isLetter_9 (by decide) (fun h9 => ?_) (fun h9 => ?_)
    · try simp (disch := omega) only [zcond, nI_ltI, nI_leI, nI_eq, zb0, Classical.not_not, Bool.not_eq_false, Nat.not_lt, Nat.not_le] at h9
      refine ev_const (v := nI 0) dS_isLetter_16 (by decide) ?_
      refine ev_ret dS_isLetter_17 rfl rfl ?_
      first | exact ⟨by rw [show lLet c = true by (simp [lLet]; omega)]; rfl, rfl⟩ | exact ⟨by rw [show lLet c = false by (simp [lLet]; omega)]; rfl, rfl⟩
    · try simp (disch := omega) only [zcond, nI_ltI, nI_leI, nI_eq, zb0, Classical.not_not, Bool.not_eq_false, Nat.not_lt, Nat.not_le] at h9
      refine ev_const (v := nI 1) dS_isLetter_12 (by decide) ?_
      refine ev_goto (tgt := 17) dS_isLetter_13 (by decide) ?_
      refine ev_ret dS_isLetter_17 rfl rfl ?_
      first | exact ⟨by rw [show lLet c = true by (simp [lLet]; omega)]; rfl, rfl⟩ | exact ⟨by rw [show lLet c = false by (simp [lLet]; omega)]; rfl, rfl⟩
set_option maxRecDepth 100000 in
set_option maxHeartbeats 4000000 in
theorem c_isDigit {c : Nat} (hc : c < 65536) : Pu Lx xs d mS_isDigit [.int (nI c)] M (nI (lDig c).toNat) := by
  unfold Pu Ct
  refine ev_il dS_isDigit_0 rfl (by first | assumption | rfl) ?_
  refine ev_const (v := nI 48) dS_isDigit_1 (by decide) ?_
  refine ev_icmp (tgt := 16) dS_isDigit_3 (by decide) (fun h3 => ?_) (fun h3 => ?_)
  · try simp (disch := omega) only [zcond, nI_ltI, nI_leI, nI_eq, zb0, Classical.not_not, Bool.not_eq_false, Nat.not_lt, Nat.not_le] at h3
    refine ev_const (v := nI 0) dS_isDigit_16 (by decide) ?_
    refine ev_ret dS_isDigit_17 rfl rfl ?_
    first | exact ⟨by rw [show lDig c = true by (simp [lDig]; omega)]; rfl, rfl⟩ | exact ⟨by rw [show lDig c = false by (simp [lDig]; omega)]; rfl, rfl⟩
  · try simp (disch := omega) only [zcond, nI_ltI, nI_leI, nI_eq, zb0, Classical.not_not, Bool.not_eq_false, Nat.not_lt, Nat.not_le] at h3
    refine ev_il dS_isDigit_6 rfl (by first | assumption | rfl) ?_
    refine ev_const (v := nI 57) dS_isDigit_7 (by decide) ?_
    refine ev_icmp (tgt := 16) dS_isDigit_9 (by decide) (fun h9 => ?_) (fun h9 => ?_)
    · try simp (disch := omega) only [zcond, nI_ltI, nI_leI, nI_eq, zb0, Classical.not_not, Bool.not_eq_false, Nat.not_lt, Nat.not_le] at h9
      refine ev_const (v := nI 0) dS_isDigit_16 (by decide) ?_
      refine ev_ret dS_isDigit_17 rfl rfl ?_
      first | exact ⟨by rw [show lDig c = true by (simp [lDig]; omega)]; rfl, rfl⟩ | exact ⟨by rw [show lDig c = false by (simp [lDig]; omega)]; rfl, rfl⟩
    · try simp (disch := omega) only [zcond, nI_ltI, nI_leI, nI_eq, zb0, Classical.not_not, Bool.not_eq_false, Nat.not_lt, Nat.not_le] at h9
      refine ev_const (v := nI 1) dS_isDigit_12 (by decide) ?_
      refine ev_goto (tgt := 17) dS_isDigit_13 (by decide) ?_
      refine ev_ret dS_isDigit_17 rfl rfl ?_
      first | exact ⟨by rw [show lDig c = true by (simp [lDig]; omega)]; rfl, rfl⟩ | exact ⟨by rw [show lDig c = false by (simp [lDig]; omega)]; rfl, rfl⟩
set_option maxRecDepth 100000 in
set_option maxHeartbeats 4000000 in
theorem c_packed {p e k : Nat} (h : p ≤ e) : Pu Lx xs d mS_packed [.int (nI p), .int (nI e), .int (nI k)] M (nI (p * 2048 + (e - p) * 8 + k)) := by
  unfold Pu Ct
  refine ev_il dS_packed_0 rfl (by first | assumption | rfl) ?_
  refine ev_const (v := nI 2048) dS_packed_1 (by decide) ?_
  first | with_reducible refine ev_mulN dS_packed_4 ?_ | refine ev_mul dS_packed_4 ?_
  refine ev_il dS_packed_5 rfl (by first | assumption | rfl) ?_
  refine ev_il dS_packed_6 rfl (by first | assumption | rfl) ?_
  first | with_reducible refine ev_subN dS_packed_7 (by omega) ?_ | refine ev_sub dS_packed_7 ?_
  refine ev_const (v := nI 8) dS_packed_8 (by decide) ?_
  first | with_reducible refine ev_mulN dS_packed_10 ?_ | refine ev_mul dS_packed_10 ?_
  first | with_reducible refine ev_addN dS_packed_11 ?_ | refine ev_add dS_packed_11 ?_
  refine ev_il dS_packed_12 rfl (by first | assumption | rfl) ?_
  first | with_reducible refine ev_addN dS_packed_13 ?_ | refine ev_add dS_packed_13 ?_
  refine ev_ret dS_packed_14 rfl rfl ?_
  exact ⟨rfl, rfl⟩
set_option maxRecDepth 100000 in
set_option maxHeartbeats 4000000 in
theorem c_placeOf {k v : Nat} (hP : M.2.1 = zP0 n b) (hr : zR r) (hk : k < 160) (hv : M.1 (r + 4) k = nI v) (hv2 : v < 2 ^ 31) : Pu Lx xs d mS_placeOf [.ref (r + 1), .int (nI k)] M (nI (v / 2048)) := by
  unfold Pu Ct
  refine ev_al dS_placeOf_0 rfl (by first | assumption | rfl) ?_
  refine ev_getrP dS_placeOf_1 fS_15 (sh_S hr) (zq hP (pt_found hr)) ?_
  refine ev_il dS_placeOf_4 rfl (by first | assumption | rfl) ?_
  refine ev_aldN dS_placeOf_5 rfl (sh_found hr) (by omega) ?_
  rw [hv]
  refine ev_const (v := nI 2048) dS_placeOf_6 (by decide) ?_
  refine ev_divN dS_placeOf_9 (by omega) (by omega) (by omega) ?_
  refine ev_ret dS_placeOf_10 rfl rfl ?_
  exact ⟨rfl, rfl⟩
set_option maxRecDepth 100000 in
set_option maxHeartbeats 4000000 in
theorem c_lengthOf {k v : Nat} (hP : M.2.1 = zP0 n b) (hr : zR r) (hk : k < 160) (hv : M.1 (r + 4) k = nI v) (hv2 : v < 2 ^ 31) : Pu Lx xs d mS_lengthOf [.ref (r + 1), .int (nI k)] M (nI (v % 2048 / 8)) := by
  unfold Pu Ct
  refine ev_al dS_lengthOf_0 rfl (by first | assumption | rfl) ?_
  refine ev_getrP dS_lengthOf_1 fS_15 (sh_S hr) (zq hP (pt_found hr)) ?_
  refine ev_il dS_lengthOf_4 rfl (by first | assumption | rfl) ?_
  refine ev_aldN dS_lengthOf_5 rfl (sh_found hr) (by omega) ?_
  rw [hv]
  refine ev_const (v := nI 2048) dS_lengthOf_6 (by decide) ?_
  refine ev_remN dS_lengthOf_9 (by omega) (by omega) (by omega) ?_
  refine ev_const (v := nI 8) dS_lengthOf_10 (by decide) ?_
  refine ev_divN dS_lengthOf_12 (by omega) (by omega) (by omega) ?_
  refine ev_ret dS_lengthOf_13 rfl rfl ?_
  exact ⟨rfl, rfl⟩
set_option maxRecDepth 100000 in
set_option maxHeartbeats 4000000 in
theorem c_placeBehind {k v : Nat} (hP : M.2.1 = zP0 n b) (hr : zR r) (hk : k < 160) (hv : M.1 (r + 4) k = nI v) (hv2 : v < 2 ^ 31) : Pu Lx xs (d + 1) mS_placeBehind [.ref (r + 1), .int (nI k)] M (nI (v / 2048 + v % 2048 / 8)) := by
  unfold Pu Ct
  refine ev_al dS_placeBehind_0 rfl (by first | assumption | rfl) ?_
  refine ev_il dS_placeBehind_1 rfl (by first | assumption | rfl) ?_
  refine ev_pV dS_placeBehind_2 (c_placeOf hP hr hk hv hv2) lS_74 (rec_S hr) rfl (Nat.le_of_ble_eq_true rfl) rfl (Nat.le_of_ble_eq_true rfl) ?_
  refine ev_al dS_placeBehind_5 rfl (by first | assumption | rfl) ?_
  refine ev_il dS_placeBehind_6 rfl (by first | assumption | rfl) ?_
  refine ev_pV dS_placeBehind_7 (c_lengthOf hP hr hk hv hv2) lS_77 (rec_S hr) rfl (Nat.le_of_ble_eq_true rfl) rfl (Nat.le_of_ble_eq_true rfl) ?_
  first | with_reducible refine ev_addN dS_placeBehind_10 ?_ | refine ev_add dS_placeBehind_10 ?_
  refine ev_ret dS_placeBehind_11 rfl rfl ?_
  exact ⟨rfl, rfl⟩
set_option maxRecDepth 100000 in
set_option maxHeartbeats 4000000 in
theorem l_passBlanks {t : Nat → Nat} {e : Nat} (hP : M.2.1 = zP0 n b) (hr : zR r) (hT : Txt M r t e) {R : Option Int32 → zM → Prop} : ∀ (f p : Nat) (cm : Bool) (L : Nat → Value), p + f = e → L 0 = .ref (r + 1) → L 2 = .int (nI cm.toNat) → L 3 = .int (nI p) → R (some (nI (lBl t f p cm))) M → Ev Lx xs d mS_passBlanks 4 L [] M (zpost mS_passBlanks R) := by
  have he := hT.2.1
  intro f
  induction f with
  | zero =>
    intro p cm L hpe hL0 hL2 hL3 hR
    rw [lBl] at hR
    refine ev_il dS_passBlanks_4 rfl (by first | assumption | rfl) ?_
    refine ev_al dS_passBlanks_5 rfl (by first | assumption | rfl) ?_
    refine ev_geti dS_passBlanks_6 fS_28 (sh_S hr) ?_
    rw [hT.1]
    refine ev_icmp (tgt := 63) dS_passBlanks_9 (by decide) (fun h9 => ?_) (fun h9 => ?_)
    · try simp (disch := omega) only [zcond, nI_ltI, nI_leI, nI_eq, zb0, Classical.not_not, Bool.not_eq_false, Nat.not_lt, Nat.not_le] at h9
      refine ev_al dS_passBlanks_63 rfl (by first | assumption | rfl) ?_
      refine ev_geti dS_passBlanks_64 fS_28 (sh_S hr) ?_
      rw [hT.1]
      refine ev_ret dS_passBlanks_67 rfl rfl ?_
      rw [show e = p by omega]; exact hR
    · first | omega | (simp (disch := omega) only [zcond, nI_ltI, nI_leI, nI_eq] at h9; omega)
  | succ f ih =>
    intro p cm L hpe hL0 hL2 hL3 hR
    rw [lBl] at hR
    refine ev_il dS_passBlanks_4 rfl (by first | assumption | rfl) ?_
    refine ev_al dS_passBlanks_5 rfl (by first | assumption | rfl) ?_
    refine ev_geti dS_passBlanks_6 fS_28 (sh_S hr) ?_
    rw [hT.1]
    refine ev_icmp (tgt := 63) dS_passBlanks_9 (by decide) (fun h9 => ?_) (fun h9 => ?_)
    · first | omega | (simp (disch := omega) only [zcond, nI_ltI, nI_leI, nI_eq] at h9; omega)
    · try simp (disch := omega) only [zcond, nI_ltI, nI_leI, nI_eq, zb0, Classical.not_not, Bool.not_eq_false, Nat.not_lt, Nat.not_le] at h9
      refine ev_al dS_passBlanks_12 rfl (by first | assumption | rfl) ?_
      refine ev_getrP dS_passBlanks_13 fS_9 (sh_S hr) (zq hP (pt_chars hr)) ?_
      refine ev_il dS_passBlanks_16 rfl (by first | assumption | rfl) ?_
      refine ev_aldN dS_passBlanks_17 rfl (sh_chars hr) (by omega) ?_
      rw [(hT.2.2 p (by omega)).1]
      have htp := (hT.2.2 p (by omega)).2
      refine ev_is dS_passBlanks_18 rfl (Nat.le_of_ble_eq_true rfl) ?_
      refine ev_il dS_passBlanks_20 rfl (by first | assumption | rfl) ?_
      refine ev_const (v := nI 10) dS_passBlanks_22 (by decide) ?_
      refine ev_icmp (tgt := 32) dS_passBlanks_24 (by decide) (fun h24 => ?_) (fun h24 => ?_)
      · try simp (disch := omega) only [zcond, nI_ltI, nI_leI, nI_eq, zb0, Classical.not_not, Bool.not_eq_false, Nat.not_lt, Nat.not_le] at h24
        refine ev_il dS_passBlanks_32 rfl (by first | assumption | rfl) ?_
        refine ev_const (v := nI 35) dS_passBlanks_34 (by decide) ?_
        refine ev_icmp (tgt := 44) dS_passBlanks_36 (by decide) (fun h36 => ?_) (fun h36 => ?_)
        · try simp (disch := omega) only [zcond, nI_ltI, nI_leI, nI_eq, zb0, Classical.not_not, Bool.not_eq_false, Nat.not_lt, Nat.not_le] at h36
          refine ev_il dS_passBlanks_44 rfl (by first | assumption | rfl) ?_
          refine ev_const (v := nI 32) dS_passBlanks_46 (by decide) ?_
          refine ev_icmp (tgt := 57) dS_passBlanks_48 (by decide) (fun h48 => ?_) (fun h48 => ?_)
          · try simp (disch := omega) only [zcond, nI_ltI, nI_leI, nI_eq, zb0, Classical.not_not, Bool.not_eq_false, Nat.not_lt, Nat.not_le] at h48
            refine ev_inc1 dS_passBlanks_57 (by first | assumption | rfl) ?_
            refine ev_goto (tgt := 4) dS_passBlanks_60 (by decide) ?_
            first | exact ih (p + 1) cm _ (by omega) (by first | assumption | rfl) (by first | assumption | rfl) rfl (by (repeat' split at hR) <;> first | exact hR | (exfalso; omega) | (exfalso; simp_all)) | exact ih (p + 1) false _ (by omega) (by first | assumption | rfl) (by first | assumption | rfl) rfl (by (repeat' split at hR) <;> first | exact hR | (exfalso; omega) | (exfalso; simp_all)) | exact ih (p + 1) true _ (by omega) (by first | assumption | rfl) (by first | assumption | rfl) rfl (by (repeat' split at hR) <;> first | exact hR | (exfalso; omega) | (exfalso; simp_all))
          · try simp (disch := omega) only [zcond, nI_ltI, nI_leI, nI_eq, zb0, Classical.not_not, Bool.not_eq_false, Nat.not_lt, Nat.not_le] at h48
            refine ev_il dS_passBlanks_51 rfl (by first | assumption | rfl) ?_
            refine ev_if0 (tgt := 57) dS_passBlanks_52 (by decide) (fun h52 => ?_) (fun h52 => ?_)
            · cases cm <;> simp (disch := omega) [zcond, nI_eq] at h52
              refine ev_inc1 dS_passBlanks_57 (by first | assumption | rfl) ?_
              refine ev_goto (tgt := 4) dS_passBlanks_60 (by decide) ?_
              first | exact ih (p + 1) cm _ (by omega) (by first | assumption | rfl) (by first | assumption | rfl) rfl (by (repeat' split at hR) <;> first | exact hR | (exfalso; omega) | (exfalso; simp_all)) | exact ih (p + 1) false _ (by omega) (by first | assumption | rfl) (by first | assumption | rfl) rfl (by (repeat' split at hR) <;> first | exact hR | (exfalso; omega) | (exfalso; simp_all)) | exact ih (p + 1) true _ (by omega) (by first | assumption | rfl) (by first | assumption | rfl) rfl (by (repeat' split at hR) <;> first | exact hR | (exfalso; omega) | (exfalso; simp_all))
            · cases cm <;> simp (disch := omega) [zcond, nI_eq] at h52
              refine ev_il dS_passBlanks_55 rfl (by first | assumption | rfl) ?_
              refine ev_ret dS_passBlanks_56 rfl rfl ?_
              exact (by (repeat' split at hR) <;> first | exact hR | (exfalso; omega) | (exfalso; simp_all))
        · try simp (disch := omega) only [zcond, nI_ltI, nI_leI, nI_eq, zb0, Classical.not_not, Bool.not_eq_false, Nat.not_lt, Nat.not_le] at h36
          refine ev_const (v := nI 1) dS_passBlanks_39 (by decide) ?_
          refine ev_is dS_passBlanks_40 rfl (Nat.le_of_ble_eq_true rfl) ?_
          refine ev_goto (tgt := 57) dS_passBlanks_41 (by decide) ?_
          refine ev_inc1 dS_passBlanks_57 (by first | assumption | rfl) ?_
          refine ev_goto (tgt := 4) dS_passBlanks_60 (by decide) ?_
          first | exact ih (p + 1) cm _ (by omega) (by first | assumption | rfl) (by first | assumption | rfl) rfl (by (repeat' split at hR) <;> first | exact hR | (exfalso; omega) | (exfalso; simp_all)) | exact ih (p + 1) false _ (by omega) (by first | assumption | rfl) (by first | assumption | rfl) rfl (by (repeat' split at hR) <;> first | exact hR | (exfalso; omega) | (exfalso; simp_all)) | exact ih (p + 1) true _ (by omega) (by first | assumption | rfl) (by first | assumption | rfl) rfl (by (repeat' split at hR) <;> first | exact hR | (exfalso; omega) | (exfalso; simp_all))
      · try simp (disch := omega) only [zcond, nI_ltI, nI_leI, nI_eq, zb0, Classical.not_not, Bool.not_eq_false, Nat.not_lt, Nat.not_le] at h24
        refine ev_const (v := nI 0) dS_passBlanks_27 (by decide) ?_
        refine ev_is dS_passBlanks_28 rfl (Nat.le_of_ble_eq_true rfl) ?_
        refine ev_goto (tgt := 57) dS_passBlanks_29 (by decide) ?_
        refine ev_inc1 dS_passBlanks_57 (by first | assumption | rfl) ?_
        refine ev_goto (tgt := 4) dS_passBlanks_60 (by decide) ?_
        first | exact ih (p + 1) cm _ (by omega) (by first | assumption | rfl) (by first | assumption | rfl) rfl (by (repeat' split at hR) <;> first | exact hR | (exfalso; omega) | (exfalso; simp_all)) | exact ih (p + 1) false _ (by omega) (by first | assumption | rfl) (by first | assumption | rfl) rfl (by (repeat' split at hR) <;> first | exact hR | (exfalso; omega) | (exfalso; simp_all)) | exact ih (p + 1) true _ (by omega) (by first | assumption | rfl) (by first | assumption | rfl) rfl (by (repeat' split at hR) <;> first | exact hR | (exfalso; omega) | (exfalso; simp_all))
set_option maxRecDepth 100000 in
set_option maxHeartbeats 4000000 in
theorem c_passBlanks {t : Nat → Nat} {e p : Nat} (hP : M.2.1 = zP0 n b) (hr : zR r) (hT : Txt M r t e) (hp : p ≤ e) : Pu Lx xs d mS_passBlanks [.ref (r + 1), .int (nI p)] M (nI (lBl t (e - p) p false)) := by
  unfold Pu Ct
  refine ev_const (v := nI 0) dS_passBlanks_0 (by decide) ?_
  refine ev_is dS_passBlanks_1 rfl (Nat.le_of_ble_eq_true rfl) ?_
  refine ev_il dS_passBlanks_2 rfl (by first | assumption | rfl) ?_
  refine ev_is dS_passBlanks_3 rfl (Nat.le_of_ble_eq_true rfl) ?_
  exact l_passBlanks hP hr hT (e - p) p false _ (by omega) rfl rfl rfl ⟨rfl, rfl⟩
set_option maxRecDepth 100000 in
set_option maxHeartbeats 4000000 in
theorem l_behindRun_l {t : Nat → Nat} {e : Nat} (hP : M.2.1 = zP0 n b) (hr : zR r) (hT : Txt M r t e) {R : Option Int32 → zM → Prop} : ∀ (f p : Nat) (L : Nat → Value), p + f = e → L 0 = .ref (r + 1) → L 2 = .int (nI 1) → L 3 = .int (nI p) → R (some (nI (lRun lLet t f p))) M → Ev Lx xs (d + 1) mS_behindRun 2 L [] M (zpost mS_behindRun R) := by
  have he := hT.2.1
  intro f
  induction f with
  | zero =>
    intro p L hpe hL0 hL2 hL3 hR
    rw [lRun] at hR
    refine ev_il dS_behindRun_2 rfl (by first | assumption | rfl) ?_
    refine ev_al dS_behindRun_3 rfl (by first | assumption | rfl) ?_
    refine ev_geti dS_behindRun_4 fS_28 (sh_S hr) ?_
    rw [hT.1]
    refine ev_icmp (tgt := 47) dS_behindRun_7 (by decide) (fun h7 => ?_) (fun h7 => ?_)
    · try simp (disch := omega) only [zcond, nI_ltI, nI_leI, nI_eq, zb0, Classical.not_not, Bool.not_eq_false, Nat.not_lt, Nat.not_le] at h7
      refine ev_il dS_behindRun_47 rfl (by first | assumption | rfl) ?_
      refine ev_ret dS_behindRun_48 rfl rfl ?_
      exact hR
    · first | omega | (simp (disch := omega) only [zcond, nI_ltI, nI_leI, nI_eq] at h7; omega)
  | succ f ih =>
    intro p L hpe hL0 hL2 hL3 hR
    rw [lRun] at hR
    refine ev_il dS_behindRun_2 rfl (by first | assumption | rfl) ?_
    refine ev_al dS_behindRun_3 rfl (by first | assumption | rfl) ?_
    refine ev_geti dS_behindRun_4 fS_28 (sh_S hr) ?_
    rw [hT.1]
    refine ev_icmp (tgt := 47) dS_behindRun_7 (by decide) (fun h7 => ?_) (fun h7 => ?_)
    · first | omega | (simp (disch := omega) only [zcond, nI_ltI, nI_leI, nI_eq] at h7; omega)
    · try simp (disch := omega) only [zcond, nI_ltI, nI_leI, nI_eq, zb0, Classical.not_not, Bool.not_eq_false, Nat.not_lt, Nat.not_le] at h7
      refine ev_il dS_behindRun_10 rfl (by first | assumption | rfl) ?_
      refine ev_if0 (tgt := 29) dS_behindRun_11 (by decide) (fun h11 => ?_) (fun h11 => ?_)
      · exact absurd h11 (show ¬ nI 1 = nI 0 by decide)
      · try simp (disch := omega) only [zcond, nI_ltI, nI_leI, nI_eq, zb0, Classical.not_not, Bool.not_eq_false, Nat.not_lt, Nat.not_le] at h11
        refine ev_al dS_behindRun_14 rfl (by first | assumption | rfl) ?_
        refine ev_getrP dS_behindRun_15 fS_9 (sh_S hr) (zq hP (pt_chars hr)) ?_
        refine ev_il dS_behindRun_18 rfl (by first | assumption | rfl) ?_
        refine ev_aldN dS_behindRun_19 rfl (sh_chars hr) (by omega) ?_
        rw [(hT.2.2 p (by omega)).1]
        have htp := (hT.2.2 p (by omega)).2
        refine ev_pS dS_behindRun_20 (c_isLetter (by omega)) lS_52 rfl (Nat.le_of_ble_eq_true rfl) rfl (Nat.le_of_ble_eq_true rfl) ?_
        refine ev_if0 (tgt := 47) dS_behindRun_23 (by decide) (fun h23 => ?_) (fun h23 => ?_)
        · try simp (disch := omega) only [zcond, nI_ltI, nI_leI, nI_eq, zb0, Classical.not_not, Bool.not_eq_false, Nat.not_lt, Nat.not_le] at h23
          refine ev_il dS_behindRun_47 rfl (by first | assumption | rfl) ?_
          refine ev_ret dS_behindRun_48 rfl rfl ?_
          exact (by (repeat' split at hR) <;> first | exact hR | (exfalso; omega) | (exfalso; simp_all))
        · try simp (disch := omega) only [zcond, nI_ltI, nI_leI, nI_eq, zb0, Classical.not_not, Bool.not_eq_false, Nat.not_lt, Nat.not_le] at h23
          refine ev_goto (tgt := 41) dS_behindRun_26 (by decide) ?_
          refine ev_inc1 dS_behindRun_41 (by first | assumption | rfl) ?_
          refine ev_goto (tgt := 2) dS_behindRun_44 (by decide) ?_
          exact ih (p + 1) _ (by omega) (by first | assumption | rfl) (by first | assumption | rfl) rfl (by (repeat' split at hR) <;> first | exact hR | (exfalso; omega) | (exfalso; simp_all))
set_option maxRecDepth 100000 in
set_option maxHeartbeats 4000000 in
theorem c_behindRun_l {t : Nat → Nat} {e p : Nat} (hP : M.2.1 = zP0 n b) (hr : zR r) (hT : Txt M r t e) (hp : p ≤ e) : Pu Lx xs (d + 1) mS_behindRun [.ref (r + 1), .int (nI p), .int (nI 1)] M (nI (lRun lLet t (e - p) p)) := by
  unfold Pu Ct
  refine ev_il dS_behindRun_0 rfl (by first | assumption | rfl) ?_
  refine ev_is dS_behindRun_1 rfl (Nat.le_of_ble_eq_true rfl) ?_
  exact l_behindRun_l hP hr hT (e - p) p _ (by omega) rfl rfl rfl ⟨rfl, rfl⟩
set_option maxRecDepth 100000 in
set_option maxHeartbeats 4000000 in
theorem l_behindRun_d {t : Nat → Nat} {e : Nat} (hP : M.2.1 = zP0 n b) (hr : zR r) (hT : Txt M r t e) {R : Option Int32 → zM → Prop} : ∀ (f p : Nat) (L : Nat → Value), p + f = e → L 0 = .ref (r + 1) → L 2 = .int (nI 0) → L 3 = .int (nI p) → R (some (nI (lRun lDig t f p))) M → Ev Lx xs (d + 1) mS_behindRun 2 L [] M (zpost mS_behindRun R) := by
  have he := hT.2.1
  intro f
  induction f with
  | zero =>
    intro p L hpe hL0 hL2 hL3 hR
    rw [lRun] at hR
    refine ev_il dS_behindRun_2 rfl (by first | assumption | rfl) ?_
    refine ev_al dS_behindRun_3 rfl (by first | assumption | rfl) ?_
    refine ev_geti dS_behindRun_4 fS_28 (sh_S hr) ?_
    rw [hT.1]
    refine ev_icmp (tgt := 47) dS_behindRun_7 (by decide) (fun h7 => ?_) (fun h7 => ?_)
    · try simp (disch := omega) only [zcond, nI_ltI, nI_leI, nI_eq, zb0, Classical.not_not, Bool.not_eq_false, Nat.not_lt, Nat.not_le] at h7
      refine ev_il dS_behindRun_47 rfl (by first | assumption | rfl) ?_
      refine ev_ret dS_behindRun_48 rfl rfl ?_
      exact hR
    · first | omega | (simp (disch := omega) only [zcond, nI_ltI, nI_leI, nI_eq] at h7; omega)
  | succ f ih =>
    intro p L hpe hL0 hL2 hL3 hR
    rw [lRun] at hR
    refine ev_il dS_behindRun_2 rfl (by first | assumption | rfl) ?_
    refine ev_al dS_behindRun_3 rfl (by first | assumption | rfl) ?_
    refine ev_geti dS_behindRun_4 fS_28 (sh_S hr) ?_
    rw [hT.1]
    refine ev_icmp (tgt := 47) dS_behindRun_7 (by decide) (fun h7 => ?_) (fun h7 => ?_)
    · first | omega | (simp (disch := omega) only [zcond, nI_ltI, nI_leI, nI_eq] at h7; omega)
    · try simp (disch := omega) only [zcond, nI_ltI, nI_leI, nI_eq, zb0, Classical.not_not, Bool.not_eq_false, Nat.not_lt, Nat.not_le] at h7
      refine ev_il dS_behindRun_10 rfl (by first | assumption | rfl) ?_
      refine ev_if0 (tgt := 29) dS_behindRun_11 (by decide) (fun h11 => ?_) (fun h11 => ?_)
      · try simp (disch := omega) only [zcond, nI_ltI, nI_leI, nI_eq, zb0, Classical.not_not, Bool.not_eq_false, Nat.not_lt, Nat.not_le] at h11
        refine ev_al dS_behindRun_29 rfl (by first | assumption | rfl) ?_
        refine ev_getrP dS_behindRun_30 fS_9 (sh_S hr) (zq hP (pt_chars hr)) ?_
        refine ev_il dS_behindRun_33 rfl (by first | assumption | rfl) ?_
        refine ev_aldN dS_behindRun_34 rfl (sh_chars hr) (by omega) ?_
        rw [(hT.2.2 p (by omega)).1]
        have htp := (hT.2.2 p (by omega)).2
        refine ev_pS dS_behindRun_35 (c_isDigit (by omega)) lS_64 rfl (Nat.le_of_ble_eq_true rfl) rfl (Nat.le_of_ble_eq_true rfl) ?_
        refine ev_if0 (tgt := 47) dS_behindRun_38 (by decide) (fun h38 => ?_) (fun h38 => ?_)
        · try simp (disch := omega) only [zcond, nI_ltI, nI_leI, nI_eq, zb0, Classical.not_not, Bool.not_eq_false, Nat.not_lt, Nat.not_le] at h38
          refine ev_il dS_behindRun_47 rfl (by first | assumption | rfl) ?_
          refine ev_ret dS_behindRun_48 rfl rfl ?_
          exact (by (repeat' split at hR) <;> first | exact hR | (exfalso; omega) | (exfalso; simp_all))
        · try simp (disch := omega) only [zcond, nI_ltI, nI_leI, nI_eq, zb0, Classical.not_not, Bool.not_eq_false, Nat.not_lt, Nat.not_le] at h38
          refine ev_inc1 dS_behindRun_41 (by first | assumption | rfl) ?_
          refine ev_goto (tgt := 2) dS_behindRun_44 (by decide) ?_
          exact ih (p + 1) _ (by omega) (by first | assumption | rfl) (by first | assumption | rfl) rfl (by (repeat' split at hR) <;> first | exact hR | (exfalso; omega) | (exfalso; simp_all))
      · exact absurd (rfl : nI 0 = nI 0) h11
set_option maxRecDepth 100000 in
set_option maxHeartbeats 4000000 in
theorem c_behindRun_d {t : Nat → Nat} {e p : Nat} (hP : M.2.1 = zP0 n b) (hr : zR r) (hT : Txt M r t e) (hp : p ≤ e) : Pu Lx xs (d + 1) mS_behindRun [.ref (r + 1), .int (nI p), .int (nI 0)] M (nI (lRun lDig t (e - p) p)) := by
  unfold Pu Ct
  refine ev_il dS_behindRun_0 rfl (by first | assumption | rfl) ?_
  refine ev_is dS_behindRun_1 rfl (Nat.le_of_ble_eq_true rfl) ?_
  exact l_behindRun_d hP hr hT (e - p) p _ (by omega) rfl rfl rfl ⟨rfl, rfl⟩
set_option maxRecDepth 100000 in
set_option maxHeartbeats 4000000 in
theorem l_quotedFrom {t : Nat → Nat} {e q : Nat} (hP : M.2.1 = zP0 n b) (hr : zR r) (hT : Txt M r t e) {R : Option Int32 → zM → Prop} : ∀ (f p : Nat) (L : Nat → Value), p + f = e → q < p → L 0 = .ref (r + 1) → L 1 = .int (nI q) → L 2 = .int (nI p) → R (some (nI (if lQuo t f p < e then q * 2048 + (lQuo t f p + 1 - q) * 8 + 2 else q * 2048 + (e - q) * 8 + 4))) M → Ev Lx xs (d + 1) mS_quotedFrom 4 L [] M (zpost mS_quotedFrom R) := by
  have he := hT.2.1
  intro f
  induction f with
  | zero =>
    intro p L hpe hqp hL0 hL1 hL2 hR
    refine ev_il dS_quotedFrom_4 rfl (by first | assumption | rfl) ?_
    refine ev_al dS_quotedFrom_5 rfl (by first | assumption | rfl) ?_
    refine ev_geti dS_quotedFrom_6 fS_28 (sh_S hr) ?_
    rw [hT.1]
    refine ev_icmp (tgt := 38) dS_quotedFrom_9 (by decide) (fun h9 => ?_) (fun h9 => ?_)
    · try simp (disch := omega) only [zcond, nI_ltI, nI_leI, nI_eq, zb0, Classical.not_not, Bool.not_eq_false, Nat.not_lt, Nat.not_le] at h9
      refine ev_il dS_quotedFrom_38 rfl (by first | assumption | rfl) ?_
      refine ev_al dS_quotedFrom_39 rfl (by first | assumption | rfl) ?_
      refine ev_geti dS_quotedFrom_40 fS_28 (sh_S hr) ?_
      rw [hT.1]
      refine ev_const (v := nI 4) dS_quotedFrom_43 (by decide) ?_
      refine ev_pS dS_quotedFrom_44 (c_packed (by omega)) lS_60 rfl (Nat.le_of_ble_eq_true rfl) rfl (Nat.le_of_ble_eq_true rfl) ?_
      refine ev_ret dS_quotedFrom_47 rfl rfl ?_
      rw [lQuo, if_neg (by omega)] at hR
      exact hR
    · first | omega | (simp (disch := omega) only [zcond, nI_ltI, nI_leI, nI_eq] at h9; omega)
  | succ f ih =>
    intro p L hpe hqp hL0 hL1 hL2 hR
    refine ev_il dS_quotedFrom_4 rfl (by first | assumption | rfl) ?_
    refine ev_al dS_quotedFrom_5 rfl (by first | assumption | rfl) ?_
    refine ev_geti dS_quotedFrom_6 fS_28 (sh_S hr) ?_
    rw [hT.1]
    refine ev_icmp (tgt := 38) dS_quotedFrom_9 (by decide) (fun h9 => ?_) (fun h9 => ?_)
    · first | omega | (simp (disch := omega) only [zcond, nI_ltI, nI_leI, nI_eq] at h9; omega)
    · try simp (disch := omega) only [zcond, nI_ltI, nI_leI, nI_eq, zb0, Classical.not_not, Bool.not_eq_false, Nat.not_lt, Nat.not_le] at h9
      refine ev_al dS_quotedFrom_12 rfl (by first | assumption | rfl) ?_
      refine ev_getrP dS_quotedFrom_13 fS_9 (sh_S hr) (zq hP (pt_chars hr)) ?_
      refine ev_il dS_quotedFrom_16 rfl (by first | assumption | rfl) ?_
      refine ev_aldN dS_quotedFrom_17 rfl (sh_chars hr) (by omega) ?_
      rw [(hT.2.2 p (by omega)).1]
      have htp := (hT.2.2 p (by omega)).2
      refine ev_const (v := nI 34) dS_quotedFrom_18 (by decide) ?_
      refine ev_icmp (tgt := 32) dS_quotedFrom_20 (by decide) (fun h20 => ?_) (fun h20 => ?_)
      · try simp (disch := omega) only [zcond, nI_ltI, nI_leI, nI_eq, zb0, Classical.not_not, Bool.not_eq_false, Nat.not_lt, Nat.not_le] at h20
        refine ev_inc1 dS_quotedFrom_32 (by first | assumption | rfl) ?_
        refine ev_goto (tgt := 4) dS_quotedFrom_35 (by decide) ?_
        exact ih (p + 1) _ (by omega) (by omega) (by first | assumption | rfl) (by first | assumption | rfl) rfl (by rw [lQuo, if_neg h20] at hR; exact hR)
      · try simp (disch := omega) only [zcond, nI_ltI, nI_leI, nI_eq, zb0, Classical.not_not, Bool.not_eq_false, Nat.not_lt, Nat.not_le] at h20
        refine ev_il dS_quotedFrom_23 rfl (by first | assumption | rfl) ?_
        refine ev_il dS_quotedFrom_24 rfl (by first | assumption | rfl) ?_
        refine ev_const (v := nI 1) dS_quotedFrom_25 (by decide) ?_
        first | with_reducible refine ev_addN dS_quotedFrom_26 ?_ | refine ev_add dS_quotedFrom_26 ?_
        refine ev_const (v := nI 2) dS_quotedFrom_27 (by decide) ?_
        refine ev_pS dS_quotedFrom_28 (c_packed (by omega)) lS_60 rfl (Nat.le_of_ble_eq_true rfl) rfl (Nat.le_of_ble_eq_true rfl) ?_
        refine ev_ret dS_quotedFrom_31 rfl rfl ?_
        rw [lQuo, if_pos h20, if_pos (by omega)] at hR
        exact hR
set_option maxRecDepth 100000 in
set_option maxHeartbeats 4000000 in
theorem c_quotedFrom {t : Nat → Nat} {e p : Nat} (hP : M.2.1 = zP0 n b) (hr : zR r) (hT : Txt M r t e) (hp : p < e) : Pu Lx xs (d + 1) mS_quotedFrom [.ref (r + 1), .int (nI p)] M (nI (if lQuo t (e - (p + 1)) (p + 1) < e then p * 2048 + (lQuo t (e - (p + 1)) (p + 1) + 1 - p) * 8 + 2 else p * 2048 + (e - p) * 8 + 4)) := by
  unfold Pu Ct
  refine ev_il dS_quotedFrom_0 rfl (by first | assumption | rfl) ?_
  refine ev_const (v := nI 1) dS_quotedFrom_1 (by decide) ?_
  first | with_reducible refine ev_addN dS_quotedFrom_2 ?_ | refine ev_add dS_quotedFrom_2 ?_
  refine ev_is dS_quotedFrom_3 rfl (Nat.le_of_ble_eq_true rfl) ?_
  exact l_quotedFrom hP hr hT (e - (p + 1)) (p + 1) _ (by omega) (by omega) rfl rfl rfl ⟨rfl, rfl⟩
def lMk (k c : Nat) : Nat := if k = 0 then 97 else if k = 1 then 48 else if k = 2 then 34 else if k = 3 then c else 63
set_option maxRecDepth 100000 in
set_option maxHeartbeats 4000000 in
theorem c_markOf {k c : Nat} (hk : k < 5) (hc : c < 65536) : Pu Lx xs d mS_markOf [.int (nI k), .int (nI c)] M (nI (lMk k c)) := by
  unfold Pu Ct
  refine ev_il dS_markOf_0 rfl (by first | assumption | rfl) ?_
  rcases (show k = 0 ∨ k = 1 ∨ k = 2 ∨ k = 3 ∨ k = 4 by omega) with rfl | rfl | rfl | rfl | rfl
  · refine ev_tin (tgt := 32) dS_markOf_1 (by decide) (by decide) rfl (by decide) ?_
    refine ev_const (v := nI 97) dS_markOf_32 (by decide) ?_
    refine ev_ret dS_markOf_34 rfl (zchr (by omega)) ?_
    exact ⟨rfl, rfl⟩
  · refine ev_tin (tgt := 35) dS_markOf_1 (by decide) (by decide) rfl (by decide) ?_
    refine ev_const (v := nI 48) dS_markOf_35 (by decide) ?_
    refine ev_ret dS_markOf_37 rfl (zchr (by omega)) ?_
    exact ⟨rfl, rfl⟩
  · refine ev_tin (tgt := 38) dS_markOf_1 (by decide) (by decide) rfl (by decide) ?_
    refine ev_const (v := nI 34) dS_markOf_38 (by decide) ?_
    refine ev_ret dS_markOf_40 rfl (zchr (by omega)) ?_
    exact ⟨rfl, rfl⟩
  · refine ev_tin (tgt := 41) dS_markOf_1 (by decide) (by decide) rfl (by decide) ?_
    refine ev_il dS_markOf_41 rfl (by first | assumption | rfl) ?_
    refine ev_ret dS_markOf_42 rfl (zchr (by omega)) ?_
    exact ⟨rfl, rfl⟩
  · refine ev_tout (tgt := 43) dS_markOf_1 (by decide) (by decide) ?_
    refine ev_const (v := nI 63) dS_markOf_43 (by decide) ?_
    refine ev_ret dS_markOf_45 rfl (zchr (by omega)) ?_
    exact ⟨rfl, rfl⟩
end
end
section
/- String.indexOf over the signs; the rest of Source (rows laid by program) -/
section
variable {Lx : Nat} {xs : Nat → Int32} {d : Nat} {M : zM} {n b r : Nat}
set_option maxRecDepth 100000 in
set_option maxHeartbeats 4000000 in
theorem c_isLatin1 : Pu Lx xs d mJ_isLatin1 [.ref 1001] M (nI 1) := by
  unfold Pu Ct
  refine ev_scmp dJ_isLatin1_0 fJ_38 ?_
  refine ev_if0 (tgt := 17) dJ_isLatin1_3 (by decide) (fun h3 => ?_) (fun h3 => ?_)
  · exact absurd h3 (show ¬ (1 : Int32) = nI 0 by decide)
  · refine ev_al dJ_isLatin1_6 rfl (by first | assumption | rfl) ?_
    refine ev_scod dJ_isLatin1_7 fJ_15 ?_
    refine ev_if0 (tgt := 17) dJ_isLatin1_10 (by decide) (fun h10 => ?_) (fun h10 => ?_)
    · exact absurd (show (0 : Int32) = nI 0 by decide) h10
    · refine ev_const (v := nI 1) dJ_isLatin1_13 (by decide) ?_
      refine ev_goto (tgt := 18) dJ_isLatin1_14 (by decide) ?_
      refine ev_ret dJ_isLatin1_18 rfl rfl ?_
      exact ⟨rfl, rfl⟩
set_option maxRecDepth 100000 in
set_option maxHeartbeats 4000000 in
theorem c_coder : Pu Lx xs d mJ_coder [.ref 1001] M (nI 0) := by
  unfold Pu Ct
  refine ev_scmp dJ_coder_0 fJ_38 ?_
  refine ev_if0 (tgt := 13) dJ_coder_3 (by decide) (fun h3 => ?_) (fun h3 => ?_)
  · exact absurd h3 (show ¬ (1 : Int32) = nI 0 by decide)
  · refine ev_al dJ_coder_6 rfl (by first | assumption | rfl) ?_
    refine ev_scod dJ_coder_7 fJ_15 ?_
    refine ev_goto (tgt := 14) dJ_coder_10 (by decide) ?_
    refine ev_ret dJ_coder_14 rfl rfl ?_
    exact ⟨rfl, rfl⟩
set_option maxRecDepth 100000 in
set_option maxHeartbeats 4000000 in
theorem c_length : Pu Lx xs (d + 1) mJ_length [.ref 1001] M (nI 10) := by
  unfold Pu Ct
  refine ev_al dJ_length_0 rfl (by first | assumption | rfl) ?_
  refine ev_sval dJ_length_1 fJ_9 ?_
  refine ev_sblen dJ_length_4 ?_
  refine ev_al dJ_length_5 rfl (by first | assumption | rfl) ?_
  refine ev_pV dJ_length_6 c_coder lJS_335 rec_J rfl (Nat.le_of_ble_eq_true rfl) rfl (Nat.le_of_ble_eq_true rfl) ?_
  refine ev_shr dJ_length_9 ?_
  refine ev_ret dJ_length_10 rfl rfl ?_
  exact ⟨by decide, rfl⟩
set_option maxRecDepth 100000 in
set_option maxHeartbeats 4000000 in
theorem c_canEncode {c : Nat} (hc : c < 128) : Pu Lx xs d mJ_canEncode [.int (nI c)] M (nI 1) := by
  unfold Pu Ct
  refine ev_il dJ_canEncode_0 rfl (by first | assumption | rfl) ?_
  refine ev_if0 (tgt := 15) dJ_canEncode_1 (by decide) (fun h1 => ?_) (fun h1 => ?_)
  · first | omega | (simp (disch := omega) only [zcond, nI_ltI, nI_leI, nI_eq] at h1; omega)
  · try simp (disch := omega) only [zcond, nI_ltI, nI_leI, nI_eq, zb0, Classical.not_not, Bool.not_eq_false, Nat.not_lt, Nat.not_le] at h1
    refine ev_il dJ_canEncode_4 rfl (by first | assumption | rfl) ?_
    refine ev_const (v := nI 255) dJ_canEncode_5 (by decide) ?_
    refine ev_icmp (tgt := 15) dJ_canEncode_8 (by decide) (fun h8 => ?_) (fun h8 => ?_)
    · first | omega | (simp (disch := omega) only [zcond, nI_ltI, nI_leI, nI_eq] at h8; omega)
    · try simp (disch := omega) only [zcond, nI_ltI, nI_leI, nI_eq, zb0, Classical.not_not, Bool.not_eq_false, Nat.not_lt, Nat.not_le] at h8
      refine ev_const (v := nI 1) dJ_canEncode_11 (by decide) ?_
      refine ev_goto (tgt := 16) dJ_canEncode_12 (by decide) ?_
      refine ev_ret dJ_canEncode_16 rfl rfl ?_
      exact ⟨rfl, rfl⟩
/-- the sign at place i is c -/
def zsg (i c : Nat) : Prop := zsb.getD i 0 = nI c
theorem zsg_lt : ∀ c, c < 128 → lSig c = false → ∀ i, i < 10 → ¬ zsb.getD i 0 = nI c := by decide
theorem zsg_ex : ∀ c, c < 128 → lSig c = true → ∃ i, i < 10 ∧ zsb.getD i 0 = nI c := by decide
set_option maxRecDepth 100000 in
set_option maxHeartbeats 4000000 in
theorem l_indexOfChar {c : Nat} {R : Option Int32 → zM → Prop} (hy : ∀ i, i < 10 → zsb.getD i 0 = nI c → R (some (nI i)) M) (hn : (∀ i, i < 10 → ¬ zsb.getD i 0 = nI c) → R (some (-1)) M) : ∀ (f i : Nat) (L : Nat → Value), i + f = 10 → L 0 = .ref 1002 → L 3 = .int (nI 10) → L 4 = .int (nI c) → L 5 = .int (nI i) → (∀ j, j < i → ¬ zsb.getD j 0 = nI c) → Ev Lx xs d mJ_indexOfChar 7 L [] M (zpost mJ_indexOfChar R) := by
  intro f
  induction f with
  | zero =>
    intro i L hf hL0 hL3 hL4 hL5 hno
    obtain rfl : i = 10 := by omega
    refine ev_il dJ_indexOfChar_7 rfl (by first | assumption | rfl) ?_
    refine ev_il dJ_indexOfChar_9 rfl (by first | assumption | rfl) ?_
    refine ev_icmp (tgt := 31) dJ_indexOfChar_10 (by decide) (fun h10 => ?_) (fun h10 => ?_)
    · try simp (disch := omega) only [zcond, nI_ltI, nI_leI, nI_eq, zb0, Classical.not_not, Bool.not_eq_false, Nat.not_lt, Nat.not_le] at h10
      refine ev_const (v := -1) dJ_indexOfChar_31 (by decide) ?_
      refine ev_ret dJ_indexOfChar_32 rfl rfl ?_
      exact hn hno
    · first | omega | (simp (disch := omega) only [zcond, nI_ltI, nI_leI, nI_eq] at h10; omega)
  | succ f ih =>
    intro i L hf hL0 hL3 hL4 hL5 hno
    refine ev_il dJ_indexOfChar_7 rfl (by first | assumption | rfl) ?_
    refine ev_il dJ_indexOfChar_9 rfl (by first | assumption | rfl) ?_
    refine ev_icmp (tgt := 31) dJ_indexOfChar_10 (by decide) (fun h10 => ?_) (fun h10 => ?_)
    · first | omega | (simp (disch := omega) only [zcond, nI_ltI, nI_leI, nI_eq] at h10; omega)
    · try simp (disch := omega) only [zcond, nI_ltI, nI_leI, nI_eq, zb0, Classical.not_not, Bool.not_eq_false, Nat.not_lt, Nat.not_le] at h10
      refine ev_al dJ_indexOfChar_13 rfl (by first | assumption | rfl) ?_
      refine ev_il dJ_indexOfChar_14 rfl (by first | assumption | rfl) ?_
      refine ev_sbld dJ_indexOfChar_16 (vp_in_nI (show i < zsn by show i < 10; omega) (by decide)) ?_
      rw [nI_clamp (by omega)]
      refine ev_il dJ_indexOfChar_17 rfl (by first | assumption | rfl) ?_
      refine ev_icmp (tgt := 25) dJ_indexOfChar_19 (by decide) (fun h19 => ?_) (fun h19 => ?_)
      · try simp only [zcond, Classical.not_not] at h19
        refine ev_inc1 dJ_indexOfChar_25 (by first | assumption | rfl) ?_
        refine ev_goto (tgt := 7) dJ_indexOfChar_28 (by decide) ?_
        refine ih (i + 1) _ (by omega) (by first | assumption | rfl) (by first | assumption | rfl) (by first | assumption | rfl) rfl ?_
        intro j hj
        rcases Nat.lt_succ_iff_lt_or_eq.mp hj with hj | rfl
        · exact hno j hj
        · exact h19
      · try simp only [zcond, Classical.not_not] at h19
        refine ev_il dJ_indexOfChar_22 rfl (by first | assumption | rfl) ?_
        refine ev_ret dJ_indexOfChar_24 rfl rfl ?_
        exact hy i (by omega) h19
/-- what indexOf answers: not below 0 just where c is a sign -/
def zixR (M : zM) (c : Nat) : Option Int32 → zM → Prop := fun q M' => M' = M ∧ ∃ x, q = some x ∧ (x < nI 0 ↔ lSig c = false)
theorem zixR_y {c i : Nat} (hc : c < 128) (hi : i < 10) (h : zsb.getD i 0 = nI c) : zixR M c (some (nI i)) M := by
  refine ⟨rfl, _, rfl, ⟨fun h1 => absurd h1 (nI_nlt (by omega) (by omega)), fun h1 => absurd h (zsg_lt c hc h1 i hi)⟩⟩
theorem zixR_n {c : Nat} (hc : c < 128) (h : ∀ i, i < 10 → ¬ zsb.getD i 0 = nI c) : zixR M c (some (-1)) M := by
  refine ⟨rfl, _, rfl, ⟨fun _ => ?_, fun _ => by decide⟩⟩
  cases hs : lSig c with
  | false => rfl
  | true => obtain ⟨i, hi, h1⟩ := zsg_ex c hc hs; exact absurd h1 (h i hi)
set_option maxRecDepth 100000 in
set_option maxHeartbeats 4000000 in
theorem c_indexOfChar {c : Nat} (hc : c < 128) : Ct Lx xs d mJ_indexOfChar [.ref 1002, .int (nI c), .int (nI 0), .int (nI 10)] M (zixR M c) := by
  unfold Ct
  refine ev_il dJ_indexOfChar_0 rfl (by first | assumption | rfl) ?_
  refine ev_un dJ_indexOfChar_1 rfl ?_
  rw [zi2b c hc]
  refine ev_is dJ_indexOfChar_2 rfl (Nat.le_of_ble_eq_true rfl) ?_
  refine ev_il dJ_indexOfChar_4 rfl (by first | assumption | rfl) ?_
  refine ev_is dJ_indexOfChar_5 rfl (Nat.le_of_ble_eq_true rfl) ?_
  exact l_indexOfChar (fun i hi h => zixR_y hc hi h) (fun h => zixR_n hc h) 10 0 _ rfl rfl rfl rfl rfl (fun j hj => absurd hj (Nat.not_lt_zero j))
set_option maxRecDepth 100000 in
set_option maxHeartbeats 4000000 in
theorem c_lindexOf {c : Nat} (hc : c < 128) : Ct Lx xs (d + 1) mJ_lindexOf [.ref 1002, .int (nI c), .int (nI 0), .int (nI 10)] M (zixR M c) := by
  unfold Ct
  refine ev_il dJ_lindexOf_0 rfl (by first | assumption | rfl) ?_
  refine ev_pS dJ_lindexOf_1 (c_canEncode hc) lJL_88 rfl (Nat.le_of_ble_eq_true rfl) rfl (Nat.le_of_ble_eq_true rfl) ?_
  refine ev_if0 (tgt := 9) dJ_lindexOf_4 (by decide) (fun h4 => ?_) (fun h4 => ?_)
  · refine ev_il dJ_lindexOf_9 rfl (by first | assumption | rfl) ?_
    refine ev_const (v := nI 0) dJ_lindexOf_10 (by decide) ?_
    refine ev_max dJ_lindexOf_11 lJL_92 (Nat.le_of_ble_eq_true rfl) ?_
    rw [show (if nI 0 < nI 0 then nI 0 else nI 0) = nI 0 by decide]
    refine ev_is dJ_lindexOf_14 rfl (Nat.le_of_ble_eq_true rfl) ?_
    refine ev_il dJ_lindexOf_15 rfl (by first | assumption | rfl) ?_
    refine ev_al dJ_lindexOf_16 rfl (by first | assumption | rfl) ?_
    refine ev_sblen dJ_lindexOf_17 ?_
    refine ev_min dJ_lindexOf_18 lJL_38 (Nat.le_of_ble_eq_true rfl) ?_
    rw [show (if nI zsn < nI 10 then nI zsn else nI 10) = nI 10 by decide]
    refine ev_is dJ_lindexOf_21 rfl (Nat.le_of_ble_eq_true rfl) ?_
    refine ev_il dJ_lindexOf_22 rfl (by first | assumption | rfl) ?_
    refine ev_il dJ_lindexOf_23 rfl (by first | assumption | rfl) ?_
    refine ev_icmp (tgt := 29) dJ_lindexOf_24 (by decide) (fun h24 => ?_) (fun h24 => ?_)
    · try simp (disch := omega) only [zcond, nI_ltI, nI_leI, nI_eq, zb0, Classical.not_not, Bool.not_eq_false, Nat.not_lt, Nat.not_le] at h24
      refine ev_al dJ_lindexOf_29 rfl (by first | assumption | rfl) ?_
      refine ev_il dJ_lindexOf_30 rfl (by first | assumption | rfl) ?_
      refine ev_il dJ_lindexOf_31 rfl (by first | assumption | rfl) ?_
      refine ev_il dJ_lindexOf_32 rfl (by first | assumption | rfl) ?_
      refine ev_cS dJ_lindexOf_33 (c_indexOfChar hc) lJL_95 rfl (Nat.le_of_ble_eq_true rfl) rfl (Nat.le_of_ble_eq_true rfl) (fun q M1 hq => ?_)
      obtain ⟨rfl, x, rfl, hx⟩ := hq
      refine ev_ret dJ_lindexOf_36 rfl rfl ?_
      exact ⟨rfl, x, rfl, hx⟩
    · first | omega | (simp (disch := omega) only [zcond, nI_ltI, nI_leI, nI_eq] at h24; omega)
  · exact absurd h4 (show ¬ ¬ ¬ nI 1 = nI 0 by decide)
set_option maxRecDepth 100000 in
set_option maxHeartbeats 4000000 in
theorem c_indexOf2 {c : Nat} (hc : c < 128) : Ct Lx xs (d + 2) mJ_indexOf2 [.ref 1001, .int (nI c), .int (nI 0)] M (zixR M c) := by
  unfold Ct
  refine ev_al dJ_indexOf2_0 rfl (by first | assumption | rfl) ?_
  refine ev_pV dJ_indexOf2_1 c_isLatin1 lJS_492 rec_J rfl (Nat.le_of_ble_eq_true rfl) rfl (Nat.le_of_ble_eq_true rfl) ?_
  refine ev_if0 (tgt := 23) dJ_indexOf2_4 (by decide) (fun h4 => ?_) (fun h4 => ?_)
  · exact absurd h4 (show ¬ nI 1 = nI 0 by decide)
  · refine ev_al dJ_indexOf2_7 rfl (by first | assumption | rfl) ?_
    refine ev_sval dJ_indexOf2_8 fJ_9 ?_
    refine ev_il dJ_indexOf2_11 rfl (by first | assumption | rfl) ?_
    refine ev_il dJ_indexOf2_12 rfl (by first | assumption | rfl) ?_
    refine ev_al dJ_indexOf2_13 rfl (by first | assumption | rfl) ?_
    refine ev_pV dJ_indexOf2_14 c_length lJS_505 rec_J rfl (Nat.le_of_ble_eq_true rfl) rfl (Nat.le_of_ble_eq_true rfl) ?_
    refine ev_cS dJ_indexOf2_17 (c_lindexOf hc) lJS_637 rfl (Nat.le_of_ble_eq_true rfl) rfl (Nat.le_of_ble_eq_true rfl) (fun q M1 hq => ?_)
    obtain ⟨rfl, x, rfl, hx⟩ := hq
    refine ev_goto (tgt := 36) dJ_indexOf2_20 (by decide) ?_
    refine ev_ret dJ_indexOf2_36 rfl rfl ?_
    exact ⟨rfl, x, rfl, hx⟩
set_option maxRecDepth 100000 in
set_option maxHeartbeats 4000000 in
theorem c_indexOf1 {c : Nat} (hc : c < 128) : Ct Lx xs (d + 3) mJ_indexOf1 [.ref 1001, .int (nI c)] M (zixR M c) := by
  unfold Ct
  refine ev_al dJ_indexOf1_0 rfl (by first | assumption | rfl) ?_
  refine ev_il dJ_indexOf1_1 rfl (by first | assumption | rfl) ?_
  refine ev_const (v := nI 0) dJ_indexOf1_2 (by decide) ?_
  refine ev_cV dJ_indexOf1_3 (c_indexOf2 hc) lJS_633 rec_J rfl (Nat.le_of_ble_eq_true rfl) rfl (Nat.le_of_ble_eq_true rfl) (fun q M1 hq => ?_)
  obtain ⟨rfl, x, rfl, hx⟩ := hq
  refine ev_ret dJ_indexOf1_6 rfl rfl ?_
  exact ⟨rfl, x, rfl, hx⟩
def lPk (t : Nat → Nat) (e p : Nat) : Nat := p * 2048 + (lEnd t e p - p) * 8 + lKind t e p
set_option maxRecDepth 100000 in
set_option maxHeartbeats 4000000 in
theorem c_tokenFrom {t : Nat → Nat} {e p : Nat} (hP : M.2.1 = zP0 n b) (hr : zR r) (hT : Txt M r t e) (hp : p < e) : Pu Lx xs (d + 4) mS_tokenFrom [.ref (r + 1), .int (nI p)] M (nI (lPk t e p)) := by
  unfold Pu Ct
  have he := hT.2.1
  have htp := (hT.2.2 p hp).2
  refine ev_al dS_tokenFrom_0 rfl (by first | assumption | rfl) ?_
  refine ev_getrP dS_tokenFrom_1 fS_9 (sh_S hr) (zq hP (pt_chars hr)) ?_
  refine ev_il dS_tokenFrom_4 rfl (by first | assumption | rfl) ?_
  refine ev_aldN dS_tokenFrom_5 rfl (sh_chars hr) (by omega) ?_
  rw [(hT.2.2 p hp).1]
  refine ev_is dS_tokenFrom_6 rfl (Nat.le_of_ble_eq_true rfl) ?_
  refine ev_il dS_tokenFrom_7 rfl (by first | assumption | rfl) ?_
  refine ev_const (v := nI 34) dS_tokenFrom_8 (by decide) ?_
  refine ev_icmp (tgt := 19) dS_tokenFrom_10 (by decide) (fun h10 => ?_) (fun h10 => ?_)
  · try simp (disch := omega) only [zcond, nI_ltI, nI_leI, nI_eq, zb0, Classical.not_not, Bool.not_eq_false, Nat.not_lt, Nat.not_le] at h10
    refine ev_il dS_tokenFrom_19 rfl (by first | assumption | rfl) ?_
    refine ev_pS dS_tokenFrom_20 (c_isLetter (by omega)) lS_52 rfl (Nat.le_of_ble_eq_true rfl) rfl (Nat.le_of_ble_eq_true rfl) ?_
    refine ev_if0 (tgt := 38) dS_tokenFrom_23 (by decide) (fun h23 => ?_) (fun h23 => ?_)
    · try simp (disch := omega) only [zcond, nI_ltI, nI_leI, nI_eq, zb0, Classical.not_not, Bool.not_eq_false, Nat.not_lt, Nat.not_le] at h23
      refine ev_il dS_tokenFrom_38 rfl (by first | assumption | rfl) ?_
      refine ev_pS dS_tokenFrom_39 (c_isDigit (by omega)) lS_64 rfl (Nat.le_of_ble_eq_true rfl) rfl (Nat.le_of_ble_eq_true rfl) ?_
      refine ev_if0 (tgt := 57) dS_tokenFrom_42 (by decide) (fun h42 => ?_) (fun h42 => ?_)
      · try simp (disch := omega) only [zcond, nI_ltI, nI_leI, nI_eq, zb0, Classical.not_not, Bool.not_eq_false, Nat.not_lt, Nat.not_le] at h42
        refine ev_il dS_tokenFrom_57 rfl (by first | assumption | rfl) ?_
        refine ev_il dS_tokenFrom_58 rfl (by first | assumption | rfl) ?_
        refine ev_const (v := nI 1) dS_tokenFrom_59 (by decide) ?_
        first | with_reducible refine ev_addN dS_tokenFrom_60 ?_ | refine ev_add dS_tokenFrom_60 ?_
        refine ev_ldcS dS_tokenFrom_61 rfl ?_
        refine ev_il dS_tokenFrom_63 rfl (by first | assumption | rfl) ?_
        refine ev_cV dS_tokenFrom_64 (c_indexOf1 htp) lS_69 rec_J rfl (Nat.le_of_ble_eq_true rfl) rfl (Nat.le_of_ble_eq_true rfl) (fun q M1 hq => ?_)
        obtain ⟨rfl, x, rfl, hx⟩ := hq
        refine ev_if0 (tgt := 74) dS_tokenFrom_67 (by decide) (fun h67 => ?_) (fun h67 => ?_)
        · simp only [zcond] at h67
          rw [hx] at h67
          try simp only [Bool.not_eq_false] at h67
          refine ev_const (v := nI 4) dS_tokenFrom_74 (by decide) ?_
          refine ev_pS dS_tokenFrom_75 (c_packed (by omega)) lS_60 rfl (Nat.le_of_ble_eq_true rfl) rfl (Nat.le_of_ble_eq_true rfl) ?_
          refine ev_ret dS_tokenFrom_78 rfl rfl ?_
          exact ⟨by simp [lPk, lEnd, lKind, h10, h23, h42, h67], rfl⟩
        · simp only [zcond] at h67
          rw [hx] at h67
          try simp only [Bool.not_eq_false] at h67
          refine ev_const (v := nI 3) dS_tokenFrom_70 (by decide) ?_
          refine ev_goto (tgt := 75) dS_tokenFrom_71 (by decide) ?_
          refine ev_pS dS_tokenFrom_75 (c_packed (by omega)) lS_60 rfl (Nat.le_of_ble_eq_true rfl) rfl (Nat.le_of_ble_eq_true rfl) ?_
          refine ev_ret dS_tokenFrom_78 rfl rfl ?_
          exact ⟨by simp [lPk, lEnd, lKind, h10, h23, h42, h67], rfl⟩
      · try simp (disch := omega) only [zcond, nI_ltI, nI_leI, nI_eq, zb0, Classical.not_not, Bool.not_eq_false, Nat.not_lt, Nat.not_le] at h42
        refine ev_il dS_tokenFrom_45 rfl (by first | assumption | rfl) ?_
        refine ev_al dS_tokenFrom_46 rfl (by first | assumption | rfl) ?_
        refine ev_il dS_tokenFrom_47 rfl (by first | assumption | rfl) ?_
        refine ev_const (v := nI 0) dS_tokenFrom_48 (by decide) ?_
        refine ev_pV dS_tokenFrom_49 (c_behindRun_d hP hr hT (by omega)) lS_56 (rec_S hr) rfl (Nat.le_of_ble_eq_true rfl) rfl (Nat.le_of_ble_eq_true rfl) ?_
        refine ev_const (v := nI 1) dS_tokenFrom_52 (by decide) ?_
        refine ev_pS dS_tokenFrom_53 (c_packed (lRun_in _ _ _ _).1) lS_60 rfl (Nat.le_of_ble_eq_true rfl) rfl (Nat.le_of_ble_eq_true rfl) ?_
        refine ev_ret dS_tokenFrom_56 rfl rfl ?_
        exact ⟨by simp [lPk, lEnd, lKind, h10, h23, h42], rfl⟩
    · try simp (disch := omega) only [zcond, nI_ltI, nI_leI, nI_eq, zb0, Classical.not_not, Bool.not_eq_false, Nat.not_lt, Nat.not_le] at h23
      refine ev_il dS_tokenFrom_26 rfl (by first | assumption | rfl) ?_
      refine ev_al dS_tokenFrom_27 rfl (by first | assumption | rfl) ?_
      refine ev_il dS_tokenFrom_28 rfl (by first | assumption | rfl) ?_
      refine ev_const (v := nI 1) dS_tokenFrom_29 (by decide) ?_
      refine ev_pV dS_tokenFrom_30 (c_behindRun_l hP hr hT (by omega)) lS_56 (rec_S hr) rfl (Nat.le_of_ble_eq_true rfl) rfl (Nat.le_of_ble_eq_true rfl) ?_
      refine ev_const (v := nI 0) dS_tokenFrom_33 (by decide) ?_
      refine ev_pS dS_tokenFrom_34 (c_packed (lRun_in _ _ _ _).1) lS_60 rfl (Nat.le_of_ble_eq_true rfl) rfl (Nat.le_of_ble_eq_true rfl) ?_
      refine ev_ret dS_tokenFrom_37 rfl rfl ?_
      exact ⟨by simp [lPk, lEnd, lKind, h10, h23], rfl⟩
  · try simp (disch := omega) only [zcond, nI_ltI, nI_leI, nI_eq, zb0, Classical.not_not, Bool.not_eq_false, Nat.not_lt, Nat.not_le] at h10
    refine ev_al dS_tokenFrom_13 rfl (by first | assumption | rfl) ?_
    refine ev_il dS_tokenFrom_14 rfl (by first | assumption | rfl) ?_
    refine ev_pV dS_tokenFrom_15 (c_quotedFrom hP hr hT hp) lS_49 (rec_S hr) rfl (Nat.le_of_ble_eq_true rfl) rfl (Nat.le_of_ble_eq_true rfl) ?_
    refine ev_ret dS_tokenFrom_18 rfl rfl ?_
    refine ⟨?_, rfl⟩
    unfold lPk lEnd lKind
    rw [if_pos h10, if_pos h10]
    split <;> rfl
end
end
section
/- Source: movedToken, areSame, digitsValue, findTokens (rows laid by program) -/
theorem lMk_lt {k c : Nat} (hc : c < 128) : lMk k c < 128 := by
  unfold lMk
  repeat' split
  all_goals omega
theorem lPk_k (t : Nat → Nat) (e p : Nat) : lPk t e p % 8 = lKind t e p := by
  have := lKind_lt t e p
  unfold lPk; omega
theorem lPk_e {t : Nat → Nat} {e p : Nat} (he : e ≤ 160) (hp : p < e) : lPk t e p / 2048 + lPk t e p % 2048 / 8 = lEnd t e p := by
  have := lKind_lt t e p
  have := lEnd_in t hp
  unfold lPk; omega
theorem lPk_lt {t : Nat → Nat} {e p : Nat} (he : e ≤ 160) (hp : p < e) : lPk t e p < 2 ^ 31 := by
  have := lKind_lt t e p
  have := lEnd_in t hp
  unfold lPk; omega
/-- a number's digits -/
def lDv (t : Nat → Nat) (p : Nat) : Nat → Int32
  | 0 => nI 0
  | i + 1 => nI 10 * lDv t p i + (nI (t (p + i)) - nI 48)
def lSame (t : Nat → Nat) : Nat → Nat → Nat → Bool
  | 0, _, _ => true
  | f + 1, p, q => if t p = t q then lSame t f (p + 1) (q + 1) else false
/-- the tokens ts stand in the reading r -/
def Toks (M : zM) (r : Nat) (t : Nat → Nat) (ts : List (Nat × Nat × Nat)) : Prop := M.1 (r + 1) 4 = nI ts.length ∧ ∀ k q, ts[k]? = some q → M.1 (r + 4) k = nI (q.1 * 2048 + q.2.1 * 8 + q.2.2) ∧ M.1 (r + 5) k = nI (lMk q.2.2 (t q.1))
/-- nothing else has changed -/
def zSame (S : Nat → Nat → Prop) (M M' : zM) : Prop := M'.2 = M.2 ∧ ∀ o i, ¬ S o i → M'.1 o i = M.1 o i
theorem zSame.rf (S : Nat → Nat → Prop) (M : zM) : zSame S M M := ⟨rfl, fun _ _ _ => rfl⟩
theorem zSame.tr {S : Nat → Nat → Prop} {M M1 M2 : zM} (h : zSame S M M1) (h' : zSame S M1 M2) : zSame S M M2 := ⟨h'.1.trans h.1, fun o i hs => (h'.2 o i hs).trans (h.2 o i hs)⟩
theorem zSame.I {S : Nat → Nat → Prop} {M M1 : zM} {o k : Nat} {x : Int32} (h : zSame S M M1) (hs : S o k) : zSame S M (zI M1 o k x) :=
  ⟨h.1, fun a i hn => by rw [zI_at, if_neg (fun hh => hn (by rw [hh.1, hh.2]; exact hs))]; exact h.2 a i hn⟩
def sF (r : Nat) : Nat → Nat → Prop := fun o i => o = r + 4 ∨ o = r + 5 ∨ (o = r + 1 ∧ i = 4)
section
variable {Lx : Nat} {xs : Nat → Int32} {d : Nat} {M : zM} {n b r : Nat}
set_option maxRecDepth 100000 in
set_option maxHeartbeats 4000000 in
theorem c_movedToken {k v p g w : Nat} (hP : M.2.1 = zP0 n b) (hr : zR r) (hk : k < 160) (hv : M.1 (r + 4) k = nI v) (hv2 : v < 2 ^ 24) (hp : p ≤ 160) (hg : g ≤ 160) : Pu Lx xs (d + 2) mS_movedToken [.ref (r + 1), .int (nI k), .int (nI p), .int (nI g), .int (nI w)] M (if v / 2048 + v % 2048 / 8 ≤ p then nI v else if p + g ≤ v / 2048 then nI v + (nI w - nI g) * nI 2048 else -1) := by
  unfold Pu Ct
  have hv2 : v < 2 ^ 31 := by omega
  refine ev_al dS_movedToken_0 rfl (by first | assumption | rfl) ?_
  refine ev_il dS_movedToken_1 rfl (by first | assumption | rfl) ?_
  refine ev_pV dS_movedToken_2 (c_placeBehind hP hr hk hv hv2) lS_46 (rec_S hr) rfl (Nat.le_of_ble_eq_true rfl) rfl (Nat.le_of_ble_eq_true rfl) ?_
  refine ev_il dS_movedToken_5 rfl (by first | assumption | rfl) ?_
  refine ev_icmp (tgt := 16) dS_movedToken_6 (by decide) (fun h6 => ?_) (fun h6 => ?_)
  · try simp (disch := omega) only [zcond, nI_ltI, nI_leI, nI_eq, zb0, Classical.not_not, Bool.not_eq_false, Nat.not_lt, Nat.not_le] at h6
    refine ev_al dS_movedToken_16 rfl (by first | assumption | rfl) ?_
    refine ev_il dS_movedToken_17 rfl (by first | assumption | rfl) ?_
    refine ev_pV dS_movedToken_18 (c_placeOf hP hr hk hv hv2) lS_74 (rec_S hr) rfl (Nat.le_of_ble_eq_true rfl) rfl (Nat.le_of_ble_eq_true rfl) ?_
    refine ev_il dS_movedToken_21 rfl (by first | assumption | rfl) ?_
    refine ev_il dS_movedToken_22 rfl (by first | assumption | rfl) ?_
    first | with_reducible refine ev_addN dS_movedToken_23 ?_ | refine ev_add dS_movedToken_23 ?_
    refine ev_icmp (tgt := 43) dS_movedToken_24 (by decide) (fun h24 => ?_) (fun h24 => ?_)
    · try simp (disch := omega) only [zcond, nI_ltI, nI_leI, nI_eq, zb0, Classical.not_not, Bool.not_eq_false, Nat.not_lt, Nat.not_le] at h24
      refine ev_const (v := -1) dS_movedToken_43 (by decide) ?_
      refine ev_ret dS_movedToken_44 rfl rfl ?_
      rw [if_neg (by omega), if_neg (by omega)]; exact ⟨rfl, rfl⟩
    · try simp (disch := omega) only [zcond, nI_ltI, nI_leI, nI_eq, zb0, Classical.not_not, Bool.not_eq_false, Nat.not_lt, Nat.not_le] at h24
      refine ev_al dS_movedToken_27 rfl (by first | assumption | rfl) ?_
      refine ev_getrP dS_movedToken_28 fS_15 (sh_S hr) (zq hP (pt_found hr)) ?_
      refine ev_il dS_movedToken_31 rfl (by first | assumption | rfl) ?_
      refine ev_aldN dS_movedToken_32 rfl (sh_found hr) (by omega) ?_
      rw [hv]
      refine ev_il dS_movedToken_33 rfl (by first | assumption | rfl) ?_
      refine ev_il dS_movedToken_35 rfl (by first | assumption | rfl) ?_
      refine ev_sub dS_movedToken_36 ?_
      refine ev_const (v := nI 2048) dS_movedToken_37 (by decide) ?_
      first | with_reducible refine ev_mulN dS_movedToken_40 ?_ | refine ev_mul dS_movedToken_40 ?_
      first | with_reducible refine ev_addN dS_movedToken_41 ?_ | refine ev_add dS_movedToken_41 ?_
      refine ev_ret dS_movedToken_42 rfl rfl ?_
      rw [if_neg (by omega), if_pos h24]; exact ⟨rfl, rfl⟩
  · try simp (disch := omega) only [zcond, nI_ltI, nI_leI, nI_eq, zb0, Classical.not_not, Bool.not_eq_false, Nat.not_lt, Nat.not_le] at h6
    refine ev_al dS_movedToken_9 rfl (by first | assumption | rfl) ?_
    refine ev_getrP dS_movedToken_10 fS_15 (sh_S hr) (zq hP (pt_found hr)) ?_
    refine ev_il dS_movedToken_13 rfl (by first | assumption | rfl) ?_
    refine ev_aldN dS_movedToken_14 rfl (sh_found hr) (by omega) ?_
    rw [hv]
    refine ev_ret dS_movedToken_15 rfl rfl ?_
    rw [if_pos h6]; exact ⟨rfl, rfl⟩
set_option maxRecDepth 100000 in
set_option maxHeartbeats 4000000 in
theorem l_digitsValue {t : Nat → Nat} {e p l : Nat} (hP : M.2.1 = zP0 n b) (hr : zR r) (hT : Txt M r t e) (hl : p + l ≤ e) {R : Option Int32 → zM → Prop} (hR : R (some (lDv t p l)) M) : ∀ (f i : Nat) (L : Nat → Value), i + f = l → L 0 = .ref (r + 1) → L 2 = .int (lDv t p i) → L 3 = .int (nI p) → L 4 = .int (nI l) → L 5 = .int (nI i) → Ev Lx xs (d + 1) mS_digitsValue 18 L [] M (zpost mS_digitsValue R) := by
  have he := hT.2.1
  intro f
  induction f with
  | zero =>
    intro i L hf hL0 hL2 hL3 hL4 hL5
    refine ev_il dS_digitsValue_18 rfl (by first | assumption | rfl) ?_
    refine ev_il dS_digitsValue_20 rfl (by first | assumption | rfl) ?_
    refine ev_icmp (tgt := 49) dS_digitsValue_22 (by decide) (fun h22 => ?_) (fun h22 => ?_)
    · try simp (disch := omega) only [zcond, nI_ltI, nI_leI, nI_eq, zb0, Classical.not_not, Bool.not_eq_false, Nat.not_lt, Nat.not_le] at h22
      refine ev_il dS_digitsValue_49 rfl (by first | assumption | rfl) ?_
      refine ev_ret dS_digitsValue_50 rfl rfl ?_
      obtain rfl : i = l := by omega
      exact hR
    · first | omega | (simp (disch := omega) only [zcond, nI_ltI, nI_leI, nI_eq] at h22; omega)
  | succ f ih =>
    intro i L hf hL0 hL2 hL3 hL4 hL5
    refine ev_il dS_digitsValue_18 rfl (by first | assumption | rfl) ?_
    refine ev_il dS_digitsValue_20 rfl (by first | assumption | rfl) ?_
    refine ev_icmp (tgt := 49) dS_digitsValue_22 (by decide) (fun h22 => ?_) (fun h22 => ?_)
    · first | omega | (simp (disch := omega) only [zcond, nI_ltI, nI_leI, nI_eq] at h22; omega)
    · try simp (disch := omega) only [zcond, nI_ltI, nI_leI, nI_eq, zb0, Classical.not_not, Bool.not_eq_false, Nat.not_lt, Nat.not_le] at h22
      refine ev_const (v := nI 10) dS_digitsValue_25 (by decide) ?_
      refine ev_il dS_digitsValue_27 rfl (by first | assumption | rfl) ?_
      first | with_reducible refine ev_mulN dS_digitsValue_28 ?_ | refine ev_mul dS_digitsValue_28 ?_
      refine ev_al dS_digitsValue_29 rfl (by first | assumption | rfl) ?_
      refine ev_getrP dS_digitsValue_30 fS_9 (sh_S hr) (zq hP (pt_chars hr)) ?_
      refine ev_il dS_digitsValue_33 rfl (by first | assumption | rfl) ?_
      refine ev_il dS_digitsValue_34 rfl (by first | assumption | rfl) ?_
      first | with_reducible refine ev_addN dS_digitsValue_36 ?_ | refine ev_add dS_digitsValue_36 ?_
      refine ev_aldN dS_digitsValue_37 rfl (sh_chars hr) (by omega) ?_
      rw [(hT.2.2 (p + i) (by omega)).1]
      refine ev_const (v := nI 48) dS_digitsValue_38 (by decide) ?_
      refine ev_sub dS_digitsValue_40 ?_
      first | with_reducible refine ev_addN dS_digitsValue_41 ?_ | refine ev_add dS_digitsValue_41 ?_
      refine ev_is dS_digitsValue_42 rfl (Nat.le_of_ble_eq_true rfl) ?_
      refine ev_inc1 dS_digitsValue_43 (by first | assumption | rfl) ?_
      refine ev_goto (tgt := 18) dS_digitsValue_46 (by decide) ?_
      exact ih (i + 1) _ (by omega) (by first | assumption | rfl) rfl (by first | assumption | rfl) (by first | assumption | rfl) rfl
set_option maxRecDepth 100000 in
set_option maxHeartbeats 4000000 in
theorem c_digitsValue {t : Nat → Nat} {e k v : Nat} (hP : M.2.1 = zP0 n b) (hr : zR r) (hT : Txt M r t e) (hk : k < 160) (hv : M.1 (r + 4) k = nI v) (hv2 : v < 2 ^ 31) (hl : v / 2048 + v % 2048 / 8 ≤ e) : Pu Lx xs (d + 1) mS_digitsValue [.ref (r + 1), .int (nI k)] M (lDv t (v / 2048) (v % 2048 / 8)) := by
  unfold Pu Ct
  refine ev_const (v := nI 0) dS_digitsValue_0 (by decide) ?_
  refine ev_is dS_digitsValue_1 rfl (Nat.le_of_ble_eq_true rfl) ?_
  refine ev_al dS_digitsValue_2 rfl (by first | assumption | rfl) ?_
  refine ev_il dS_digitsValue_3 rfl (by first | assumption | rfl) ?_
  refine ev_pV dS_digitsValue_4 (c_placeOf hP hr hk hv hv2) lS_74 (rec_S hr) rfl (Nat.le_of_ble_eq_true rfl) rfl (Nat.le_of_ble_eq_true rfl) ?_
  refine ev_is dS_digitsValue_7 rfl (Nat.le_of_ble_eq_true rfl) ?_
  refine ev_al dS_digitsValue_8 rfl (by first | assumption | rfl) ?_
  refine ev_il dS_digitsValue_9 rfl (by first | assumption | rfl) ?_
  refine ev_pV dS_digitsValue_10 (c_lengthOf hP hr hk hv hv2) lS_77 (rec_S hr) rfl (Nat.le_of_ble_eq_true rfl) rfl (Nat.le_of_ble_eq_true rfl) ?_
  refine ev_is dS_digitsValue_13 rfl (Nat.le_of_ble_eq_true rfl) ?_
  refine ev_const (v := nI 0) dS_digitsValue_15 (by decide) ?_
  refine ev_is dS_digitsValue_16 rfl (Nat.le_of_ble_eq_true rfl) ?_
  exact l_digitsValue hP hr hT hl ⟨rfl, rfl⟩ (v % 2048 / 8) 0 _ (by omega) rfl rfl rfl rfl rfl
set_option maxRecDepth 100000 in
set_option maxHeartbeats 4000000 in
theorem l_areSame {t : Nat → Nat} {e p q a : Nat} (hP : M.2.1 = zP0 n b) (hr : zR r) (hT : Txt M r t e) (ha : a < 2 ^ 31) (h1 : p + a / 8 ≤ e) (h2 : q + a / 8 ≤ e) {R : Option Int32 → zM → Prop} : ∀ (f i : Nat) (L : Nat → Value), i + f = a / 8 → L 0 = .ref (r + 1) → L 3 = .int (nI a) → L 4 = .int (nI p) → L 5 = .int (nI q) → L 6 = .int (nI i) → R (some (nI (lSame t f (p + i) (q + i)).toNat)) M → Ev Lx xs d mS_areSame 54 L [] M (zpost mS_areSame R) := by
  have he := hT.2.1
  intro f
  induction f with
  | zero =>
    intro i L hf hL0 hL3 hL4 hL5 hL6 hR
    refine ev_il dS_areSame_54 rfl (by first | assumption | rfl) ?_
    refine ev_il dS_areSame_56 rfl (by first | assumption | rfl) ?_
    refine ev_const (v := nI 8) dS_areSame_57 (by decide) ?_
    refine ev_divN dS_areSame_59 (by omega) (by omega) (by omega) ?_
    refine ev_icmp (tgt := 94) dS_areSame_60 (by decide) (fun h60 => ?_) (fun h60 => ?_)
    · try simp (disch := omega) only [zcond, nI_ltI, nI_leI, nI_eq, zb0, Classical.not_not, Bool.not_eq_false, Nat.not_lt, Nat.not_le] at h60
      refine ev_const (v := nI 1) dS_areSame_94 (by decide) ?_
      refine ev_ret dS_areSame_95 rfl rfl ?_
      exact hR
    · first | omega | (simp (disch := omega) only [zcond, nI_ltI, nI_leI, nI_eq] at h60; omega)
  | succ f ih =>
    intro i L hf hL0 hL3 hL4 hL5 hL6 hR
    refine ev_il dS_areSame_54 rfl (by first | assumption | rfl) ?_
    refine ev_il dS_areSame_56 rfl (by first | assumption | rfl) ?_
    refine ev_const (v := nI 8) dS_areSame_57 (by decide) ?_
    refine ev_divN dS_areSame_59 (by omega) (by omega) (by omega) ?_
    refine ev_icmp (tgt := 94) dS_areSame_60 (by decide) (fun h60 => ?_) (fun h60 => ?_)
    · first | omega | (simp (disch := omega) only [zcond, nI_ltI, nI_leI, nI_eq] at h60; omega)
    · try simp (disch := omega) only [zcond, nI_ltI, nI_leI, nI_eq, zb0, Classical.not_not, Bool.not_eq_false, Nat.not_lt, Nat.not_le] at h60
      refine ev_al dS_areSame_63 rfl (by first | assumption | rfl) ?_
      refine ev_getrP dS_areSame_64 fS_9 (sh_S hr) (zq hP (pt_chars hr)) ?_
      refine ev_il dS_areSame_67 rfl (by first | assumption | rfl) ?_
      refine ev_il dS_areSame_69 rfl (by first | assumption | rfl) ?_
      first | with_reducible refine ev_addN dS_areSame_71 ?_ | refine ev_add dS_areSame_71 ?_
      refine ev_aldN dS_areSame_72 rfl (sh_chars hr) (by omega) ?_
      rw [(hT.2.2 (p + i) (by omega)).1]
      have hc1 := (hT.2.2 (p + i) (by omega)).2
      refine ev_al dS_areSame_73 rfl (by first | assumption | rfl) ?_
      refine ev_getrP dS_areSame_74 fS_9 (sh_S hr) (zq hP (pt_chars hr)) ?_
      refine ev_il dS_areSame_77 rfl (by first | assumption | rfl) ?_
      refine ev_il dS_areSame_79 rfl (by first | assumption | rfl) ?_
      first | with_reducible refine ev_addN dS_areSame_81 ?_ | refine ev_add dS_areSame_81 ?_
      refine ev_aldN dS_areSame_82 rfl (sh_chars hr) (by omega) ?_
      rw [(hT.2.2 (q + i) (by omega)).1]
      have hc2 := (hT.2.2 (q + i) (by omega)).2
      refine ev_icmp (tgt := 88) dS_areSame_83 (by decide) (fun h83 => ?_) (fun h83 => ?_)
      · try simp (disch := omega) only [zcond, nI_ltI, nI_leI, nI_eq, zb0, Classical.not_not, Bool.not_eq_false, Nat.not_lt, Nat.not_le] at h83
        refine ev_inc1 dS_areSame_88 (by first | assumption | rfl) ?_
        refine ev_goto (tgt := 54) dS_areSame_91 (by decide) ?_
        exact ih (i + 1) _ (by omega) (by first | assumption | rfl) (by first | assumption | rfl) (by first | assumption | rfl) (by first | assumption | rfl) rfl (by rw [lSame, if_pos h83] at hR; exact hR)
      · try simp (disch := omega) only [zcond, nI_ltI, nI_leI, nI_eq, zb0, Classical.not_not, Bool.not_eq_false, Nat.not_lt, Nat.not_le] at h83
        refine ev_const (v := nI 0) dS_areSame_86 (by decide) ?_
        refine ev_ret dS_areSame_87 rfl rfl ?_
        rw [lSame, if_neg h83] at hR
        exact hR
set_option maxRecDepth 100000 in
set_option maxHeartbeats 4000000 in
theorem c_areSame {t : Nat → Nat} {e k j v w : Nat} (hP : M.2.1 = zP0 n b) (hr : zR r) (hT : Txt M r t e) (hk : k < 160) (hj : j < 160) (hv : M.1 (r + 4) k = nI v) (hw : M.1 (r + 4) j = nI w) (hv2 : v < 2 ^ 31) (hw2 : w < 2 ^ 31) (hl : v / 2048 + v % 2048 / 8 ≤ e) (hl2 : w / 2048 + w % 2048 / 8 ≤ e) : Pu Lx xs d mS_areSame [.ref (r + 1), .int (nI k), .int (nI j)] M (nI (if v % 2048 = w % 2048 then lSame t (v % 2048 / 8) (v / 2048) (w / 2048) else false).toNat) := by
  unfold Pu Ct
  refine ev_al dS_areSame_0 rfl (by first | assumption | rfl) ?_
  refine ev_getrP dS_areSame_1 fS_15 (sh_S hr) (zq hP (pt_found hr)) ?_
  refine ev_il dS_areSame_4 rfl (by first | assumption | rfl) ?_
  refine ev_aldN dS_areSame_5 rfl (sh_found hr) (by omega) ?_
  rw [hv]
  refine ev_const (v := nI 2048) dS_areSame_6 (by decide) ?_
  refine ev_remN dS_areSame_9 (by omega) (by omega) (by omega) ?_
  refine ev_is dS_areSame_10 rfl (Nat.le_of_ble_eq_true rfl) ?_
  refine ev_il dS_areSame_11 rfl (by first | assumption | rfl) ?_
  refine ev_al dS_areSame_12 rfl (by first | assumption | rfl) ?_
  refine ev_getrP dS_areSame_13 fS_15 (sh_S hr) (zq hP (pt_found hr)) ?_
  refine ev_il dS_areSame_16 rfl (by first | assumption | rfl) ?_
  refine ev_aldN dS_areSame_17 rfl (sh_found hr) (by omega) ?_
  rw [hw]
  refine ev_const (v := nI 2048) dS_areSame_18 (by decide) ?_
  refine ev_remN dS_areSame_21 (by omega) (by omega) (by omega) ?_
  refine ev_icmp (tgt := 27) dS_areSame_22 (by decide) (fun h22 => ?_) (fun h22 => ?_)
  · try simp (disch := omega) only [zcond, nI_ltI, nI_leI, nI_eq, zb0, Classical.not_not, Bool.not_eq_false, Nat.not_lt, Nat.not_le] at h22
    refine ev_al dS_areSame_27 rfl (by first | assumption | rfl) ?_
    refine ev_getrP dS_areSame_28 fS_15 (sh_S hr) (zq hP (pt_found hr)) ?_
    refine ev_il dS_areSame_31 rfl (by first | assumption | rfl) ?_
    refine ev_aldN dS_areSame_32 rfl (sh_found hr) (by omega) ?_
    rw [hv]
    refine ev_const (v := nI 2048) dS_areSame_33 (by decide) ?_
    refine ev_divN dS_areSame_36 (by omega) (by omega) (by omega) ?_
    refine ev_is dS_areSame_37 rfl (Nat.le_of_ble_eq_true rfl) ?_
    refine ev_al dS_areSame_39 rfl (by first | assumption | rfl) ?_
    refine ev_getrP dS_areSame_40 fS_15 (sh_S hr) (zq hP (pt_found hr)) ?_
    refine ev_il dS_areSame_43 rfl (by first | assumption | rfl) ?_
    refine ev_aldN dS_areSame_44 rfl (sh_found hr) (by omega) ?_
    rw [hw]
    refine ev_const (v := nI 2048) dS_areSame_45 (by decide) ?_
    refine ev_divN dS_areSame_48 (by omega) (by omega) (by omega) ?_
    refine ev_is dS_areSame_49 rfl (Nat.le_of_ble_eq_true rfl) ?_
    refine ev_const (v := nI 0) dS_areSame_51 (by decide) ?_
    refine ev_is dS_areSame_52 rfl (Nat.le_of_ble_eq_true rfl) ?_
    rw [if_pos h22]
    exact l_areSame hP hr hT (by omega) hl (by rw [h22]; exact hl2) (v % 2048 / 8) 0 _ (by omega) rfl rfl rfl rfl rfl ⟨rfl, rfl⟩
  · try simp (disch := omega) only [zcond, nI_ltI, nI_leI, nI_eq, zb0, Classical.not_not, Bool.not_eq_false, Nat.not_lt, Nat.not_le] at h22
    refine ev_const (v := nI 0) dS_areSame_25 (by decide) ?_
    refine ev_ret dS_areSame_26 rfl rfl ?_
    rw [if_neg h22]; exact ⟨rfl, rfl⟩
set_option maxRecDepth 100000 in
set_option maxHeartbeats 4000000 in
theorem l_findTokens {t : Nat → Nat} {e : Nat} (hr : zR r) {R : Option Int32 → zM → Prop} : ∀ (f p : Nat) (ts0 : List (Nat × Nat × Nat)) (M : zM) (L : Nat → Value), M.2.1 = zP0 n b → Txt M r t e → L 0 = .ref (r + 1) → L 1 = .int (nI p) → p ≤ e → e - p < f → ts0.length ≤ p → Toks M r t ts0 → (∀ M', zSame (sF r) M M' → Toks M' r t (ts0 ++ lTok t e f p) → R none M') → Ev Lx xs (d + 5) mS_findTokens 11 L [] M (zpost mS_findTokens R) := by
  intro f
  induction f with
  | zero => intro p ts0 M L hP hT hL0 hL1 hpe hf; omega
  | succ f ih =>
    intro p ts0 M L hP hT hL0 hL1 hpe0 hf hlen hTk hR
    have he := hT.2.1
    have hc := hTk.1
    generalize hkk : ts0.length = k at hc hlen
    refine ev_il dS_findTokens_11 rfl (by first | assumption | rfl) ?_
    refine ev_al dS_findTokens_12 rfl (by first | assumption | rfl) ?_
    refine ev_geti dS_findTokens_13 fS_28 (sh_S hr) ?_
    rw [hT.1]
    refine ev_icmp (tgt := 99) dS_findTokens_16 (by decide) (fun h16 => ?_) (fun h16 => ?_)
    · try simp (disch := omega) only [zcond, nI_ltI, nI_leI, nI_eq, zb0, Classical.not_not, Bool.not_eq_false, Nat.not_lt, Nat.not_le] at h16
      refine ev_vret dS_findTokens_99 rfl ?_
      refine hR M (zSame.rf _ _) ?_
      rw [lTok, if_neg (by omega), List.append_nil]
      exact hTk
    · try simp (disch := omega) only [zcond, nI_ltI, nI_leI, nI_eq, zb0, Classical.not_not, Bool.not_eq_false, Nat.not_lt, Nat.not_le] at h16
      refine ev_al dS_findTokens_19 rfl (by first | assumption | rfl) ?_
      refine ev_geti dS_findTokens_20 fS_32 (sh_S hr) ?_
      rw [hc]
      refine ev_const (v := nI 160) dS_findTokens_23 (by decide) ?_
      refine ev_icmp (tgt := 99) dS_findTokens_26 (by decide) (fun h26 => ?_) (fun h26 => ?_)
      · first | omega | (simp (disch := omega) only [zcond, nI_ltI, nI_leI, nI_eq] at h26; omega)
      · try simp (disch := omega) only [zcond, nI_ltI, nI_leI, nI_eq, zb0, Classical.not_not, Bool.not_eq_false, Nat.not_lt, Nat.not_le] at h26
        have hk : k < 160 := by omega
        have hp : p < e := h16
        have htp := (hT.2.2 p hp).2
        have hpe := lEnd_in t hp
        have hv3 := lPk_lt (t := t) he hp
        have hbl := lBl_in t (e - lEnd t e p) (lEnd t e p) false
        refine ev_al dS_findTokens_29 rfl (by first | assumption | rfl) ?_
        refine ev_getrP dS_findTokens_30 fS_15 (sh_S hr) (zq hP (pt_found hr)) ?_
        refine ev_al dS_findTokens_33 rfl (by first | assumption | rfl) ?_
        refine ev_geti dS_findTokens_34 fS_32 (sh_S hr) ?_
        rw [hc]
        refine ev_al dS_findTokens_37 rfl (by first | assumption | rfl) ?_
        refine ev_il dS_findTokens_38 rfl (by first | assumption | rfl) ?_
        refine ev_pV dS_findTokens_39 (c_tokenFrom hP hr hT hp) lS_39 (rec_S hr) rfl (Nat.le_of_ble_eq_true rfl) rfl (Nat.le_of_ble_eq_true rfl) ?_
        refine ev_iastN dS_findTokens_42 (sh_found hr) hk ?_
        refine ev_al dS_findTokens_43 rfl (by first | assumption | rfl) ?_
        refine ev_getrP dS_findTokens_44 fS_19 (sh_S hr) (zq hP (pt_marks hr)) ?_
        refine ev_al dS_findTokens_47 rfl (by first | assumption | rfl) ?_
        refine ev_geti dS_findTokens_48 fS_32 (sh_S hr) ?_
        have hc1 : (zI M (r + 4) k (nI (lPk t e p))).1 (r + 1) 4 = nI k := (zI_o (by omega)).trans hc
        rw [hc1]
        refine ev_al dS_findTokens_51 rfl (by first | assumption | rfl) ?_
        refine ev_getrP dS_findTokens_52 fS_15 (sh_S hr) (zq hP (pt_found hr)) ?_
        refine ev_al dS_findTokens_55 rfl (by first | assumption | rfl) ?_
        refine ev_geti dS_findTokens_56 fS_32 (sh_S hr) ?_
        rw [hc1]
        refine ev_aldN dS_findTokens_59 rfl (sh_found hr) hk ?_
        rw [zI_s]
        refine ev_const (v := nI 8) dS_findTokens_60 (by decide) ?_
        refine ev_remN dS_findTokens_62 (by omega) (by omega) (by omega) ?_
        rw [lPk_k]
        refine ev_al dS_findTokens_63 rfl (by first | assumption | rfl) ?_
        refine ev_getrP dS_findTokens_64 fS_9 (sh_S hr) (zq hP (pt_chars hr)) ?_
        refine ev_il dS_findTokens_67 rfl (by first | assumption | rfl) ?_
        refine ev_aldN dS_findTokens_68 rfl (sh_chars hr) (by omega) ?_
        have ht1 : (zI M (r + 4) k (nI (lPk t e p))).1 (r + 3) p = nI (t p) := (zI_o (by omega)).trans (hT.2.2 p hp).1
        rw [ht1]
        refine ev_pS dS_findTokens_69 (c_markOf (lKind_lt t e p) (by omega)) lS_42 rfl (Nat.le_of_ble_eq_true rfl) rfl (Nat.le_of_ble_eq_true rfl) ?_
        refine ev_castN dS_findTokens_72 (sh_marks hr) hk (Nat.lt_trans (lMk_lt (by omega)) (by decide)) ?_
        refine ev_al dS_findTokens_73 rfl (by first | assumption | rfl) ?_
        refine ev_al dS_findTokens_74 rfl (by first | assumption | rfl) ?_
        refine ev_al dS_findTokens_75 rfl (by first | assumption | rfl) ?_
        refine ev_geti dS_findTokens_76 fS_32 (sh_S hr) ?_
        have hc2 : (zI (zI M (r + 4) k (nI (lPk t e p))) (r + 5) k (nI (lMk (lKind t e p) (t p)))).1 (r + 1) 4 = nI k := (zI_o (by omega)).trans hc1
        have hv2 : (zI (zI M (r + 4) k (nI (lPk t e p))) (r + 5) k (nI (lMk (lKind t e p) (t p)))).1 (r + 4) k = nI (lPk t e p) := (zI_o (by omega)).trans (zI_s _ _ _ _)
        have hT2 : Txt (zI (zI M (r + 4) k (nI (lPk t e p))) (r + 5) k (nI (lMk (lKind t e p) (t p)))) r t e := ⟨(zI_o (by omega)).trans ((zI_o (by omega)).trans hT.1), hT.2.1, fun i hi => ⟨(zI_o (by omega)).trans ((zI_o (by omega)).trans (hT.2.2 i hi).1), (hT.2.2 i hi).2⟩⟩
        rw [hc2]
        refine ev_pV dS_findTokens_79 (c_placeBehind (v := lPk t e p) hP hr hk hv2 hv3) lS_46 (rec_S hr) rfl (Nat.le_of_ble_eq_true rfl) rfl (Nat.le_of_ble_eq_true rfl) ?_
        rw [lPk_e he hp]
        refine ev_pV dS_findTokens_82 (c_passBlanks hP hr hT2 hpe.2) lS_35 (rec_S hr) rfl (Nat.le_of_ble_eq_true rfl) rfl (Nat.le_of_ble_eq_true rfl) ?_
        refine ev_is dS_findTokens_85 rfl (Nat.le_of_ble_eq_true rfl) ?_
        refine ev_al dS_findTokens_86 rfl (by first | assumption | rfl) ?_
        refine ev_stk dS_findTokens_87 rfl ?_
        refine ev_geti dS_findTokens_88 fS_32 (sh_S hr) ?_
        rw [hc2]
        refine ev_const (v := nI 1) dS_findTokens_91 (by decide) ?_
        first | with_reducible refine ev_addN dS_findTokens_92 ?_ | refine ev_add dS_findTokens_92 ?_
        refine ev_puti dS_findTokens_93 fS_32 fwS_count (sh_S hr) (vp_nar_int _) rfl ?_
        have hs3 : zSame (sF r) M (zI (zI (zI M (r + 4) k (nI (lPk t e p))) (r + 5) k (nI (lMk (lKind t e p) (t p)))) (r + 1) 4 (nI (k + 1))) := (((zSame.rf (sF r) M).I (Or.inl rfl)).I (Or.inr (Or.inl rfl))).I (Or.inr (Or.inr ⟨rfl, rfl⟩))
        have hT3 : Txt (zI (zI (zI M (r + 4) k (nI (lPk t e p))) (r + 5) k (nI (lMk (lKind t e p) (t p)))) (r + 1) 4 (nI (k + 1))) r t e := ⟨(zI_k (by omega)).trans hT2.1, hT.2.1, fun i hi => ⟨(zI_o (by omega)).trans (hT2.2.2 i hi).1, (hT.2.2 i hi).2⟩⟩
        have hTk3 : Toks (zI (zI (zI M (r + 4) k (nI (lPk t e p))) (r + 5) k (nI (lMk (lKind t e p) (t p)))) (r + 1) 4 (nI (k + 1))) r t (ts0 ++ [(p, lEnd t e p - p, lKind t e p)]) := by
          refine ⟨?_, fun j q hj => ?_⟩
          · rw [zI_s, List.length_append, hkk]; rfl
          · rw [List.getElem?_append] at hj
            split at hj
            · rename_i hlt
              obtain ⟨h1, h2⟩ := hTk.2 j q hj
              exact ⟨(zI_o (by omega)).trans ((zI_o (by omega)).trans ((zI_k (by omega)).trans h1)), (zI_o (by omega)).trans ((zI_k (by omega)).trans ((zI_o (by omega)).trans h2))⟩
            · rename_i hge
              obtain rfl : j = k := by
                have := (List.getElem?_eq_some_iff.mp hj).1
                simp at this; omega
              rw [hkk, Nat.sub_self] at hj
              cases hj
              exact ⟨(zI_o (by omega)).trans hv2, (zI_o (by omega)).trans (zI_s _ _ _ _)⟩
        refine ev_goto (tgt := 11) dS_findTokens_96 (by decide) ?_
        refine ih _ (ts0 ++ [(p, lEnd t e p - p, lKind t e p)]) _ _ hP hT3 (by first | assumption | rfl) rfl (by omega) (by omega) ?_ ?_ ?_
        · rw [List.length_append]; show ts0.length + 1 ≤ _; omega
        · exact hTk3
        · intro M' hs hk'
          refine hR M' (hs3.tr hs) ?_
          rw [lTok, if_pos hp]
          rw [List.append_assoc] at hk'
          exact hk'
end
end
section
/- Source: findTokens, fill; Tree; Arrays.fill (rows laid by program) -/
/-- all tokens of a text -/
def lAll (t : Nat → Nat) (e : Nat) : List (Nat × Nat × Nat) := lTok t e 161 (lBl t e 0 false)
theorem zCp_o {M : zM} {o o' sp dp k a i : Nat} (h : a ≠ o') : (zCp M o o' sp dp k).1 a i = M.1 a i := by simp [zCp, h]
theorem zCp_in {M : zM} {o o' sp dp k i : Nat} (h : dp ≤ i) (h2 : i < dp + k) : (zCp M o o' sp dp k).1 o' i = M.1 o (sp + (i - dp)) := by
  simp only [zCp, if_true]; exact pk_cpy_in h h2
theorem zCp_out {M : zM} {o o' sp dp k i : Nat} (h : i < dp ∨ dp + k ≤ i) : (zCp M o o' sp dp k).1 o' i = M.1 o' i := by
  simp only [zCp, if_true]; exact pk_cpy_out h
theorem zSame.C {S : Nat → Nat → Prop} {M M1 : zM} {o o' sp dp k : Nat} (h : zSame S M M1) (hs : ∀ i, S o' i) : zSame S M (zCp M1 o o' sp dp k) :=
  ⟨h.1, fun a i hn => (zCp_o (fun ha => hn (by rw [ha]; exact hs i))).trans (h.2 a i hn)⟩
theorem zSame.P {S : Nat → Nat → Prop} {M M' : zM} {n b : Nat} (h : zSame S M M') (hP : M.2.1 = zP0 n b) : M'.2.1 = zP0 n b := by rw [h.1]; exact hP
theorem zSame.weak {S S' : Nat → Nat → Prop} {M M' : zM} (h : zSame S M M') (hs : ∀ o i, S o i → S' o i) : zSame S' M M' := ⟨h.1, fun o i hn => h.2 o i (fun x => hn (hs o i x))⟩
/-- the text after an edit -/
def eT (t row : Nat → Nat) (p g w : Nat) : Nat → Nat := fun i => if i < p then t i else if i < p + w then row (i - p) else t (i - w + g)
def sT (r : Nat) : Nat → Nat → Prop := fun o i => o = r + 3 ∨ (o = r + 1 ∧ i = 1)
section
variable {Lx : Nat} {xs : Nat → Int32} {d : Nat} {M : zM} {n b r : Nat}
set_option maxRecDepth 100000 in
set_option maxHeartbeats 4000000 in
theorem c_findTokens {t : Nat → Nat} {e : Nat} (hP : M.2.1 = zP0 n b) (hr : zR r) (hT : Txt M r t e) : Ct Lx xs (d + 5) mS_findTokens [.ref (r + 1)] M (fun q M' => q = none ∧ zSame (sF r) M M' ∧ Toks M' r t (lAll t e)) := by
  unfold Ct
  have he := hT.2.1
  have hT0 : Txt (zI M (r + 1) 4 (nI 0)) r t e := ⟨(zI_k (by omega)).trans hT.1, hT.2.1, fun i hi => ⟨(zI_o (by omega)).trans (hT.2.2 i hi).1, (hT.2.2 i hi).2⟩⟩
  have hb0 := lBl_in t (e - 0) 0 false
  refine ev_al dS_findTokens_0 rfl (by first | assumption | rfl) ?_
  refine ev_const (v := nI 0) dS_findTokens_1 (by decide) ?_
  refine ev_puti dS_findTokens_2 fS_32 fwS_count (sh_S hr) (vp_nar_int _) rfl ?_
  refine ev_al dS_findTokens_5 rfl (by first | assumption | rfl) ?_
  refine ev_const (v := nI 0) dS_findTokens_6 (by decide) ?_
  refine ev_pV dS_findTokens_7 (c_passBlanks (M := zI M (r + 1) 4 (nI 0)) (p := 0) hP hr hT0 (by omega)) lS_35 (rec_S hr) rfl (Nat.le_of_ble_eq_true rfl) rfl (Nat.le_of_ble_eq_true rfl) ?_
  refine ev_is dS_findTokens_10 rfl (Nat.le_of_ble_eq_true rfl) ?_
  refine l_findTokens hr 161 (lBl t (e - 0) 0 false) [] _ _ hP hT0 rfl rfl (by omega) (by omega) (Nat.zero_le _) ⟨zI_s _ _ _ _, fun k q h => by simp at h⟩ ?_
  intro M' hs hk
  exact ⟨rfl, ((zSame.rf (sF r) M).I (Or.inr (Or.inr ⟨rfl, rfl⟩))).tr hs, hk⟩
set_option maxRecDepth 100000 in
set_option maxHeartbeats 4000000 in
theorem c_fill {t row : Nat → Nat} {e q p g w : Nat} (hP : M.2.1 = zP0 n b) (hr : zR r) (hq : zR q) (hne : q ≠ r) (hT : Txt M q t e) (hrow : ∀ i, i < w → M.1 1 i = nI (row i) ∧ row i < 128) (hp : p + g ≤ e) (hw : w ≤ 40) (hn : e - g + w ≤ 160) : Ct Lx xs (d + 1) mS_fill [.ref (r + 1), .ref (q + 1), .int (nI p), .int (nI g), .ref 1, .int (nI w)] M (fun z M' => z = none ∧ zSame (sT r) M M' ∧ Txt M' r (eT t row p g w) (e - g + w)) := by
  unfold Ct
  have he := hT.2.1
  have hrq : q + 3 ≠ r + 1 ∧ q + 1 ≠ r + 3 ∧ r ≠ 0 := by rcases hr with rfl | rfl <;> rcases hq with rfl | rfl <;> omega
  have hft : ∀ i, i < e → fits (ztt 1) (.int (M.1 (q + 3) i)) = true := fun i hi => by rw [(hT.2.2 i hi).1]; exact (pk_charN (Nat.lt_trans (hT.2.2 i hi).2 (by decide))).2
  have hfr : ∀ i, i < w → fits (ztt 1) (.int (M.1 1 i)) = true := fun i hi => by rw [(hrow i hi).1]; exact (pk_charN (Nat.lt_trans (hrow i hi).2 (by decide))).2
  refine ev_il dS_fill_0 rfl (by first | assumption | rfl) ?_
  refine ev_il dS_fill_1 rfl (by first | assumption | rfl) ?_
  first | with_reducible refine ev_addN dS_fill_2 ?_ | refine ev_add dS_fill_2 ?_
  refine ev_is dS_fill_3 rfl (Nat.le_of_ble_eq_true rfl) ?_
  refine ev_al dS_fill_5 rfl (by first | assumption | rfl) ?_
  refine ev_getrP dS_fill_6 fS_9 (sh_S hq) (zq hP (pt_chars hq)) ?_
  refine ev_const (v := nI 0) dS_fill_9 (by decide) ?_
  refine ev_al dS_fill_10 rfl (by first | assumption | rfl) ?_
  refine ev_getrP dS_fill_11 fS_9 (sh_S hr) (zq hP (pt_chars hr)) ?_
  refine ev_const (v := nI 0) dS_fill_14 (by decide) ?_
  refine ev_il dS_fill_15 rfl (by first | assumption | rfl) ?_
  refine ev_copy dS_fill_16 lS_22 (sh_chars hq) (sh_chars hr) (Or.inr rfl) (by omega) (by omega) (fun i hi => hft (0 + i) (by omega)) (Nat.le_of_ble_eq_true rfl) ?_
  refine ev_al dS_fill_19 rfl (by first | assumption | rfl) ?_
  refine ev_const (v := nI 0) dS_fill_21 (by decide) ?_
  refine ev_al dS_fill_22 rfl (by first | assumption | rfl) ?_
  refine ev_getrP dS_fill_23 fS_9 (sh_S hr) (zq hP (pt_chars hr)) ?_
  refine ev_il dS_fill_26 rfl (by first | assumption | rfl) ?_
  refine ev_il dS_fill_27 rfl (by first | assumption | rfl) ?_
  refine ev_copy dS_fill_29 lS_22 rfl (sh_chars hr) (Or.inr rfl) (by omega) (by omega) (fun i hi => by rw [zCp_o (M := M) (by omega : 1 ≠ r + 3)]; exact hfr (0 + i) (by omega)) (Nat.le_of_ble_eq_true rfl) ?_
  refine ev_al dS_fill_32 rfl (by first | assumption | rfl) ?_
  refine ev_getrP dS_fill_33 fS_9 (sh_S hq) (zq hP (pt_chars hq)) ?_
  refine ev_il dS_fill_36 rfl (by first | assumption | rfl) ?_
  refine ev_al dS_fill_38 rfl (by first | assumption | rfl) ?_
  refine ev_getrP dS_fill_39 fS_9 (sh_S hr) (zq hP (pt_chars hr)) ?_
  refine ev_il dS_fill_42 rfl (by first | assumption | rfl) ?_
  refine ev_il dS_fill_43 rfl (by first | assumption | rfl) ?_
  first | with_reducible refine ev_addN dS_fill_45 ?_ | refine ev_add dS_fill_45 ?_
  refine ev_al dS_fill_46 rfl (by first | assumption | rfl) ?_
  refine ev_geti dS_fill_47 fS_28 (sh_S hq) ?_
  have hz50 : (zCp (zCp M (q + 3) (r + 3) 0 0 p) 1 (r + 3) 0 p w).1 (q + 1) 1 = nI e := (zCp_o (by omega)).trans ((zCp_o (by omega)).trans hT.1)
  rw [hz50]
  refine ev_il dS_fill_50 rfl (by first | assumption | rfl) ?_
  first | with_reducible refine ev_subN dS_fill_52 (by omega) ?_ | refine ev_sub dS_fill_52 ?_
  refine ev_copy dS_fill_53 lS_22 (sh_chars hq) (sh_chars hr) (Or.inr rfl) (by omega) (by omega) (fun i hi => by rw [zCp_o (M := (zCp M (q + 3) (r + 3) 0 0 p)) (by omega : q + 3 ≠ r + 3), zCp_o (M := M) (by omega : q + 3 ≠ r + 3)]; exact hft (p + g + i) (by omega)) (Nat.le_of_ble_eq_true rfl) ?_
  refine ev_al dS_fill_56 rfl (by first | assumption | rfl) ?_
  refine ev_al dS_fill_57 rfl (by first | assumption | rfl) ?_
  refine ev_geti dS_fill_58 fS_28 (sh_S hq) ?_
  have hz61 : (zCp (zCp (zCp M (q + 3) (r + 3) 0 0 p) 1 (r + 3) 0 p w) (q + 3) (r + 3) (p + g) (p + w) (e - (p + g))).1 (q + 1) 1 = nI e := (zCp_o (by omega)).trans hz50
  rw [hz61]
  refine ev_il dS_fill_61 rfl (by first | assumption | rfl) ?_
  first | with_reducible refine ev_subN dS_fill_62 (by omega) ?_ | refine ev_sub dS_fill_62 ?_
  refine ev_il dS_fill_63 rfl (by first | assumption | rfl) ?_
  first | with_reducible refine ev_addN dS_fill_65 ?_ | refine ev_add dS_fill_65 ?_
  refine ev_puti dS_fill_66 fS_28 fwS_size (sh_S hr) (vp_nar_int _) rfl ?_
  refine ev_vret dS_fill_69 rfl ?_
  refine ⟨rfl, ?_, ?_⟩
  · exact (((zSame.rf (sT r) M).C (fun _ => Or.inl rfl)).C (fun _ => Or.inl rfl)).C (fun _ => Or.inl rfl) |>.I (Or.inr ⟨rfl, rfl⟩)
  · refine ⟨zI_s _ _ _ _, hn, fun i hi => ?_⟩
    unfold eT
    by_cases h1 : i < p
    · rw [if_pos h1]
      refine ⟨(zI_o (by omega)).trans ((zCp_out (Or.inl (by omega))).trans ((zCp_out (Or.inl h1)).trans ((zCp_in (Nat.zero_le i) (by omega)).trans ?_))), (hT.2.2 i (by omega)).2⟩
      rw [show 0 + (i - 0) = i by omega]; exact (hT.2.2 i (by omega)).1
    · rw [if_neg h1]
      by_cases h2 : i < p + w
      · rw [if_pos h2]
        refine ⟨(zI_o (by omega)).trans ((zCp_out (Or.inl h2)).trans ((zCp_in (by omega) h2).trans ((zCp_o (by omega)).trans ?_))), (hrow (i - p) (by omega)).2⟩
        rw [show 0 + (i - p) = i - p by omega]; exact (hrow (i - p) (by omega)).1
      · rw [if_neg h2]
        refine ⟨(zI_o (by omega)).trans ((zCp_in (by omega) (by omega)).trans ((zCp_o (by omega)).trans ((zCp_o (by omega)).trans ?_))), (hT.2.2 (i - w + g) (by omega)).2⟩
        rw [show p + g + (i - (p + w)) = i - w + g by omega]; exact (hT.2.2 (i - w + g) (by omega)).1
set_option maxRecDepth 100000 in
set_option maxHeartbeats 4000000 in
theorem c_has_in {c k : Nat} (hP : M.2.1 = zP0 n b) (hr : zR r) (hc : M.1 (r + 2) 5 = nI c) (hc2 : c ≤ 160) (hk : k < c) : Pu Lx xs d mT_has [.ref (r + 2), .int (nI k)] M (nI 1) := by
  unfold Pu Ct
  refine ev_il dT_has_0 rfl (by first | assumption | rfl) ?_
  refine ev_if0 (tgt := 16) dT_has_1 (by decide) (fun h1 => ?_) (fun h1 => ?_)
  · first | omega | (simp (disch := omega) only [zcond, nI_ltI, nI_leI, nI_eq] at h1; omega)
  · try simp (disch := omega) only [zcond, nI_ltI, nI_leI, nI_eq, zb0, Classical.not_not, Bool.not_eq_false, Nat.not_lt, Nat.not_le] at h1
    refine ev_il dT_has_4 rfl (by first | assumption | rfl) ?_
    refine ev_al dT_has_5 rfl (by first | assumption | rfl) ?_
    refine ev_geti dT_has_6 fT_27 (sh_T hr) ?_
    rw [hc]
    refine ev_icmp (tgt := 16) dT_has_9 (by decide) (fun h9 => ?_) (fun h9 => ?_)
    · first | omega | (simp (disch := omega) only [zcond, nI_ltI, nI_leI, nI_eq] at h9; omega)
    · try simp (disch := omega) only [zcond, nI_ltI, nI_leI, nI_eq, zb0, Classical.not_not, Bool.not_eq_false, Nat.not_lt, Nat.not_le] at h9
      refine ev_const (v := nI 1) dT_has_12 (by decide) ?_
      refine ev_goto (tgt := 17) dT_has_13 (by decide) ?_
      refine ev_ret dT_has_17 rfl rfl ?_
      exact ⟨rfl, rfl⟩
set_option maxRecDepth 100000 in
set_option maxHeartbeats 4000000 in
theorem c_has_out {c : Nat} {x : Int32} (hP : M.2.1 = zP0 n b) (hr : zR r) (hc : M.1 (r + 2) 5 = nI c) (h : x < nI 0 ∨ nI c ≤ x) : Pu Lx xs d mT_has [.ref (r + 2), .int x] M (nI 0) := by
  unfold Pu Ct
  refine ev_il dT_has_0 rfl (by first | assumption | rfl) ?_
  refine ev_if0 (tgt := 16) dT_has_1 (by decide) (fun h1 => ?_) (fun h1 => ?_)
  · refine ev_const (v := nI 0) dT_has_16 (by decide) ?_
    refine ev_ret dT_has_17 rfl rfl ?_
    exact ⟨rfl, rfl⟩
  · refine ev_il dT_has_4 rfl (by first | assumption | rfl) ?_
    refine ev_al dT_has_5 rfl (by first | assumption | rfl) ?_
    refine ev_geti dT_has_6 fT_27 (sh_T hr) ?_
    rw [hc]
    refine ev_icmp (tgt := 16) dT_has_9 (by decide) (fun h9 => ?_) (fun h9 => ?_)
    · refine ev_const (v := nI 0) dT_has_16 (by decide) ?_
      refine ev_ret dT_has_17 rfl rfl ?_
      exact ⟨rfl, rfl⟩
    · exact (h.elim h1 h9).elim
def tFi (fi la : Nat → Nat) (a z : Nat) : Nat → Nat → Int32
  | 0, _ => -1
  | f + 1, k => if fi k = a ∧ la k = z then nI k else tFi fi la a z f (k + 1)
def tNu (nu : Nat → Int32) (x : Int32) : Nat → Nat → Int32
  | 0, _ => -1
  | f + 1, k => if nu k = x then nI k else tNu nu x f (k + 1)
set_option maxRecDepth 100000 in
set_option maxHeartbeats 4000000 in
theorem l_itemOfTokens {c a z : Nat} {fi la : Nat → Nat} (hP : M.2.1 = zP0 n b) (hr : zR r) (hc : M.1 (r + 2) 5 = nI c) (hc2 : c ≤ 160) (ha : a < 2 ^ 31) (hz : z < 2 ^ 31) (hfi : ∀ k, k < c → M.1 (r + 6) k = nI (fi k) ∧ M.1 (r + 7) k = nI (la k) ∧ fi k < 2 ^ 31 ∧ la k < 2 ^ 31) {R : Option Int32 → zM → Prop} : ∀ (f k : Nat) (L : Nat → Value), k + f = c → L 0 = .ref (r + 2) → L 1 = .int (nI a) → L 2 = .int (nI z) → L 3 = .int (nI k) → R (some (tFi fi la a z f k)) M → Ev Lx xs d mT_itemOfTokens 2 L [] M (zpost mT_itemOfTokens R) := by
  intro f
  induction f with
  | zero =>
    intro k L hf hL0 hL1 hL2 hL3 hR
    refine ev_il dT_itemOfTokens_2 rfl (by first | assumption | rfl) ?_
    refine ev_al dT_itemOfTokens_3 rfl (by first | assumption | rfl) ?_
    refine ev_geti dT_itemOfTokens_4 fT_27 (sh_T hr) ?_
    rw [hc]
    refine ev_icmp (tgt := 38) dT_itemOfTokens_7 (by decide) (fun h7 => ?_) (fun h7 => ?_)
    · try simp (disch := omega) only [zcond, nI_ltI, nI_leI, nI_eq, zb0, Classical.not_not, Bool.not_eq_false, Nat.not_lt, Nat.not_le] at h7
      refine ev_const (v := -1) dT_itemOfTokens_38 (by decide) ?_
      refine ev_ret dT_itemOfTokens_39 rfl rfl ?_
      exact hR
    · first | omega | (simp (disch := omega) only [zcond, nI_ltI, nI_leI, nI_eq] at h7; omega)
  | succ f ih =>
    intro k L hf hL0 hL1 hL2 hL3 hR
    refine ev_il dT_itemOfTokens_2 rfl (by first | assumption | rfl) ?_
    refine ev_al dT_itemOfTokens_3 rfl (by first | assumption | rfl) ?_
    refine ev_geti dT_itemOfTokens_4 fT_27 (sh_T hr) ?_
    rw [hc]
    refine ev_icmp (tgt := 38) dT_itemOfTokens_7 (by decide) (fun h7 => ?_) (fun h7 => ?_)
    · first | omega | (simp (disch := omega) only [zcond, nI_ltI, nI_leI, nI_eq] at h7; omega)
    · try simp (disch := omega) only [zcond, nI_ltI, nI_leI, nI_eq, zb0, Classical.not_not, Bool.not_eq_false, Nat.not_lt, Nat.not_le] at h7
      refine ev_al dT_itemOfTokens_10 rfl (by first | assumption | rfl) ?_
      refine ev_getrP dT_itemOfTokens_11 fT_9 (sh_T hr) (zq hP (pt_firsts hr)) ?_
      refine ev_il dT_itemOfTokens_14 rfl (by first | assumption | rfl) ?_
      refine ev_aldN dT_itemOfTokens_15 rfl (sh_firsts hr) (by omega) ?_
      rw [(hfi k (by omega)).1]
      have hb1 := (hfi k (by omega)).2.2.1
      refine ev_il dT_itemOfTokens_16 rfl (by first | assumption | rfl) ?_
      refine ev_icmp (tgt := 32) dT_itemOfTokens_17 (by decide) (fun h17 => ?_) (fun h17 => ?_)
      · try simp (disch := omega) only [zcond, nI_ltI, nI_leI, nI_eq, zb0, Classical.not_not, Bool.not_eq_false, Nat.not_lt, Nat.not_le] at h17
        refine ev_inc1 dT_itemOfTokens_32 (by first | assumption | rfl) ?_
        refine ev_goto (tgt := 2) dT_itemOfTokens_35 (by decide) ?_
        exact ih (k + 1) _ (by omega) (by first | assumption | rfl) (by first | assumption | rfl) (by first | assumption | rfl) rfl (by rw [tFi, if_neg (by omega)] at hR; exact hR)
      · try simp (disch := omega) only [zcond, nI_ltI, nI_leI, nI_eq, zb0, Classical.not_not, Bool.not_eq_false, Nat.not_lt, Nat.not_le] at h17
        refine ev_al dT_itemOfTokens_20 rfl (by first | assumption | rfl) ?_
        refine ev_getrP dT_itemOfTokens_21 fT_15 (sh_T hr) (zq hP (pt_lasts hr)) ?_
        refine ev_il dT_itemOfTokens_24 rfl (by first | assumption | rfl) ?_
        refine ev_aldN dT_itemOfTokens_25 rfl (sh_lasts hr) (by omega) ?_
        rw [(hfi k (by omega)).2.1]
        have hb2 := (hfi k (by omega)).2.2.2
        refine ev_il dT_itemOfTokens_26 rfl (by first | assumption | rfl) ?_
        refine ev_icmp (tgt := 32) dT_itemOfTokens_27 (by decide) (fun h27 => ?_) (fun h27 => ?_)
        · try simp (disch := omega) only [zcond, nI_ltI, nI_leI, nI_eq, zb0, Classical.not_not, Bool.not_eq_false, Nat.not_lt, Nat.not_le] at h27
          refine ev_inc1 dT_itemOfTokens_32 (by first | assumption | rfl) ?_
          refine ev_goto (tgt := 2) dT_itemOfTokens_35 (by decide) ?_
          exact ih (k + 1) _ (by omega) (by first | assumption | rfl) (by first | assumption | rfl) (by first | assumption | rfl) rfl (by rw [tFi, if_neg (by omega)] at hR; exact hR)
        · try simp (disch := omega) only [zcond, nI_ltI, nI_leI, nI_eq, zb0, Classical.not_not, Bool.not_eq_false, Nat.not_lt, Nat.not_le] at h27
          refine ev_il dT_itemOfTokens_30 rfl (by first | assumption | rfl) ?_
          refine ev_ret dT_itemOfTokens_31 rfl rfl ?_
          rw [tFi, if_pos ⟨h17, h27⟩] at hR
          exact hR
set_option maxRecDepth 100000 in
set_option maxHeartbeats 4000000 in
theorem c_itemOfTokens {c a z : Nat} {fi la : Nat → Nat} (hP : M.2.1 = zP0 n b) (hr : zR r) (hc : M.1 (r + 2) 5 = nI c) (hc2 : c ≤ 160) (ha : a < 2 ^ 31) (hz : z < 2 ^ 31) (hfi : ∀ k, k < c → M.1 (r + 6) k = nI (fi k) ∧ M.1 (r + 7) k = nI (la k) ∧ fi k < 2 ^ 31 ∧ la k < 2 ^ 31) : Pu Lx xs d mT_itemOfTokens [.ref (r + 2), .int (nI a), .int (nI z)] M (tFi fi la a z c 0) := by
  unfold Pu Ct
  refine ev_const (v := nI 0) dT_itemOfTokens_0 (by decide) ?_
  refine ev_is dT_itemOfTokens_1 rfl (Nat.le_of_ble_eq_true rfl) ?_
  exact l_itemOfTokens hP hr hc hc2 ha hz hfi c 0 _ (by omega) rfl rfl rfl rfl ⟨rfl, rfl⟩
set_option maxRecDepth 100000 in
set_option maxHeartbeats 4000000 in
theorem l_itemNumbered {c : Nat} {x : Int32} (hP : M.2.1 = zP0 n b) (hr : zR r) (hc : M.1 (r + 2) 5 = nI c) (hc2 : c ≤ 160) {R : Option Int32 → zM → Prop} : ∀ (f k : Nat) (L : Nat → Value), k + f = c → L 0 = .ref (r + 2) → L 1 = .int x → L 2 = .int (nI k) → R (some (tNu (M.1 (r + 10)) x f k)) M → Ev Lx xs d mT_itemNumbered 2 L [] M (zpost mT_itemNumbered R) := by
  intro f
  induction f with
  | zero =>
    intro k L hf hL0 hL1 hL2 hR
    refine ev_il dT_itemNumbered_2 rfl (by first | assumption | rfl) ?_
    refine ev_al dT_itemNumbered_3 rfl (by first | assumption | rfl) ?_
    refine ev_geti dT_itemNumbered_4 fT_27 (sh_T hr) ?_
    rw [hc]
    refine ev_icmp (tgt := 28) dT_itemNumbered_7 (by decide) (fun h7 => ?_) (fun h7 => ?_)
    · try simp (disch := omega) only [zcond, nI_ltI, nI_leI, nI_eq, zb0, Classical.not_not, Bool.not_eq_false, Nat.not_lt, Nat.not_le] at h7
      refine ev_const (v := -1) dT_itemNumbered_28 (by decide) ?_
      refine ev_ret dT_itemNumbered_29 rfl rfl ?_
      exact hR
    · first | omega | (simp (disch := omega) only [zcond, nI_ltI, nI_leI, nI_eq] at h7; omega)
  | succ f ih =>
    intro k L hf hL0 hL1 hL2 hR
    refine ev_il dT_itemNumbered_2 rfl (by first | assumption | rfl) ?_
    refine ev_al dT_itemNumbered_3 rfl (by first | assumption | rfl) ?_
    refine ev_geti dT_itemNumbered_4 fT_27 (sh_T hr) ?_
    rw [hc]
    refine ev_icmp (tgt := 28) dT_itemNumbered_7 (by decide) (fun h7 => ?_) (fun h7 => ?_)
    · first | omega | (simp (disch := omega) only [zcond, nI_ltI, nI_leI, nI_eq] at h7; omega)
    · try simp (disch := omega) only [zcond, nI_ltI, nI_leI, nI_eq, zb0, Classical.not_not, Bool.not_eq_false, Nat.not_lt, Nat.not_le] at h7
      refine ev_al dT_itemNumbered_10 rfl (by first | assumption | rfl) ?_
      refine ev_getrP dT_itemNumbered_11 fT_24 (sh_T hr) (zq hP (pt_numbers hr)) ?_
      refine ev_il dT_itemNumbered_14 rfl (by first | assumption | rfl) ?_
      refine ev_aldN dT_itemNumbered_15 rfl (sh_numbers hr) (by omega) ?_
      refine ev_il dT_itemNumbered_16 rfl (by first | assumption | rfl) ?_
      refine ev_icmp (tgt := 22) dT_itemNumbered_17 (by decide) (fun h17 => ?_) (fun h17 => ?_)
      · simp only [zcond, Classical.not_not] at h17
        refine ev_inc1 dT_itemNumbered_22 (by first | assumption | rfl) ?_
        refine ev_goto (tgt := 2) dT_itemNumbered_25 (by decide) ?_
        exact ih (k + 1) _ (by omega) (by first | assumption | rfl) (by first | assumption | rfl) rfl (by rw [tNu, if_neg h17] at hR; exact hR)
      · simp only [zcond, Classical.not_not] at h17
        refine ev_il dT_itemNumbered_20 rfl (by first | assumption | rfl) ?_
        refine ev_ret dT_itemNumbered_21 rfl rfl ?_
        rw [tNu, if_pos h17] at hR
        exact hR
set_option maxRecDepth 100000 in
set_option maxHeartbeats 4000000 in
theorem c_itemNumbered {c : Nat} {x : Int32} (hP : M.2.1 = zP0 n b) (hr : zR r) (hc : M.1 (r + 2) 5 = nI c) (hc2 : c ≤ 160) : Pu Lx xs d mT_itemNumbered [.ref (r + 2), .int x] M (tNu (M.1 (r + 10)) x c 0) := by
  unfold Pu Ct
  refine ev_const (v := nI 0) dT_itemNumbered_0 (by decide) ?_
  refine ev_is dT_itemNumbered_1 rfl (Nat.le_of_ble_eq_true rfl) ?_
  exact l_itemNumbered hP hr hc hc2 c 0 _ (by omega) rfl rfl rfl ⟨rfl, rfl⟩
set_option maxRecDepth 100000 in
set_option maxHeartbeats 4000000 in
theorem l_fillA {x : Int32} {R : Option Int32 → zM → Prop} : ∀ (f i : Nat) (M : zM) (L : Nat → Value), i + f = 160 → L 0 = .ref 24 → L 1 = .int x → L 2 = .int (nI i) → L 3 = .int (nI 160) → (∀ j, j < i → M.1 24 j = x) → (∀ M', zSame (fun o _ => o = 24) M M' → (∀ j, j < 160 → M'.1 24 j = x) → R none M') → Ev Lx xs d mJ_fill 5 L [] M (zpost mJ_fill R) := by
  intro f
  induction f with
  | zero =>
    intro i M L hf hL0 hL1 hL2 hL3 hj1 hR
    refine ev_il dJ_fill_5 rfl (by first | assumption | rfl) ?_
    refine ev_il dJ_fill_6 rfl (by first | assumption | rfl) ?_
    refine ev_icmp (tgt := 20) dJ_fill_7 (by decide) (fun h7 => ?_) (fun h7 => ?_)
    · try simp (disch := omega) only [zcond, nI_ltI, nI_leI, nI_eq, zb0, Classical.not_not, Bool.not_eq_false, Nat.not_lt, Nat.not_le] at h7
      refine ev_vret dJ_fill_20 rfl ?_
      exact hR M (zSame.rf _ _) (fun j hj => hj1 j (by omega))
    · first | omega | (simp (disch := omega) only [zcond, nI_ltI, nI_leI, nI_eq] at h7; omega)
  | succ f ih =>
    intro i M L hf hL0 hL1 hL2 hL3 hj1 hR
    refine ev_il dJ_fill_5 rfl (by first | assumption | rfl) ?_
    refine ev_il dJ_fill_6 rfl (by first | assumption | rfl) ?_
    refine ev_icmp (tgt := 20) dJ_fill_7 (by decide) (fun h7 => ?_) (fun h7 => ?_)
    · first | omega | (simp (disch := omega) only [zcond, nI_ltI, nI_leI, nI_eq] at h7; omega)
    · try simp (disch := omega) only [zcond, nI_ltI, nI_leI, nI_eq, zb0, Classical.not_not, Bool.not_eq_false, Nat.not_lt, Nat.not_le] at h7
      refine ev_al dJ_fill_10 rfl (by first | assumption | rfl) ?_
      refine ev_il dJ_fill_11 rfl (by first | assumption | rfl) ?_
      refine ev_il dJ_fill_12 rfl (by first | assumption | rfl) ?_
      refine ev_iastN dJ_fill_13 rfl (by omega) ?_
      refine ev_inc1 dJ_fill_14 (by first | assumption | rfl) ?_
      refine ev_goto (tgt := 5) dJ_fill_17 (by decide) ?_
      refine ih (i + 1) (zI M 24 i x) _ (by omega) (by first | assumption | rfl) (by first | assumption | rfl) rfl (by first | assumption | rfl) ?_ ?_
      · intro j hj
        by_cases hji : j = i
        · subst hji; exact zI_s _ _ _ _
        · exact (zI_k hji).trans (hj1 j (by omega))
      · intro M' hs hall
        exact hR M' ((zSame.I (S := fun o _ => o = 24) (zSame.rf _ M) rfl).tr hs) hall
set_option maxRecDepth 100000 in
set_option maxHeartbeats 4000000 in
theorem c_fillA {x : Int32} : Ct Lx xs d mJ_fill [.ref 24, .int x] M (fun q M' => q = none ∧ zSame (fun o _ => o = 24) M M' ∧ ∀ j, j < 160 → M'.1 24 j = x) := by
  unfold Ct
  refine ev_const (v := nI 0) dJ_fill_0 (by decide) ?_
  refine ev_is dJ_fill_1 rfl (Nat.le_of_ble_eq_true rfl) ?_
  refine ev_al dJ_fill_2 rfl (by first | assumption | rfl) ?_
  refine ev_alen dJ_fill_3 rfl ?_
  refine ev_is dJ_fill_4 rfl (Nat.le_of_ble_eq_true rfl) ?_
  exact l_fillA 160 0 _ _ rfl rfl rfl rfl rfl (fun j hj => absurd hj (Nat.not_lt_zero j)) (fun M' hs hall => ⟨rfl, hs, hall⟩)
end
end
section
/- reading, as the class does it: next token and 'stopped'; tokens' marks mk, nT of them -/
abbrev pE : Type := Nat × Bool
def pS (nT : Nat) (mk : Nat → Nat) (s : pE) (c : Nat) : Bool := !s.2 && (decide (s.1 < nT) && decide (mk s.1 = c))
def pN (nT : Nat) (mk : Nat → Nat) (s : pE) (c : Nat) : pE := if pS nT mk s c = true then (s.1 + 1, s.2) else (s.1, true)
/-- 0 a sum, 3 the terms behind a term (a the sum so far, b the term), 1 a factor, 2 a call behind the name nm, 4 the list behind an element (a so far) -/
def pr (nT : Nat) (mk : Nat → Nat) (tv : Nat → Int32) (sl : Nat → Nat) (nv : Nat → Int32) : Nat → Nat → Nat → Nat → Int32 → Int32 → pE → pE × Int32
  | 0, _, _, _, _, _, s => (s, nI 0)
  | f + 1, 0, dp, _, _, _, s =>
    pr nT mk tv sl nv f 3 dp 0 (nI 0) (pr nT mk tv sl nv f 1 dp 0 0 0 s).2 (pr nT mk tv sl nv f 1 dp 0 0 0 s).1
  | f + 1, 1, dp, _, _, _, s =>
    if pS nT mk s 48 = true then ((s.1 + 1, s.2), tv s.1)
    else if pS nT mk s 34 = true then ((s.1 + 1, s.2), nI (sl s.1) - nI 2)
    else if pS nT mk s 97 = true then
      (if pS nT mk (s.1 + 1, s.2) 40 = true then pr nT mk tv sl nv f 2 dp s.1 0 0 (s.1 + 1, s.2) else ((s.1 + 1, s.2), nv s.1))
    else if pS nT mk s 45 = true then
      (if 12 ≤ dp then ((s.1, true), nI 0) else ((pr nT mk tv sl nv f 1 (dp + 1) 0 0 0 (s.1 + 1, s.2)).1, nI 0 - (pr nT mk tv sl nv f 1 (dp + 1) 0 0 0 (s.1 + 1, s.2)).2))
    else if pS nT mk s 40 = true then
      (if 12 ≤ dp then ((s.1, true), nI 0) else (pN nT mk (pr nT mk tv sl nv f 0 (dp + 1) 0 0 0 (s.1 + 1, s.2)).1 41, (pr nT mk tv sl nv f 0 (dp + 1) 0 0 0 (s.1 + 1, s.2)).2))
    else ((s.1, true), nI 0)
  | f + 1, 2, dp, nm, _, _, s =>
    if pS nT mk s 40 = true ∧ dp < 12 then
      (if pS nT mk (s.1 + 1, s.2) 41 = true then ((s.1 + 2, s.2), nI (sl nm))
       else pr nT mk tv sl nv f 4 dp 0 (nI 31 * nI (sl nm) + (pr nT mk tv sl nv f 0 (dp + 1) 0 0 0 (s.1 + 1, s.2)).2) 0 (pr nT mk tv sl nv f 0 (dp + 1) 0 0 0 (s.1 + 1, s.2)).1)
    else ((s.1, true), nI 0)
  | f + 1, 3, dp, _, a, b, s =>
    if s.2 = true then (s, a + b)
    else if pS nT mk s 42 = true then pr nT mk tv sl nv f 3 dp 0 a (b * (pr nT mk tv sl nv f 1 dp 0 0 0 (s.1 + 1, s.2)).2) (pr nT mk tv sl nv f 1 dp 0 0 0 (s.1 + 1, s.2)).1
    else if pS nT mk s 43 = true then pr nT mk tv sl nv f 3 dp 0 (a + b) (pr nT mk tv sl nv f 1 dp 0 0 0 (s.1 + 1, s.2)).2 (pr nT mk tv sl nv f 1 dp 0 0 0 (s.1 + 1, s.2)).1
    else if pS nT mk s 45 = true then pr nT mk tv sl nv f 3 dp 0 (a + b) (nI 0 - (pr nT mk tv sl nv f 1 dp 0 0 0 (s.1 + 1, s.2)).2) (pr nT mk tv sl nv f 1 dp 0 0 0 (s.1 + 1, s.2)).1
    else (s, a + b)
  | f + 1, _, dp, _, a, _, s =>
    if pS nT mk s 44 = true then pr nT mk tv sl nv f 4 dp 0 (nI 31 * a + (pr nT mk tv sl nv f 0 (dp + 1) 0 0 0 (s.1 + 1, s.2)).2) 0 (pr nT mk tv sl nv f 0 (dp + 1) 0 0 0 (s.1 + 1, s.2)).1
    else (pN nT mk s 41, a)
section
variable {nT : Nat} {mk : Nat → Nat} {tv : Nat → Int32} {sl : Nat → Nat} {nv : Nat → Int32}
theorem pS_iff {s : pE} {c : Nat} : pS nT mk s c = true ↔ s.2 = false ∧ s.1 < nT ∧ mk s.1 = c := by
  unfold pS
  simp [Bool.and_eq_true]
theorem pS_stop {s : pE} {c : Nat} (h : s.2 = true) : pS nT mk s c = false := by
  unfold pS; rw [h]; rfl
/-- what reading keeps: it goes on, within the tokens, and once stopped it stands -/
def pOk (nT : Nat) (s t : pE) : Prop := s.1 ≤ t.1 ∧ (s.1 ≤ nT → t.1 ≤ nT) ∧ (s.2 = true → t = s)
theorem pOk.rf (s : pE) : pOk nT s s := ⟨Nat.le_refl _, fun h => h, fun _ => rfl⟩
theorem pOk.tr {s t u : pE} (h : pOk nT s t) (h' : pOk nT t u) : pOk nT s u :=
  ⟨Nat.le_trans h.1 h'.1, fun x => h'.2.1 (h.2.1 x), fun x => by have := h.2.2 x; subst this; exact h'.2.2 x⟩
theorem pOk.one {s : pE} {c : Nat} (h : pS nT mk s c = true) : pOk nT s (s.1 + 1, s.2) := by
  obtain ⟨h1, h2, -⟩ := pS_iff.mp h
  exact ⟨Nat.le_succ _, fun _ => h2, fun x => by rw [h1] at x; cases x⟩
theorem pOk.stop (s : pE) : pOk nT s (s.1, true) :=
  ⟨Nat.le_refl _, fun h => h, fun x => by rw [← x]⟩
theorem pN_ok (s : pE) (c : Nat) : pOk nT s (pN nT mk s c) := by
  unfold pN
  split
  · rename_i h; exact pOk.one h
  · exact pOk.stop s
theorem pr_ok : ∀ (f tag dp nm : Nat) (a b : Int32) (s : pE), pOk nT s (pr nT mk tv sl nv f tag dp nm a b s).1
  | 0, tag, dp, nm, a, b, s => by rw [pr]; exact pOk.rf s
  | f + 1, 0, dp, nm, a, b, s => by
    rw [pr]; exact (pr_ok f 1 dp 0 0 0 s).tr (pr_ok f 3 dp 0 _ _ _)
  | f + 1, 1, dp, nm, a, b, s => by
    rw [pr]
    split
    · rename_i h; exact pOk.one h
    split
    · rename_i h; exact pOk.one h
    split
    · rename_i h
      split
      · exact (pOk.one h).tr (pr_ok f 2 dp s.1 0 0 _)
      · exact pOk.one h
    split
    · rename_i h
      split
      · exact pOk.stop s
      · exact (pOk.one h).tr (pr_ok f 1 (dp + 1) 0 0 0 _)
    split
    · rename_i h
      split
      · exact pOk.stop s
      · exact ((pOk.one h).tr (pr_ok f 0 (dp + 1) 0 0 0 _)).tr (pN_ok _ _)
    · exact pOk.stop s
  | f + 1, 2, dp, nm, a, b, s => by
    rw [pr]
    split
    · rename_i h
      split
      · rename_i h2; exact (pOk.one h.1).tr (pOk.one h2)
      · exact ((pOk.one h.1).tr (pr_ok f 0 (dp + 1) 0 0 0 _)).tr (pr_ok f 4 dp 0 _ 0 _)
    · exact pOk.stop s
  | f + 1, 3, dp, nm, a, b, s => by
    rw [pr]
    split
    · exact pOk.rf s
    split
    · rename_i h; exact ((pOk.one h).tr (pr_ok f 1 dp 0 0 0 _)).tr (pr_ok f 3 dp 0 _ _ _)
    split
    · rename_i h; exact ((pOk.one h).tr (pr_ok f 1 dp 0 0 0 _)).tr (pr_ok f 3 dp 0 _ _ _)
    split
    · rename_i h; exact ((pOk.one h).tr (pr_ok f 1 dp 0 0 0 _)).tr (pr_ok f 3 dp 0 _ _ _)
    · exact pOk.rf s
  | f + 1, tag + 4, dp, nm, a, b, s => by
    rw [pr]
    · split
      · rename_i h; exact ((pOk.one h).tr (pr_ok f 0 (dp + 1) 0 0 0 _)).tr (pr_ok f 4 dp 0 _ 0 _)
      · exact pN_ok s 41
    all_goals omega
end
end
section
/- Reading: sees, takes, needs, opens (rows laid by program) -/
theorem zM_ext {M M' : zM} (h : ∀ a i, M.1 a i = M'.1 a i) (h2 : M.2 = M'.2) : M = M' := by
  obtain ⟨I, P⟩ := M
  obtain ⟨I', P'⟩ := M'
  have : I = I' := funext fun a => funext fun i => h a i
  subst this
  cases h2
  rfl
theorem zbt {b : Bool} (h : b = true) : some (nI 1) = some (nI b.toNat) := by subst h; rfl
theorem zbf {b : Bool} (h : b = false) : some (nI 0) = some (nI b.toNat) := by subst h; rfl
/-- the reading r with its next token and 'stopped' -/
def mE (M : zM) (r : Nat) (s : pE) : zM := zI (zI M r 2 (nI s.1)) r 3 (nI s.2.toNat)
def pT (nT : Nat) (mk : Nat → Nat) (s : pE) (c : Nat) : pE := if pS nT mk s c = true then (s.1 + 1, s.2) else s
def pOb (nT : Nat) (mk : Nat → Nat) (s : pE) (c dp : Nat) : Bool := pS nT mk s c && decide (dp < 12)
def pOs (nT : Nat) (mk : Nat → Nat) (s : pE) (c dp : Nat) : pE := if pS nT mk s c = true then (if 12 ≤ dp then (s.1, true) else (s.1 + 1, s.2)) else s
/-- the tokens' marks -/
def Mks (M : zM) (r nT : Nat) (mk : Nat → Nat) : Prop := M.1 (r + 1) 4 = nI nT ∧ nT ≤ 160 ∧ ∀ k, k < nT → M.1 (r + 5) k = nI (mk k) ∧ mk k < 128
section
variable {M : zM} {r : Nat} {s : pE}
theorem mE_n : (mE M r s).1 r 2 = nI s.1 := by unfold mE; rw [zI_k (by decide), zI_s]
theorem mE_s : (mE M r s).1 r 3 = nI s.2.toNat := by unfold mE; rw [zI_s]
theorem mE_o {a i : Nat} (h : a ≠ r) : (mE M r s).1 a i = M.1 a i := by unfold mE; rw [zI_o h, zI_o h]
theorem mE_k {i : Nat} (h : i ≠ 2) (h2 : i ≠ 3) : (mE M r s).1 r i = M.1 r i := by unfold mE; rw [zI_k h2, zI_k h]
theorem mE_N {p : Nat} : zI (mE M r s) r 2 (nI p) = mE M r (p, s.2) := by
  refine zM_ext (fun a i => ?_) rfl
  unfold mE
  simp only [zI_at]
  (repeat' split) <;> first | rfl | simp_all | (exfalso; simp_all)
theorem mE_S {b : Bool} : zI (mE M r s) r 3 (nI b.toNat) = mE M r (s.1, b) := by
  refine zM_ext (fun a i => ?_) rfl
  unfold mE
  simp only [zI_at]
  (repeat' split) <;> first | rfl | simp_all | (exfalso; simp_all)
theorem mE_S1 : zI (mE M r s) r 3 (nI 1) = mE M r (s.1, true) := mE_S (b := true)
theorem mE_E {s' : pE} : mE (mE M r s) r s' = mE M r s' := by
  refine zM_ext (fun a i => ?_) rfl
  unfold mE
  simp only [zI_at]
  (repeat' split) <;> first | rfl | simp_all | (exfalso; simp_all)
theorem Mks.E {nT : Nat} {mk : Nat → Nat} (h : Mks M r nT mk) : Mks (mE M r s) r nT mk :=
  ⟨(mE_o (by omega)).trans h.1, h.2.1, fun k hk => ⟨(mE_o (by omega)).trans (h.2.2 k hk).1, (h.2.2 k hk).2⟩⟩
end
section
variable {nT : Nat} {mk : Nat → Nat} {s : pE} {c dp : Nat}
theorem pT_t (h : pS nT mk s c = true) : pT nT mk s c = (s.1 + 1, s.2) := if_pos h
theorem pT_f (h : pS nT mk s c = false) : pT nT mk s c = s := if_neg (by rw [h]; decide)
theorem pOs_f (h : pOb nT mk s c dp = false) : (pOs nT mk s c dp).1 = s.1 := by
  unfold pOb at h
  unfold pOs
  split
  · rename_i h1
    rw [h1] at h
    rw [if_pos (by simpa using h)]
  · rfl
theorem pOb_t (h : pOb nT mk s c dp = true) : pS nT mk s c = true ∧ dp < 12 ∧ pOs nT mk s c dp = (s.1 + 1, s.2) := by
  unfold pOb at h
  simp at h
  refine ⟨h.1, h.2, ?_⟩
  unfold pOs
  rw [if_pos h.1, if_neg (by omega)]
end
section
variable {Lx : Nat} {xs : Nat → Int32} {d : Nat} {M : zM} {n b r nT : Nat} {mk : Nat → Nat} {s : pE} {c : Nat}
set_option maxRecDepth 100000 in
set_option maxHeartbeats 4000000 in
theorem c_sees (hP : M.2.1 = zP0 n b) (hr : zR r) (hE : Mks M r nT mk) (hs : s.1 < 2 ^ 31) (hc : c < 128) : Pu Lx xs d mR_sees [.ref r, .int (nI c)] (mE M r s) (nI (pS nT mk s c).toNat) := by
  unfold Pu Ct
  have hnT := hE.2.1
  refine ev_al dR_sees_0 rfl (by first | assumption | rfl) ?_
  refine ev_geti dR_sees_1 fR_29 (sh_R hr) ?_
  rw [mE_s]
  refine ev_if0 (tgt := 41) dR_sees_4 (by decide) (fun h4 => ?_) (fun h4 => ?_)
  · try simp (disch := omega) only [zcond, nI_ltI, nI_leI, nI_eq, zb0, Classical.not_not, Bool.not_eq_false, Bool.not_eq_true, Nat.not_lt, Nat.not_le] at h4
    refine ev_const (v := nI 0) dR_sees_41 (by decide) ?_
    refine ev_ret dR_sees_42 rfl rfl ?_
    first | exact ⟨zbt (pS_iff.mpr ⟨h4, h18, h34⟩), rfl⟩ | exact ⟨zbf (Bool.eq_false_iff.mpr (fun hp => by obtain ⟨h1, h2, h3⟩ := pS_iff.mp hp; first | omega | simp_all)), rfl⟩
  · try simp (disch := omega) only [zcond, nI_ltI, nI_leI, nI_eq, zb0, Classical.not_not, Bool.not_eq_false, Bool.not_eq_true, Nat.not_lt, Nat.not_le] at h4
    refine ev_al dR_sees_7 rfl (by first | assumption | rfl) ?_
    refine ev_geti dR_sees_8 fR_25 (sh_R hr) ?_
    rw [mE_n]
    refine ev_al dR_sees_11 rfl (by first | assumption | rfl) ?_
    refine ev_getrP dR_sees_12 fR_12 (sh_R hr) (zq hP (pt_source hr)) ?_
    refine ev_geti dR_sees_15 fR_36 (sh_S hr) ?_
    rw [mE_o (by omega), hE.1]
    refine ev_icmp (tgt := 41) dR_sees_18 (by decide) (fun h18 => ?_) (fun h18 => ?_)
    · try simp (disch := omega) only [zcond, nI_ltI, nI_leI, nI_eq, zb0, Classical.not_not, Bool.not_eq_false, Bool.not_eq_true, Nat.not_lt, Nat.not_le] at h18
      refine ev_const (v := nI 0) dR_sees_41 (by decide) ?_
      refine ev_ret dR_sees_42 rfl rfl ?_
      first | exact ⟨zbt (pS_iff.mpr ⟨h4, h18, h34⟩), rfl⟩ | exact ⟨zbf (Bool.eq_false_iff.mpr (fun hp => by obtain ⟨h1, h2, h3⟩ := pS_iff.mp hp; first | omega | simp_all)), rfl⟩
    · try simp (disch := omega) only [zcond, nI_ltI, nI_leI, nI_eq, zb0, Classical.not_not, Bool.not_eq_false, Bool.not_eq_true, Nat.not_lt, Nat.not_le] at h18
      refine ev_al dR_sees_21 rfl (by first | assumption | rfl) ?_
      refine ev_getrP dR_sees_22 fR_12 (sh_R hr) (zq hP (pt_source hr)) ?_
      refine ev_getrP dR_sees_25 fR_48 (sh_S hr) (zq hP (pt_marks hr)) ?_
      refine ev_al dR_sees_28 rfl (by first | assumption | rfl) ?_
      refine ev_geti dR_sees_29 fR_25 (sh_R hr) ?_
      rw [mE_n]
      refine ev_aldN dR_sees_32 rfl (sh_marks hr) (by omega) ?_
      rw [mE_o (by omega), (hE.2.2 s.1 h18).1]
      have hmk := (hE.2.2 s.1 h18).2
      refine ev_il dR_sees_33 rfl (by first | assumption | rfl) ?_
      refine ev_icmp (tgt := 41) dR_sees_34 (by decide) (fun h34 => ?_) (fun h34 => ?_)
      · try simp (disch := omega) only [zcond, nI_ltI, nI_leI, nI_eq, zb0, Classical.not_not, Bool.not_eq_false, Bool.not_eq_true, Nat.not_lt, Nat.not_le] at h34
        refine ev_const (v := nI 0) dR_sees_41 (by decide) ?_
        refine ev_ret dR_sees_42 rfl rfl ?_
        first | exact ⟨zbt (pS_iff.mpr ⟨h4, h18, h34⟩), rfl⟩ | exact ⟨zbf (Bool.eq_false_iff.mpr (fun hp => by obtain ⟨h1, h2, h3⟩ := pS_iff.mp hp; first | omega | simp_all)), rfl⟩
      · try simp (disch := omega) only [zcond, nI_ltI, nI_leI, nI_eq, zb0, Classical.not_not, Bool.not_eq_false, Bool.not_eq_true, Nat.not_lt, Nat.not_le] at h34
        refine ev_const (v := nI 1) dR_sees_37 (by decide) ?_
        refine ev_goto (tgt := 42) dR_sees_38 (by decide) ?_
        refine ev_ret dR_sees_42 rfl rfl ?_
        first | exact ⟨zbt (pS_iff.mpr ⟨h4, h18, h34⟩), rfl⟩ | exact ⟨zbf (Bool.eq_false_iff.mpr (fun hp => by obtain ⟨h1, h2, h3⟩ := pS_iff.mp hp; first | omega | simp_all)), rfl⟩
set_option maxRecDepth 100000 in
set_option maxHeartbeats 4000000 in
theorem c_takes (hP : M.2.1 = zP0 n b) (hr : zR r) (hE : Mks M r nT mk) (hs : s.1 < 2 ^ 31) (hc : c < 128) : Ct Lx xs (d + 1) mR_takes [.ref r, .int (nI c)] (mE M r s) (fun q M' => q = some (nI (pS nT mk s c).toNat) ∧ M' = mE M r (pT nT mk s c)) := by
  unfold Ct
  refine ev_al dR_takes_0 rfl (by first | assumption | rfl) ?_
  refine ev_il dR_takes_1 rfl (by first | assumption | rfl) ?_
  refine ev_pV dR_takes_2 (c_sees hP hr hE hs hc) lR_52 (rec_R hr) rfl (Nat.le_of_ble_eq_true rfl) rfl (Nat.le_of_ble_eq_true rfl) ?_
  refine ev_is dR_takes_5 rfl (Nat.le_of_ble_eq_true rfl) ?_
  refine ev_il dR_takes_6 rfl (by first | assumption | rfl) ?_
  refine ev_if0 (tgt := 20) dR_takes_7 (by decide) (fun h7 => ?_) (fun h7 => ?_)
  · try simp (disch := omega) only [zcond, nI_ltI, nI_leI, nI_eq, zb0, Classical.not_not, Bool.not_eq_false, Bool.not_eq_true, Nat.not_lt, Nat.not_le] at h7
    try rw [mE_N]
    refine ev_il dR_takes_20 rfl (by first | assumption | rfl) ?_
    refine ev_ret dR_takes_21 rfl (zb1 _) ?_
    first | (rw [pT_t h7]; exact ⟨rfl, rfl⟩) | (rw [pT_f h7]; exact ⟨rfl, rfl⟩)
  · try simp (disch := omega) only [zcond, nI_ltI, nI_leI, nI_eq, zb0, Classical.not_not, Bool.not_eq_false, Bool.not_eq_true, Nat.not_lt, Nat.not_le] at h7
    refine ev_al dR_takes_10 rfl (by first | assumption | rfl) ?_
    refine ev_stk dR_takes_11 rfl ?_
    refine ev_geti dR_takes_12 fR_25 (sh_R hr) ?_
    rw [mE_n]
    refine ev_const (v := nI 1) dR_takes_15 (by decide) ?_
    first | with_reducible refine ev_addN dR_takes_16 ?_ | refine ev_add dR_takes_16 ?_
    refine ev_puti dR_takes_17 fR_25 fwR_next (sh_R hr) (vp_nar_int _) rfl ?_
    try rw [mE_N]
    refine ev_il dR_takes_20 rfl (by first | assumption | rfl) ?_
    refine ev_ret dR_takes_21 rfl (zb1 _) ?_
    first | (rw [pT_t h7]; exact ⟨rfl, rfl⟩) | (rw [pT_f h7]; exact ⟨rfl, rfl⟩)
set_option maxRecDepth 100000 in
set_option maxHeartbeats 4000000 in
theorem c_needs (hP : M.2.1 = zP0 n b) (hr : zR r) (hE : Mks M r nT mk) (hs : s.1 < 2 ^ 31) (hc : c < 128) : Ct Lx xs (d + 1) mR_needs [.ref r, .int (nI c)] (mE M r s) (fun q M' => q = none ∧ M' = mE M r (pN nT mk s c)) := by
  unfold Ct
  refine ev_al dR_needs_0 rfl (by first | assumption | rfl) ?_
  refine ev_il dR_needs_1 rfl (by first | assumption | rfl) ?_
  refine ev_pV dR_needs_2 (c_sees hP hr hE hs hc) lR_52 (rec_R hr) rfl (Nat.le_of_ble_eq_true rfl) rfl (Nat.le_of_ble_eq_true rfl) ?_
  refine ev_if0 (tgt := 21) dR_needs_5 (by decide) (fun h5 => ?_) (fun h5 => ?_)
  · try simp (disch := omega) only [zcond, nI_ltI, nI_leI, nI_eq, zb0, Classical.not_not, Bool.not_eq_false, Bool.not_eq_true, Nat.not_lt, Nat.not_le] at h5
    refine ev_al dR_needs_21 rfl (by first | assumption | rfl) ?_
    refine ev_const (v := nI 1) dR_needs_22 (by decide) ?_
    refine ev_puti dR_needs_23 fR_29 fwR_stopped (sh_R hr) rfl rfl ?_
    try rw [mE_S1]
    refine ev_vret dR_needs_26 rfl ?_
    first | (rw [show pN nT mk s c = (s.1 + 1, s.2) from if_pos h5]; exact ⟨rfl, rfl⟩) | (rw [show pN nT mk s c = (s.1, true) from if_neg (by rw [h5]; decide)]; exact ⟨rfl, rfl⟩)
  · try simp (disch := omega) only [zcond, nI_ltI, nI_leI, nI_eq, zb0, Classical.not_not, Bool.not_eq_false, Bool.not_eq_true, Nat.not_lt, Nat.not_le] at h5
    refine ev_al dR_needs_8 rfl (by first | assumption | rfl) ?_
    refine ev_stk dR_needs_9 rfl ?_
    refine ev_geti dR_needs_10 fR_25 (sh_R hr) ?_
    rw [mE_n]
    refine ev_const (v := nI 1) dR_needs_13 (by decide) ?_
    first | with_reducible refine ev_addN dR_needs_14 ?_ | refine ev_add dR_needs_14 ?_
    refine ev_puti dR_needs_15 fR_25 fwR_next (sh_R hr) (vp_nar_int _) rfl ?_
    rw [mE_N]
    refine ev_goto (tgt := 26) dR_needs_18 (by decide) ?_
    try rw [mE_S1]
    refine ev_vret dR_needs_26 rfl ?_
    first | (rw [show pN nT mk s c = (s.1 + 1, s.2) from if_pos h5]; exact ⟨rfl, rfl⟩) | (rw [show pN nT mk s c = (s.1, true) from if_neg (by rw [h5]; decide)]; exact ⟨rfl, rfl⟩)
set_option maxRecDepth 100000 in
set_option maxHeartbeats 4000000 in
theorem c_opens {dp : Nat} (hP : M.2.1 = zP0 n b) (hr : zR r) (hE : Mks M r nT mk) (hs : s.1 < 2 ^ 31) (hc : c < 128) (hdp : dp < 2 ^ 31) : Ct Lx xs (d + 1) mR_opens [.ref r, .int (nI c), .int (nI dp)] (mE M r s) (fun q M' => q = some (nI (pOb nT mk s c dp).toNat) ∧ M' = mE M r (pOs nT mk s c dp)) := by
  unfold Ct
  refine ev_al dR_opens_0 rfl (by first | assumption | rfl) ?_
  refine ev_il dR_opens_1 rfl (by first | assumption | rfl) ?_
  refine ev_pV dR_opens_2 (c_sees hP hr hE hs hc) lR_52 (rec_R hr) rfl (Nat.le_of_ble_eq_true rfl) rfl (Nat.le_of_ble_eq_true rfl) ?_
  refine ev_is dR_opens_5 rfl (Nat.le_of_ble_eq_true rfl) ?_
  refine ev_il dR_opens_6 rfl (by first | assumption | rfl) ?_
  refine ev_if0 (tgt := 24) dR_opens_7 (by decide) (fun h7 => ?_) (fun h7 => ?_)
  · try simp (disch := omega) only [zcond, nI_ltI, nI_leI, nI_eq, zb0, Classical.not_not, Bool.not_eq_false, Bool.not_eq_true, Nat.not_lt, Nat.not_le] at h7
    refine ev_il dR_opens_24 rfl (by first | assumption | rfl) ?_
    refine ev_if0 (tgt := 38) dR_opens_25 (by decide) (fun h25 => ?_) (fun h25 => ?_)
    · try simp (disch := omega) only [zcond, nI_ltI, nI_leI, nI_eq, zb0, Classical.not_not, Bool.not_eq_false, Bool.not_eq_true, Nat.not_lt, Nat.not_le] at h25
      try rw [mE_N]
      refine ev_il dR_opens_38 rfl (by first | assumption | rfl) ?_
      refine ev_if0 (tgt := 53) dR_opens_39 (by decide) (fun h39 => ?_) (fun h39 => ?_)
      · try simp (disch := omega) only [zcond, nI_ltI, nI_leI, nI_eq, zb0, Classical.not_not, Bool.not_eq_false, Bool.not_eq_true, Nat.not_lt, Nat.not_le] at h39
        refine ev_const (v := nI 0) dR_opens_53 (by decide) ?_
        refine ev_ret dR_opens_54 rfl rfl ?_
        have hq := @pS_iff nT mk s c
        rcases Nat.lt_or_ge dp 12 with hd | hd
        · have hd2 : ¬ 12 ≤ dp := by omega
          first | (exfalso; omega) | (exfalso; simp_all; done) | skip
          all_goals constructor
          all_goals first | (simp_all [pOb]; done) | (simp_all [pOs]; done) | (simp_all [pOb]; rfl) | (simp_all [pOs]; rw [if_neg (by omega)]) | (simp_all [pOb]; rw [show decide (dp < 12) = false from decide_eq_false (by omega)]; rfl)
        · have hd2 : ¬ dp < 12 := by omega
          first | (exfalso; omega) | (exfalso; simp_all; done) | skip
          all_goals constructor
          all_goals first | (simp_all [pOb]; done) | (simp_all [pOs]; done) | (simp_all [pOb]; rfl) | (simp_all [pOs]; rw [if_neg (by omega)]) | (simp_all [pOb]; rw [show decide (dp < 12) = false from decide_eq_false (by omega)]; rfl)
      · try simp (disch := omega) only [zcond, nI_ltI, nI_leI, nI_eq, zb0, Classical.not_not, Bool.not_eq_false, Bool.not_eq_true, Nat.not_lt, Nat.not_le] at h39
        refine ev_al dR_opens_42 rfl (by first | assumption | rfl) ?_
        refine ev_geti dR_opens_43 fR_29 (sh_R hr) ?_
        rw [mE_s]
        refine ev_if0 (tgt := 53) dR_opens_46 (by decide) (fun h46 => ?_) (fun h46 => ?_)
        · try simp (disch := omega) only [zcond, nI_ltI, nI_leI, nI_eq, zb0, Classical.not_not, Bool.not_eq_false, Bool.not_eq_true, Nat.not_lt, Nat.not_le] at h46
          refine ev_const (v := nI 0) dR_opens_53 (by decide) ?_
          refine ev_ret dR_opens_54 rfl rfl ?_
          have hq := @pS_iff nT mk s c
          rcases Nat.lt_or_ge dp 12 with hd | hd
          · have hd2 : ¬ 12 ≤ dp := by omega
            first | (exfalso; omega) | (exfalso; simp_all; done) | skip
            all_goals constructor
            all_goals first | (simp_all [pOb]; done) | (simp_all [pOs]; done) | (simp_all [pOb]; rfl) | (simp_all [pOs]; rw [if_neg (by omega)]) | (simp_all [pOb]; rw [show decide (dp < 12) = false from decide_eq_false (by omega)]; rfl)
          · have hd2 : ¬ dp < 12 := by omega
            first | (exfalso; omega) | (exfalso; simp_all; done) | skip
            all_goals constructor
            all_goals first | (simp_all [pOb]; done) | (simp_all [pOs]; done) | (simp_all [pOb]; rfl) | (simp_all [pOs]; rw [if_neg (by omega)]) | (simp_all [pOb]; rw [show decide (dp < 12) = false from decide_eq_false (by omega)]; rfl)
        · try simp (disch := omega) only [zcond, nI_ltI, nI_leI, nI_eq, zb0, Classical.not_not, Bool.not_eq_false, Bool.not_eq_true, Nat.not_lt, Nat.not_le] at h46
          refine ev_const (v := nI 1) dR_opens_49 (by decide) ?_
          refine ev_goto (tgt := 54) dR_opens_50 (by decide) ?_
          refine ev_ret dR_opens_54 rfl rfl ?_
          have hq := @pS_iff nT mk s c
          rcases Nat.lt_or_ge dp 12 with hd | hd
          · have hd2 : ¬ 12 ≤ dp := by omega
            first | (exfalso; omega) | (exfalso; simp_all; done) | skip
            all_goals constructor
            all_goals first | (simp_all [pOb]; done) | (simp_all [pOs]; done) | (simp_all [pOb]; rfl) | (simp_all [pOs]; rw [if_neg (by omega)]) | (simp_all [pOb]; rw [show decide (dp < 12) = false from decide_eq_false (by omega)]; rfl)
          · have hd2 : ¬ dp < 12 := by omega
            first | (exfalso; omega) | (exfalso; simp_all; done) | skip
            all_goals constructor
            all_goals first | (simp_all [pOb]; done) | (simp_all [pOs]; done) | (simp_all [pOb]; rfl) | (simp_all [pOs]; rw [if_neg (by omega)]) | (simp_all [pOb]; rw [show decide (dp < 12) = false from decide_eq_false (by omega)]; rfl)
    · try simp (disch := omega) only [zcond, nI_ltI, nI_leI, nI_eq, zb0, Classical.not_not, Bool.not_eq_false, Bool.not_eq_true, Nat.not_lt, Nat.not_le] at h25
      refine ev_al dR_opens_28 rfl (by first | assumption | rfl) ?_
      refine ev_stk dR_opens_29 rfl ?_
      refine ev_geti dR_opens_30 fR_25 (sh_R hr) ?_
      rw [mE_n]
      refine ev_const (v := nI 1) dR_opens_33 (by decide) ?_
      first | with_reducible refine ev_addN dR_opens_34 ?_ | refine ev_add dR_opens_34 ?_
      refine ev_puti dR_opens_35 fR_25 fwR_next (sh_R hr) (vp_nar_int _) rfl ?_
      try rw [mE_N]
      refine ev_il dR_opens_38 rfl (by first | assumption | rfl) ?_
      refine ev_if0 (tgt := 53) dR_opens_39 (by decide) (fun h39 => ?_) (fun h39 => ?_)
      · try simp (disch := omega) only [zcond, nI_ltI, nI_leI, nI_eq, zb0, Classical.not_not, Bool.not_eq_false, Bool.not_eq_true, Nat.not_lt, Nat.not_le] at h39
        refine ev_const (v := nI 0) dR_opens_53 (by decide) ?_
        refine ev_ret dR_opens_54 rfl rfl ?_
        have hq := @pS_iff nT mk s c
        rcases Nat.lt_or_ge dp 12 with hd | hd
        · have hd2 : ¬ 12 ≤ dp := by omega
          first | (exfalso; omega) | (exfalso; simp_all; done) | skip
          all_goals constructor
          all_goals first | (simp_all [pOb]; done) | (simp_all [pOs]; done) | (simp_all [pOb]; rfl) | (simp_all [pOs]; rw [if_neg (by omega)]) | (simp_all [pOb]; rw [show decide (dp < 12) = false from decide_eq_false (by omega)]; rfl)
        · have hd2 : ¬ dp < 12 := by omega
          first | (exfalso; omega) | (exfalso; simp_all; done) | skip
          all_goals constructor
          all_goals first | (simp_all [pOb]; done) | (simp_all [pOs]; done) | (simp_all [pOb]; rfl) | (simp_all [pOs]; rw [if_neg (by omega)]) | (simp_all [pOb]; rw [show decide (dp < 12) = false from decide_eq_false (by omega)]; rfl)
      · try simp (disch := omega) only [zcond, nI_ltI, nI_leI, nI_eq, zb0, Classical.not_not, Bool.not_eq_false, Bool.not_eq_true, Nat.not_lt, Nat.not_le] at h39
        refine ev_al dR_opens_42 rfl (by first | assumption | rfl) ?_
        refine ev_geti dR_opens_43 fR_29 (sh_R hr) ?_
        rw [mE_s]
        refine ev_if0 (tgt := 53) dR_opens_46 (by decide) (fun h46 => ?_) (fun h46 => ?_)
        · try simp (disch := omega) only [zcond, nI_ltI, nI_leI, nI_eq, zb0, Classical.not_not, Bool.not_eq_false, Bool.not_eq_true, Nat.not_lt, Nat.not_le] at h46
          refine ev_const (v := nI 0) dR_opens_53 (by decide) ?_
          refine ev_ret dR_opens_54 rfl rfl ?_
          have hq := @pS_iff nT mk s c
          rcases Nat.lt_or_ge dp 12 with hd | hd
          · have hd2 : ¬ 12 ≤ dp := by omega
            first | (exfalso; omega) | (exfalso; simp_all; done) | skip
            all_goals constructor
            all_goals first | (simp_all [pOb]; done) | (simp_all [pOs]; done) | (simp_all [pOb]; rfl) | (simp_all [pOs]; rw [if_neg (by omega)]) | (simp_all [pOb]; rw [show decide (dp < 12) = false from decide_eq_false (by omega)]; rfl)
          · have hd2 : ¬ dp < 12 := by omega
            first | (exfalso; omega) | (exfalso; simp_all; done) | skip
            all_goals constructor
            all_goals first | (simp_all [pOb]; done) | (simp_all [pOs]; done) | (simp_all [pOb]; rfl) | (simp_all [pOs]; rw [if_neg (by omega)]) | (simp_all [pOb]; rw [show decide (dp < 12) = false from decide_eq_false (by omega)]; rfl)
        · try simp (disch := omega) only [zcond, nI_ltI, nI_leI, nI_eq, zb0, Classical.not_not, Bool.not_eq_false, Bool.not_eq_true, Nat.not_lt, Nat.not_le] at h46
          refine ev_const (v := nI 1) dR_opens_49 (by decide) ?_
          refine ev_goto (tgt := 54) dR_opens_50 (by decide) ?_
          refine ev_ret dR_opens_54 rfl rfl ?_
          have hq := @pS_iff nT mk s c
          rcases Nat.lt_or_ge dp 12 with hd | hd
          · have hd2 : ¬ 12 ≤ dp := by omega
            first | (exfalso; omega) | (exfalso; simp_all; done) | skip
            all_goals constructor
            all_goals first | (simp_all [pOb]; done) | (simp_all [pOs]; done) | (simp_all [pOb]; rfl) | (simp_all [pOs]; rw [if_neg (by omega)]) | (simp_all [pOb]; rw [show decide (dp < 12) = false from decide_eq_false (by omega)]; rfl)
          · have hd2 : ¬ dp < 12 := by omega
            first | (exfalso; omega) | (exfalso; simp_all; done) | skip
            all_goals constructor
            all_goals first | (simp_all [pOb]; done) | (simp_all [pOs]; done) | (simp_all [pOb]; rfl) | (simp_all [pOs]; rw [if_neg (by omega)]) | (simp_all [pOb]; rw [show decide (dp < 12) = false from decide_eq_false (by omega)]; rfl)
  · try simp (disch := omega) only [zcond, nI_ltI, nI_leI, nI_eq, zb0, Classical.not_not, Bool.not_eq_false, Bool.not_eq_true, Nat.not_lt, Nat.not_le] at h7
    refine ev_il dR_opens_10 rfl (by first | assumption | rfl) ?_
    refine ev_const (v := nI 12) dR_opens_11 (by decide) ?_
    refine ev_icmp (tgt := 24) dR_opens_13 (by decide) (fun h13 => ?_) (fun h13 => ?_)
    · try simp (disch := omega) only [zcond, nI_ltI, nI_leI, nI_eq, zb0, Classical.not_not, Bool.not_eq_false, Bool.not_eq_true, Nat.not_lt, Nat.not_le] at h13
      refine ev_il dR_opens_24 rfl (by first | assumption | rfl) ?_
      refine ev_if0 (tgt := 38) dR_opens_25 (by decide) (fun h25 => ?_) (fun h25 => ?_)
      · try simp (disch := omega) only [zcond, nI_ltI, nI_leI, nI_eq, zb0, Classical.not_not, Bool.not_eq_false, Bool.not_eq_true, Nat.not_lt, Nat.not_le] at h25
        try rw [mE_N]
        refine ev_il dR_opens_38 rfl (by first | assumption | rfl) ?_
        refine ev_if0 (tgt := 53) dR_opens_39 (by decide) (fun h39 => ?_) (fun h39 => ?_)
        · try simp (disch := omega) only [zcond, nI_ltI, nI_leI, nI_eq, zb0, Classical.not_not, Bool.not_eq_false, Bool.not_eq_true, Nat.not_lt, Nat.not_le] at h39
          refine ev_const (v := nI 0) dR_opens_53 (by decide) ?_
          refine ev_ret dR_opens_54 rfl rfl ?_
          have hq := @pS_iff nT mk s c
          rcases Nat.lt_or_ge dp 12 with hd | hd
          · have hd2 : ¬ 12 ≤ dp := by omega
            first | (exfalso; omega) | (exfalso; simp_all; done) | skip
            all_goals constructor
            all_goals first | (simp_all [pOb]; done) | (simp_all [pOs]; done) | (simp_all [pOb]; rfl) | (simp_all [pOs]; rw [if_neg (by omega)]) | (simp_all [pOb]; rw [show decide (dp < 12) = false from decide_eq_false (by omega)]; rfl)
          · have hd2 : ¬ dp < 12 := by omega
            first | (exfalso; omega) | (exfalso; simp_all; done) | skip
            all_goals constructor
            all_goals first | (simp_all [pOb]; done) | (simp_all [pOs]; done) | (simp_all [pOb]; rfl) | (simp_all [pOs]; rw [if_neg (by omega)]) | (simp_all [pOb]; rw [show decide (dp < 12) = false from decide_eq_false (by omega)]; rfl)
        · try simp (disch := omega) only [zcond, nI_ltI, nI_leI, nI_eq, zb0, Classical.not_not, Bool.not_eq_false, Bool.not_eq_true, Nat.not_lt, Nat.not_le] at h39
          refine ev_al dR_opens_42 rfl (by first | assumption | rfl) ?_
          refine ev_geti dR_opens_43 fR_29 (sh_R hr) ?_
          rw [mE_s]
          refine ev_if0 (tgt := 53) dR_opens_46 (by decide) (fun h46 => ?_) (fun h46 => ?_)
          · try simp (disch := omega) only [zcond, nI_ltI, nI_leI, nI_eq, zb0, Classical.not_not, Bool.not_eq_false, Bool.not_eq_true, Nat.not_lt, Nat.not_le] at h46
            refine ev_const (v := nI 0) dR_opens_53 (by decide) ?_
            refine ev_ret dR_opens_54 rfl rfl ?_
            have hq := @pS_iff nT mk s c
            rcases Nat.lt_or_ge dp 12 with hd | hd
            · have hd2 : ¬ 12 ≤ dp := by omega
              first | (exfalso; omega) | (exfalso; simp_all; done) | skip
              all_goals constructor
              all_goals first | (simp_all [pOb]; done) | (simp_all [pOs]; done) | (simp_all [pOb]; rfl) | (simp_all [pOs]; rw [if_neg (by omega)]) | (simp_all [pOb]; rw [show decide (dp < 12) = false from decide_eq_false (by omega)]; rfl)
            · have hd2 : ¬ dp < 12 := by omega
              first | (exfalso; omega) | (exfalso; simp_all; done) | skip
              all_goals constructor
              all_goals first | (simp_all [pOb]; done) | (simp_all [pOs]; done) | (simp_all [pOb]; rfl) | (simp_all [pOs]; rw [if_neg (by omega)]) | (simp_all [pOb]; rw [show decide (dp < 12) = false from decide_eq_false (by omega)]; rfl)
          · try simp (disch := omega) only [zcond, nI_ltI, nI_leI, nI_eq, zb0, Classical.not_not, Bool.not_eq_false, Bool.not_eq_true, Nat.not_lt, Nat.not_le] at h46
            refine ev_const (v := nI 1) dR_opens_49 (by decide) ?_
            refine ev_goto (tgt := 54) dR_opens_50 (by decide) ?_
            refine ev_ret dR_opens_54 rfl rfl ?_
            have hq := @pS_iff nT mk s c
            rcases Nat.lt_or_ge dp 12 with hd | hd
            · have hd2 : ¬ 12 ≤ dp := by omega
              first | (exfalso; omega) | (exfalso; simp_all; done) | skip
              all_goals constructor
              all_goals first | (simp_all [pOb]; done) | (simp_all [pOs]; done) | (simp_all [pOb]; rfl) | (simp_all [pOs]; rw [if_neg (by omega)]) | (simp_all [pOb]; rw [show decide (dp < 12) = false from decide_eq_false (by omega)]; rfl)
            · have hd2 : ¬ dp < 12 := by omega
              first | (exfalso; omega) | (exfalso; simp_all; done) | skip
              all_goals constructor
              all_goals first | (simp_all [pOb]; done) | (simp_all [pOs]; done) | (simp_all [pOb]; rfl) | (simp_all [pOs]; rw [if_neg (by omega)]) | (simp_all [pOb]; rw [show decide (dp < 12) = false from decide_eq_false (by omega)]; rfl)
      · try simp (disch := omega) only [zcond, nI_ltI, nI_leI, nI_eq, zb0, Classical.not_not, Bool.not_eq_false, Bool.not_eq_true, Nat.not_lt, Nat.not_le] at h25
        refine ev_al dR_opens_28 rfl (by first | assumption | rfl) ?_
        refine ev_stk dR_opens_29 rfl ?_
        refine ev_geti dR_opens_30 fR_25 (sh_R hr) ?_
        rw [mE_n]
        refine ev_const (v := nI 1) dR_opens_33 (by decide) ?_
        first | with_reducible refine ev_addN dR_opens_34 ?_ | refine ev_add dR_opens_34 ?_
        refine ev_puti dR_opens_35 fR_25 fwR_next (sh_R hr) (vp_nar_int _) rfl ?_
        try rw [mE_N]
        refine ev_il dR_opens_38 rfl (by first | assumption | rfl) ?_
        refine ev_if0 (tgt := 53) dR_opens_39 (by decide) (fun h39 => ?_) (fun h39 => ?_)
        · try simp (disch := omega) only [zcond, nI_ltI, nI_leI, nI_eq, zb0, Classical.not_not, Bool.not_eq_false, Bool.not_eq_true, Nat.not_lt, Nat.not_le] at h39
          refine ev_const (v := nI 0) dR_opens_53 (by decide) ?_
          refine ev_ret dR_opens_54 rfl rfl ?_
          have hq := @pS_iff nT mk s c
          rcases Nat.lt_or_ge dp 12 with hd | hd
          · have hd2 : ¬ 12 ≤ dp := by omega
            first | (exfalso; omega) | (exfalso; simp_all; done) | skip
            all_goals constructor
            all_goals first | (simp_all [pOb]; done) | (simp_all [pOs]; done) | (simp_all [pOb]; rfl) | (simp_all [pOs]; rw [if_neg (by omega)]) | (simp_all [pOb]; rw [show decide (dp < 12) = false from decide_eq_false (by omega)]; rfl)
          · have hd2 : ¬ dp < 12 := by omega
            first | (exfalso; omega) | (exfalso; simp_all; done) | skip
            all_goals constructor
            all_goals first | (simp_all [pOb]; done) | (simp_all [pOs]; done) | (simp_all [pOb]; rfl) | (simp_all [pOs]; rw [if_neg (by omega)]) | (simp_all [pOb]; rw [show decide (dp < 12) = false from decide_eq_false (by omega)]; rfl)
        · try simp (disch := omega) only [zcond, nI_ltI, nI_leI, nI_eq, zb0, Classical.not_not, Bool.not_eq_false, Bool.not_eq_true, Nat.not_lt, Nat.not_le] at h39
          refine ev_al dR_opens_42 rfl (by first | assumption | rfl) ?_
          refine ev_geti dR_opens_43 fR_29 (sh_R hr) ?_
          rw [mE_s]
          refine ev_if0 (tgt := 53) dR_opens_46 (by decide) (fun h46 => ?_) (fun h46 => ?_)
          · try simp (disch := omega) only [zcond, nI_ltI, nI_leI, nI_eq, zb0, Classical.not_not, Bool.not_eq_false, Bool.not_eq_true, Nat.not_lt, Nat.not_le] at h46
            refine ev_const (v := nI 0) dR_opens_53 (by decide) ?_
            refine ev_ret dR_opens_54 rfl rfl ?_
            have hq := @pS_iff nT mk s c
            rcases Nat.lt_or_ge dp 12 with hd | hd
            · have hd2 : ¬ 12 ≤ dp := by omega
              first | (exfalso; omega) | (exfalso; simp_all; done) | skip
              all_goals constructor
              all_goals first | (simp_all [pOb]; done) | (simp_all [pOs]; done) | (simp_all [pOb]; rfl) | (simp_all [pOs]; rw [if_neg (by omega)]) | (simp_all [pOb]; rw [show decide (dp < 12) = false from decide_eq_false (by omega)]; rfl)
            · have hd2 : ¬ dp < 12 := by omega
              first | (exfalso; omega) | (exfalso; simp_all; done) | skip
              all_goals constructor
              all_goals first | (simp_all [pOb]; done) | (simp_all [pOs]; done) | (simp_all [pOb]; rfl) | (simp_all [pOs]; rw [if_neg (by omega)]) | (simp_all [pOb]; rw [show decide (dp < 12) = false from decide_eq_false (by omega)]; rfl)
          · try simp (disch := omega) only [zcond, nI_ltI, nI_leI, nI_eq, zb0, Classical.not_not, Bool.not_eq_false, Bool.not_eq_true, Nat.not_lt, Nat.not_le] at h46
            refine ev_const (v := nI 1) dR_opens_49 (by decide) ?_
            refine ev_goto (tgt := 54) dR_opens_50 (by decide) ?_
            refine ev_ret dR_opens_54 rfl rfl ?_
            have hq := @pS_iff nT mk s c
            rcases Nat.lt_or_ge dp 12 with hd | hd
            · have hd2 : ¬ 12 ≤ dp := by omega
              first | (exfalso; omega) | (exfalso; simp_all; done) | skip
              all_goals constructor
              all_goals first | (simp_all [pOb]; done) | (simp_all [pOs]; done) | (simp_all [pOb]; rfl) | (simp_all [pOs]; rw [if_neg (by omega)]) | (simp_all [pOb]; rw [show decide (dp < 12) = false from decide_eq_false (by omega)]; rfl)
            · have hd2 : ¬ dp < 12 := by omega
              first | (exfalso; omega) | (exfalso; simp_all; done) | skip
              all_goals constructor
              all_goals first | (simp_all [pOb]; done) | (simp_all [pOs]; done) | (simp_all [pOb]; rfl) | (simp_all [pOs]; rw [if_neg (by omega)]) | (simp_all [pOb]; rw [show decide (dp < 12) = false from decide_eq_false (by omega)]; rfl)
    · try simp (disch := omega) only [zcond, nI_ltI, nI_leI, nI_eq, zb0, Classical.not_not, Bool.not_eq_false, Bool.not_eq_true, Nat.not_lt, Nat.not_le] at h13
      refine ev_al dR_opens_16 rfl (by first | assumption | rfl) ?_
      refine ev_const (v := nI 1) dR_opens_17 (by decide) ?_
      refine ev_puti dR_opens_18 fR_29 fwR_stopped (sh_R hr) rfl rfl ?_
      rw [mE_S1]
      refine ev_goto (tgt := 38) dR_opens_21 (by decide) ?_
      try rw [mE_N]
      refine ev_il dR_opens_38 rfl (by first | assumption | rfl) ?_
      refine ev_if0 (tgt := 53) dR_opens_39 (by decide) (fun h39 => ?_) (fun h39 => ?_)
      · try simp (disch := omega) only [zcond, nI_ltI, nI_leI, nI_eq, zb0, Classical.not_not, Bool.not_eq_false, Bool.not_eq_true, Nat.not_lt, Nat.not_le] at h39
        refine ev_const (v := nI 0) dR_opens_53 (by decide) ?_
        refine ev_ret dR_opens_54 rfl rfl ?_
        have hq := @pS_iff nT mk s c
        rcases Nat.lt_or_ge dp 12 with hd | hd
        · have hd2 : ¬ 12 ≤ dp := by omega
          first | (exfalso; omega) | (exfalso; simp_all; done) | skip
          all_goals constructor
          all_goals first | (simp_all [pOb]; done) | (simp_all [pOs]; done) | (simp_all [pOb]; rfl) | (simp_all [pOs]; rw [if_neg (by omega)]) | (simp_all [pOb]; rw [show decide (dp < 12) = false from decide_eq_false (by omega)]; rfl)
        · have hd2 : ¬ dp < 12 := by omega
          first | (exfalso; omega) | (exfalso; simp_all; done) | skip
          all_goals constructor
          all_goals first | (simp_all [pOb]; done) | (simp_all [pOs]; done) | (simp_all [pOb]; rfl) | (simp_all [pOs]; rw [if_neg (by omega)]) | (simp_all [pOb]; rw [show decide (dp < 12) = false from decide_eq_false (by omega)]; rfl)
      · try simp (disch := omega) only [zcond, nI_ltI, nI_leI, nI_eq, zb0, Classical.not_not, Bool.not_eq_false, Bool.not_eq_true, Nat.not_lt, Nat.not_le] at h39
        refine ev_al dR_opens_42 rfl (by first | assumption | rfl) ?_
        refine ev_geti dR_opens_43 fR_29 (sh_R hr) ?_
        rw [mE_s]
        refine ev_if0 (tgt := 53) dR_opens_46 (by decide) (fun h46 => ?_) (fun h46 => ?_)
        · try simp (disch := omega) only [zcond, nI_ltI, nI_leI, nI_eq, zb0, Classical.not_not, Bool.not_eq_false, Bool.not_eq_true, Nat.not_lt, Nat.not_le] at h46
          refine ev_const (v := nI 0) dR_opens_53 (by decide) ?_
          refine ev_ret dR_opens_54 rfl rfl ?_
          have hq := @pS_iff nT mk s c
          rcases Nat.lt_or_ge dp 12 with hd | hd
          · have hd2 : ¬ 12 ≤ dp := by omega
            first | (exfalso; omega) | (exfalso; simp_all; done) | skip
            all_goals constructor
            all_goals first | (simp_all [pOb]; done) | (simp_all [pOs]; done) | (simp_all [pOb]; rfl) | (simp_all [pOs]; rw [if_neg (by omega)]) | (simp_all [pOb]; rw [show decide (dp < 12) = false from decide_eq_false (by omega)]; rfl)
          · have hd2 : ¬ dp < 12 := by omega
            first | (exfalso; omega) | (exfalso; simp_all; done) | skip
            all_goals constructor
            all_goals first | (simp_all [pOb]; done) | (simp_all [pOs]; done) | (simp_all [pOb]; rfl) | (simp_all [pOs]; rw [if_neg (by omega)]) | (simp_all [pOb]; rw [show decide (dp < 12) = false from decide_eq_false (by omega)]; rfl)
        · try simp (disch := omega) only [zcond, nI_ltI, nI_leI, nI_eq, zb0, Classical.not_not, Bool.not_eq_false, Bool.not_eq_true, Nat.not_lt, Nat.not_le] at h46
          refine ev_const (v := nI 1) dR_opens_49 (by decide) ?_
          refine ev_goto (tgt := 54) dR_opens_50 (by decide) ?_
          refine ev_ret dR_opens_54 rfl rfl ?_
          have hq := @pS_iff nT mk s c
          rcases Nat.lt_or_ge dp 12 with hd | hd
          · have hd2 : ¬ 12 ≤ dp := by omega
            first | (exfalso; omega) | (exfalso; simp_all; done) | skip
            all_goals constructor
            all_goals first | (simp_all [pOb]; done) | (simp_all [pOs]; done) | (simp_all [pOb]; rfl) | (simp_all [pOs]; rw [if_neg (by omega)]) | (simp_all [pOb]; rw [show decide (dp < 12) = false from decide_eq_false (by omega)]; rfl)
          · have hd2 : ¬ dp < 12 := by omega
            first | (exfalso; omega) | (exfalso; simp_all; done) | skip
            all_goals constructor
            all_goals first | (simp_all [pOb]; done) | (simp_all [pOs]; done) | (simp_all [pOb]; rfl) | (simp_all [pOs]; rw [if_neg (by omega)]) | (simp_all [pOb]; rw [show decide (dp < 12) = false from decide_eq_false (by omega)]; rfl)
end
end
section
/- Reading: sums, factors, calls (rows laid by program) -/
def pNeed (nT tag : Nat) (s : pE) : Nat := 5 * (nT - s.1) + (if tag = 0 then 3 else if tag = 1 then 2 else if tag = 2 then 2 else 1)
theorem pOb_2 {nT : Nat} {mk : Nat → Nat} {s : pE} {c c' dp : Nat} (h : pOb nT mk s c dp = false) (h' : pOb nT mk (pOs nT mk s c dp) c' dp = true) : pS nT mk s c = false ∧ pOs nT mk s c dp = s := by
  have hq := pOb_t h'
  have h1 : pS nT mk s c = false := by
    cases hc : pS nT mk s c with
    | false => rfl
    | true =>
      have : pOb nT mk s c dp = true := by unfold pOb; rw [hc]; simp; omega
      rw [this] at h; cases h
  refine ⟨h1, ?_⟩
  unfold pOs
  rw [if_neg (by rw [h1]; decide)]
theorem pOb_f {nT : Nat} {mk : Nat → Nat} {s : pE} {c dp : Nat} (h : pOb nT mk s c dp = false) : pS nT mk s c = false ∨ 12 ≤ dp := by
  cases hc : pS nT mk s c with
  | false => exact Or.inl rfl
  | true => right; unfold pOb at h; rw [hc] at h; simp at h; exact h
section
variable {nT : Nat} {mk : Nat → Nat} {tv : Nat → Int32} {sl : Nat → Nat} {nv : Nat → Int32} {f dp : Nat} {a b : Int32} {s : pE}
theorem pr3_mul (h0 : s.2 = false) (h1 : pS nT mk s 42 = true) : pr nT mk tv sl nv (f + 1) 3 dp 0 a b s = pr nT mk tv sl nv f 3 dp 0 a (b * (pr nT mk tv sl nv f 1 dp 0 0 0 (s.1 + 1, s.2)).2) (pr nT mk tv sl nv f 1 dp 0 0 0 (s.1 + 1, s.2)).1 := by
  rw [pr, if_neg (by rw [h0]; decide), if_pos h1]
theorem pr3_add (h0 : s.2 = false) (h1 : pS nT mk s 42 = false) (h2 : pS nT mk s 43 = true) : pr nT mk tv sl nv (f + 1) 3 dp 0 a b s = pr nT mk tv sl nv f 3 dp 0 (a + b) (pr nT mk tv sl nv f 1 dp 0 0 0 (s.1 + 1, s.2)).2 (pr nT mk tv sl nv f 1 dp 0 0 0 (s.1 + 1, s.2)).1 := by
  rw [pr, if_neg (by rw [h0]; decide), if_neg (by rw [h1]; decide), if_pos h2]
theorem pr3_sub (h0 : s.2 = false) (h1 : pS nT mk s 42 = false) (h2 : pS nT mk s 43 = false) (h3 : pS nT mk s 45 = true) : pr nT mk tv sl nv (f + 1) 3 dp 0 a b s = pr nT mk tv sl nv f 3 dp 0 (a + b) (nI 0 - (pr nT mk tv sl nv f 1 dp 0 0 0 (s.1 + 1, s.2)).2) (pr nT mk tv sl nv f 1 dp 0 0 0 (s.1 + 1, s.2)).1 := by
  rw [pr, if_neg (by rw [h0]; decide), if_neg (by rw [h1]; decide), if_neg (by rw [h2]; decide), if_pos h3]
end
/-- what one expression's reading needs of the memory -/
def xOk (Lx : Nat) (xs : Nat → Int32) (M : zM) (n b r nT : Nat) (mk : Nat → Nat) (tv : Nat → Int32) (sl : Nat → Nat) (nv : Nat → Int32) : Prop :=
  M.2.1 = zP0 n b ∧ zR r ∧ Mks M r nT mk ∧ (∀ d k s, k < nT → Pu Lx xs (d + 1) mS_lengthOf [.ref (r + 1), .int (nI k)] (mE M r s) (nI (sl k))) ∧ (∀ d k s, k < nT → mk k = 48 → Pu Lx xs (d + 2) mS_digitsValue [.ref (r + 1), .int (nI k)] (mE M r s) (tv k)) ∧ (∀ d k s, k < nT → mk k = 97 → Pu Lx xs (d + 3) mR_namedValue [.ref r, .int (nI k)] (mE M r s) (nv k))
section
variable {Lx : Nat} {xs : Nat → Int32} {M : zM} {n b r nT : Nat} {mk : Nat → Nat} {tv : Nat → Int32} {sl : Nat → Nat} {nv : Nat → Int32}
def xSum (Lx : Nat) (xs : Nat → Int32) (M : zM) (r nT : Nat) (mk : Nat → Nat) (tv : Nat → Int32) (sl : Nat → Nat) (nv : Nat → Int32) (f : Nat) : Prop := ∀ (D dp : Nat) (s : pE), f + 6 ≤ D → dp ≤ 12 → s.1 ≤ nT → pNeed nT 0 s < f → Ct Lx xs D mR_readSum [.ref r, .int (nI dp)] (mE M r s) (fun q M' => q = some (pr nT mk tv sl nv f 0 dp 0 0 0 s).2 ∧ M' = mE M r (pr nT mk tv sl nv f 0 dp 0 0 0 s).1)
def xFac (Lx : Nat) (xs : Nat → Int32) (M : zM) (r nT : Nat) (mk : Nat → Nat) (tv : Nat → Int32) (sl : Nat → Nat) (nv : Nat → Int32) (f : Nat) : Prop := ∀ (D dp : Nat) (s : pE), f + 6 ≤ D → dp ≤ 12 → s.1 ≤ nT → pNeed nT 1 s < f → Ct Lx xs D mR_readFactor [.ref r, .int (nI dp)] (mE M r s) (fun q M' => q = some (pr nT mk tv sl nv f 1 dp 0 0 0 s).2 ∧ M' = mE M r (pr nT mk tv sl nv f 1 dp 0 0 0 s).1)
def xCal (Lx : Nat) (xs : Nat → Int32) (M : zM) (r nT : Nat) (mk : Nat → Nat) (tv : Nat → Int32) (sl : Nat → Nat) (nv : Nat → Int32) (f : Nat) : Prop := ∀ (D dp nm : Nat) (s : pE), f + 6 ≤ D → dp ≤ 12 → nm < nT → s.1 ≤ nT → pNeed nT 2 s < f → Ct Lx xs D mR_readCall [.ref r, .int (nI nm), .int (nI dp)] (mE M r s) (fun q M' => q = some (pr nT mk tv sl nv f 2 dp nm 0 0 s).2 ∧ M' = mE M r (pr nT mk tv sl nv f 2 dp nm 0 0 s).1)
def xL3 (Lx : Nat) (xs : Nat → Int32) (M : zM) (r nT : Nat) (mk : Nat → Nat) (tv : Nat → Int32) (sl : Nat → Nat) (nv : Nat → Int32) (f : Nat) : Prop := ∀ (D dp N : Nat) (a b : Int32) (s : pE) (L : Nat → Value) (R : Option Int32 → zM → Prop), f + 6 ≤ D → dp ≤ 12 → s.1 ≤ nT → pNeed nT 3 s < f → N ≤ 160 → (s.2 = false → N ≤ s.1) → L 0 = .ref r → L 1 = .int (nI dp) → L 2 = .int a → L 3 = .int b → L 4 = .int (nI N) → R (some (pr nT mk tv sl nv f 3 dp 0 a b s).2) (mE M r (pr nT mk tv sl nv f 3 dp 0 a b s).1) → Ev Lx xs D mR_readSum 11 L [] (mE M r s) (zpost mR_readSum R)
def xL4 (Lx : Nat) (xs : Nat → Int32) (M : zM) (r nT : Nat) (mk : Nat → Nat) (tv : Nat → Int32) (sl : Nat → Nat) (nv : Nat → Int32) (f : Nat) : Prop := ∀ (D dp N : Nat) (a : Int32) (s : pE) (L : Nat → Value) (R : Option Int32 → zM → Prop), f + 6 ≤ D → dp < 12 → s.1 ≤ nT → pNeed nT 4 s < f → N ≤ 160 → (s.2 = false → N ≤ s.1) → L 0 = .ref r → L 2 = .int (nI dp) → L 3 = .int a → L 4 = .int (nI N) → R (some (pr nT mk tv sl nv f 4 dp 0 a 0 s).2) (mE M r (pr nT mk tv sl nv f 4 dp 0 a 0 s).1) → Ev Lx xs D mR_readCall 53 L [] (mE M r s) (zpost mR_readCall R)
set_option maxRecDepth 100000 in
set_option maxHeartbeats 4000000 in
theorem x_fac (hx : xOk Lx xs M n b r nT mk tv sl nv) {f : Nat} (ihS : xSum Lx xs M r nT mk tv sl nv f) (ihF : xFac Lx xs M r nT mk tv sl nv f) (ihC : xCal Lx xs M r nT mk tv sl nv f) : xFac Lx xs M r nT mk tv sl nv (f + 1) := by
  obtain ⟨hP, hr, hE, hsl, htv, hnv⟩ := hx
  have hnT := hE.2.1
  intro D dp s hD hdp hs hn
  obtain ⟨D0, rfl⟩ : ∃ D0, D = D0 + 7 := ⟨D - 7, by omega⟩
  unfold Ct
  refine ev_al dR_readFactor_0 rfl (by first | assumption | rfl) ?_
  refine ev_geti dR_readFactor_1 fR_25 (sh_R hr) ?_
  rw [mE_n]
  refine ev_is dR_readFactor_4 rfl (Nat.le_of_ble_eq_true rfl) ?_
  refine ev_al dR_readFactor_5 rfl (by first | assumption | rfl) ?_
  refine ev_const (v := nI 48) dR_readFactor_6 (by decide) ?_
  refine ev_cV dR_readFactor_8 (c_takes hP hr hE (by omega) (by decide)) lR_73 (rec_R hr) rfl (Nat.le_of_ble_eq_true rfl) rfl (Nat.le_of_ble_eq_true rfl) (fun q M1 hq => ?_)
  obtain ⟨rfl, rfl⟩ := hq
  refine ev_if0 (tgt := 23) dR_readFactor_11 (by decide) (fun h11 => ?_) (fun h11 => ?_)
  · try simp (disch := omega) only [zcond, nI_ltI, nI_leI, nI_eq, zb0, Classical.not_not, Bool.not_eq_false, Bool.not_eq_true, Nat.not_lt, Nat.not_le] at h11
    first | rw [pT_t h11] | rw [pT_f h11]
    try obtain ⟨hu11, hlt11, hmk11⟩ := pS_iff.mp h11
    refine ev_al dR_readFactor_23 rfl (by first | assumption | rfl) ?_
    refine ev_const (v := nI 34) dR_readFactor_24 (by decide) ?_
    refine ev_cV dR_readFactor_26 (c_takes hP hr hE (by omega) (by decide)) lR_73 (rec_R hr) rfl (Nat.le_of_ble_eq_true rfl) rfl (Nat.le_of_ble_eq_true rfl) (fun q M1 hq => ?_)
    obtain ⟨rfl, rfl⟩ := hq
    refine ev_if0 (tgt := 43) dR_readFactor_29 (by decide) (fun h29 => ?_) (fun h29 => ?_)
    · try simp (disch := omega) only [zcond, nI_ltI, nI_leI, nI_eq, zb0, Classical.not_not, Bool.not_eq_false, Bool.not_eq_true, Nat.not_lt, Nat.not_le] at h29
      first | rw [pT_t h29] | rw [pT_f h29]
      try obtain ⟨hu29, hlt29, hmk29⟩ := pS_iff.mp h29
      refine ev_al dR_readFactor_43 rfl (by first | assumption | rfl) ?_
      refine ev_const (v := nI 97) dR_readFactor_44 (by decide) ?_
      refine ev_cV dR_readFactor_46 (c_takes hP hr hE (by omega) (by decide)) lR_73 (rec_R hr) rfl (Nat.le_of_ble_eq_true rfl) rfl (Nat.le_of_ble_eq_true rfl) (fun q M1 hq => ?_)
      obtain ⟨rfl, rfl⟩ := hq
      refine ev_if0 (tgt := 76) dR_readFactor_49 (by decide) (fun h49 => ?_) (fun h49 => ?_)
      · try simp (disch := omega) only [zcond, nI_ltI, nI_leI, nI_eq, zb0, Classical.not_not, Bool.not_eq_false, Bool.not_eq_true, Nat.not_lt, Nat.not_le] at h49
        first | rw [pT_t h49] | rw [pT_f h49]
        try obtain ⟨hu49, hlt49, hmk49⟩ := pS_iff.mp h49
        refine ev_al dR_readFactor_76 rfl (by first | assumption | rfl) ?_
        refine ev_const (v := nI 45) dR_readFactor_77 (by decide) ?_
        refine ev_il dR_readFactor_79 rfl (by first | assumption | rfl) ?_
        refine ev_cV dR_readFactor_80 (c_opens hP hr hE (by omega) (by decide) (by omega)) lR_86 (rec_R hr) rfl (Nat.le_of_ble_eq_true rfl) rfl (Nat.le_of_ble_eq_true rfl) (fun q M1 hq => ?_)
        obtain ⟨rfl, rfl⟩ := hq
        refine ev_if0 (tgt := 96) dR_readFactor_83 (by decide) (fun h83 => ?_) (fun h83 => ?_)
        · try simp (disch := omega) only [zcond, nI_ltI, nI_leI, nI_eq, zb0, Classical.not_not, Bool.not_eq_false, Bool.not_eq_true, Nat.not_lt, Nat.not_le] at h83
          refine ev_al dR_readFactor_96 rfl (by first | assumption | rfl) ?_
          refine ev_const (v := nI 40) dR_readFactor_97 (by decide) ?_
          refine ev_il dR_readFactor_99 rfl (by first | assumption | rfl) ?_
          refine ev_cV dR_readFactor_100 (c_opens (s := pOs nT mk s 45 dp) hP hr hE (by rw [pOs_f h83]; omega) (by decide) (by omega)) lR_86 (rec_R hr) rfl (Nat.le_of_ble_eq_true rfl) rfl (Nat.le_of_ble_eq_true rfl) (fun q M1 hq => ?_)
          obtain ⟨rfl, rfl⟩ := hq
          refine ev_if0 (tgt := 122) dR_readFactor_103 (by decide) (fun h103 => ?_) (fun h103 => ?_)
          · try simp (disch := omega) only [zcond, nI_ltI, nI_leI, nI_eq, zb0, Classical.not_not, Bool.not_eq_false, Bool.not_eq_true, Nat.not_lt, Nat.not_le] at h103
            refine ev_al dR_readFactor_122 rfl (by first | assumption | rfl) ?_
            refine ev_const (v := nI 1) dR_readFactor_123 (by decide) ?_
            refine ev_puti dR_readFactor_124 fR_29 fwR_stopped (sh_R hr) rfl rfl ?_
            rw [mE_S1, pOs_f h103, pOs_f h83]
            refine ev_const (v := nI 0) dR_readFactor_127 (by decide) ?_
            refine ev_ret dR_readFactor_128 rfl rfl ?_
            rw [show pr nT mk tv sl nv (f + 1) 1 dp 0 0 0 s = ((s.1, true), nI 0) by
              rcases pOb_f h83 with h45 | h12
              · have e : pOs nT mk s 45 dp = s := if_neg (by rw [h45]; decide)
                rw [e] at h103
                rcases pOb_f h103 with h40 | h12
                · simp [pr, h11, h29, h49, h45, h40]
                · simp [pr, h11, h29, h49, h45, h12]
              · simp [pr, h11, h29, h49, h12]]
            exact ⟨rfl, rfl⟩
          · try simp (disch := omega) only [zcond, nI_ltI, nI_leI, nI_eq, zb0, Classical.not_not, Bool.not_eq_false, Bool.not_eq_true, Nat.not_lt, Nat.not_le] at h103
            obtain ⟨h45, e45⟩ := pOb_2 h83 h103
            rw [e45] at h103 ⊢
            obtain ⟨ho1, ho2, ho3⟩ := pOb_t h103
            rw [ho3]
            obtain ⟨hu103, hlt103, hmk103⟩ := pS_iff.mp ho1
            refine ev_al dR_readFactor_106 rfl (by first | assumption | rfl) ?_
            refine ev_il dR_readFactor_107 rfl (by first | assumption | rfl) ?_
            refine ev_const (v := nI 1) dR_readFactor_108 (by decide) ?_
            first | with_reducible refine ev_addN dR_readFactor_109 ?_ | refine ev_add dR_readFactor_109 ?_
            refine ev_cV dR_readFactor_110 (ihS (D0 + 6) (dp + 1) (s.1 + 1, s.2) (by omega) (by omega) hlt103 (by simp [pNeed] at hn ⊢; omega)) lR_76 (rec_R hr) rfl (Nat.le_of_ble_eq_true rfl) rfl (Nat.le_of_ble_eq_true rfl) (fun q M1 hq => ?_)
            obtain ⟨rfl, rfl⟩ := hq
            refine ev_is dR_readFactor_113 rfl (Nat.le_of_ble_eq_true rfl) ?_
            refine ev_al dR_readFactor_114 rfl (by first | assumption | rfl) ?_
            refine ev_const (v := nI 41) dR_readFactor_115 (by decide) ?_
            refine ev_cV dR_readFactor_117 (c_needs hP hr hE (Nat.lt_of_le_of_lt ((pr_ok _ _ _ _ _ _ _).2.1 hlt103) (by omega)) (by decide)) lR_69 (rec_R hr) rfl (Nat.le_of_ble_eq_true rfl) rfl (Nat.le_of_ble_eq_true rfl) (fun q M1 hq => ?_)
            obtain ⟨rfl, rfl⟩ := hq
            refine ev_il dR_readFactor_120 rfl (by first | assumption | rfl) ?_
            refine ev_ret dR_readFactor_121 rfl rfl ?_
            have h12 : ¬ 12 ≤ dp := by omega
            constructor <;> simp [pr, h11, h29, h49, h45, ho1, h12]
        · try simp (disch := omega) only [zcond, nI_ltI, nI_leI, nI_eq, zb0, Classical.not_not, Bool.not_eq_false, Bool.not_eq_true, Nat.not_lt, Nat.not_le] at h83
          obtain ⟨ho1, ho2, ho3⟩ := pOb_t h83
          rw [ho3]
          obtain ⟨hu83, hlt83, hmk83⟩ := pS_iff.mp ho1
          refine ev_const (v := nI 0) dR_readFactor_86 (by decide) ?_
          refine ev_al dR_readFactor_87 rfl (by first | assumption | rfl) ?_
          refine ev_il dR_readFactor_88 rfl (by first | assumption | rfl) ?_
          refine ev_const (v := nI 1) dR_readFactor_89 (by decide) ?_
          first | with_reducible refine ev_addN dR_readFactor_90 ?_ | refine ev_add dR_readFactor_90 ?_
          refine ev_cV dR_readFactor_91 (ihF (D0 + 6) (dp + 1) (s.1 + 1, s.2) (by omega) (by omega) hlt83 (by simp [pNeed] at hn ⊢; omega)) lR_90 (rec_R hr) rfl (Nat.le_of_ble_eq_true rfl) rfl (Nat.le_of_ble_eq_true rfl) (fun q M1 hq => ?_)
          obtain ⟨rfl, rfl⟩ := hq
          refine ev_sub dR_readFactor_94 ?_
          refine ev_ret dR_readFactor_95 rfl rfl ?_
          have h12 : ¬ 12 ≤ dp := by omega
          constructor <;> simp [pr, h11, h29, h49, ho1, h12]
      · try simp (disch := omega) only [zcond, nI_ltI, nI_leI, nI_eq, zb0, Classical.not_not, Bool.not_eq_false, Bool.not_eq_true, Nat.not_lt, Nat.not_le] at h49
        first | rw [pT_t h49] | rw [pT_f h49]
        try obtain ⟨hu49, hlt49, hmk49⟩ := pS_iff.mp h49
        refine ev_al dR_readFactor_52 rfl (by first | assumption | rfl) ?_
        refine ev_const (v := nI 40) dR_readFactor_53 (by decide) ?_
        refine ev_pV dR_readFactor_55 (c_sees (s := (s.1 + 1, s.2)) hP hr hE (show s.1 + 1 < 2 ^ 31 by omega) (by decide)) lR_52 (rec_R hr) rfl (Nat.le_of_ble_eq_true rfl) rfl (Nat.le_of_ble_eq_true rfl) ?_
        refine ev_if0 (tgt := 70) dR_readFactor_58 (by decide) (fun h58 => ?_) (fun h58 => ?_)
        · try simp (disch := omega) only [zcond, nI_ltI, nI_leI, nI_eq, zb0, Classical.not_not, Bool.not_eq_false, Bool.not_eq_true, Nat.not_lt, Nat.not_le] at h58
          refine ev_al dR_readFactor_70 rfl (by first | assumption | rfl) ?_
          refine ev_il dR_readFactor_71 rfl (by first | assumption | rfl) ?_
          refine ev_pV dR_readFactor_72 (hnv _ s.1 _ hlt49 hmk49) lR_99 (rec_R hr) rfl (Nat.le_of_ble_eq_true rfl) rfl (Nat.le_of_ble_eq_true rfl) ?_
          refine ev_ret dR_readFactor_75 rfl rfl ?_
          constructor <;> simp [pr, h11, h29, h49, h58]
        · try simp (disch := omega) only [zcond, nI_ltI, nI_leI, nI_eq, zb0, Classical.not_not, Bool.not_eq_false, Bool.not_eq_true, Nat.not_lt, Nat.not_le] at h58
          refine ev_al dR_readFactor_61 rfl (by first | assumption | rfl) ?_
          refine ev_il dR_readFactor_62 rfl (by first | assumption | rfl) ?_
          refine ev_il dR_readFactor_63 rfl (by first | assumption | rfl) ?_
          refine ev_cV dR_readFactor_64 (ihC (D0 + 6) dp s.1 (s.1 + 1, s.2) (by omega) hdp hlt49 hlt49 (by simp [pNeed] at hn ⊢; omega)) lR_79 (rec_R hr) rfl (Nat.le_of_ble_eq_true rfl) rfl (Nat.le_of_ble_eq_true rfl) (fun q M1 hq => ?_)
          obtain ⟨rfl, rfl⟩ := hq
          refine ev_goto (tgt := 75) dR_readFactor_67 (by decide) ?_
          refine ev_ret dR_readFactor_75 rfl rfl ?_
          constructor <;> simp [pr, h11, h29, h49, h58]
    · try simp (disch := omega) only [zcond, nI_ltI, nI_leI, nI_eq, zb0, Classical.not_not, Bool.not_eq_false, Bool.not_eq_true, Nat.not_lt, Nat.not_le] at h29
      first | rw [pT_t h29] | rw [pT_f h29]
      try obtain ⟨hu29, hlt29, hmk29⟩ := pS_iff.mp h29
      refine ev_al dR_readFactor_32 rfl (by first | assumption | rfl) ?_
      refine ev_getrP dR_readFactor_33 fR_12 (sh_R hr) (zq hP (pt_source hr)) ?_
      refine ev_il dR_readFactor_36 rfl (by first | assumption | rfl) ?_
      refine ev_pV dR_readFactor_37 (hsl _ s.1 _ hlt29) lR_96 (rec_S hr) rfl (Nat.le_of_ble_eq_true rfl) rfl (Nat.le_of_ble_eq_true rfl) ?_
      refine ev_const (v := nI 2) dR_readFactor_40 (by decide) ?_
      refine ev_sub dR_readFactor_41 ?_
      refine ev_ret dR_readFactor_42 rfl rfl ?_
      constructor <;> simp [pr, h11, h29]
  · try simp (disch := omega) only [zcond, nI_ltI, nI_leI, nI_eq, zb0, Classical.not_not, Bool.not_eq_false, Bool.not_eq_true, Nat.not_lt, Nat.not_le] at h11
    first | rw [pT_t h11] | rw [pT_f h11]
    try obtain ⟨hu11, hlt11, hmk11⟩ := pS_iff.mp h11
    refine ev_al dR_readFactor_14 rfl (by first | assumption | rfl) ?_
    refine ev_getrP dR_readFactor_15 fR_12 (sh_R hr) (zq hP (pt_source hr)) ?_
    refine ev_il dR_readFactor_18 rfl (by first | assumption | rfl) ?_
    refine ev_pV dR_readFactor_19 (htv _ s.1 _ hlt11 hmk11) lR_93 (rec_S hr) rfl (Nat.le_of_ble_eq_true rfl) rfl (Nat.le_of_ble_eq_true rfl) ?_
    refine ev_ret dR_readFactor_22 rfl rfl ?_
    constructor <;> simp [pr, h11]
set_option maxRecDepth 100000 in
set_option maxHeartbeats 4000000 in
theorem x_sum (hx : xOk Lx xs M n b r nT mk tv sl nv) {f : Nat} (ihF : xFac Lx xs M r nT mk tv sl nv f) (ihL : xL3 Lx xs M r nT mk tv sl nv f) : xSum Lx xs M r nT mk tv sl nv (f + 1) := by
  obtain ⟨hP, hr, hE, hsl, htv, hnv⟩ := hx
  have hnT := hE.2.1
  intro D dp s hD hdp hs hn
  obtain ⟨D0, rfl⟩ : ∃ D0, D = D0 + 7 := ⟨D - 7, by omega⟩
  unfold Ct
  refine ev_const (v := nI 0) dR_readSum_0 (by decide) ?_
  refine ev_is dR_readSum_1 rfl (Nat.le_of_ble_eq_true rfl) ?_
  refine ev_al dR_readSum_2 rfl (by first | assumption | rfl) ?_
  refine ev_il dR_readSum_3 rfl (by first | assumption | rfl) ?_
  refine ev_cV dR_readSum_4 (ihF (D0 + 6) dp s (by omega) hdp hs (by simp [pNeed] at hn ⊢; omega)) lR_90 (rec_R hr) rfl (Nat.le_of_ble_eq_true rfl) rfl (Nat.le_of_ble_eq_true rfl) (fun q M1 hq => ?_)
  obtain ⟨rfl, rfl⟩ := hq
  refine ev_is dR_readSum_7 rfl (Nat.le_of_ble_eq_true rfl) ?_
  refine ev_const (v := nI 0) dR_readSum_8 (by decide) ?_
  refine ev_is dR_readSum_9 rfl (Nat.le_of_ble_eq_true rfl) ?_
  have ho := pr_ok (nT := nT) (mk := mk) (tv := tv) (sl := sl) (nv := nv) f 1 dp 0 0 0 s
  refine ihL (D0 + 7) dp 0 _ _ _ _ _ (by omega) hdp (ho.2.1 hs) (by have := ho.1; simp [pNeed] at hn ⊢; omega) (by omega) (fun _ => Nat.zero_le _) rfl rfl rfl rfl rfl ?_
  constructor <;> simp [pr]
set_option maxRecDepth 100000 in
set_option maxHeartbeats 4000000 in
theorem x_l3 (hx : xOk Lx xs M n b r nT mk tv sl nv) {f : Nat} (ihF : xFac Lx xs M r nT mk tv sl nv f) (ihL : xL3 Lx xs M r nT mk tv sl nv f) : xL3 Lx xs M r nT mk tv sl nv (f + 1) := by
  obtain ⟨hP, hr, hE, hsl, htv, hnv⟩ := hx
  have hnT := hE.2.1
  intro D dp N a b s L R hD hdp hs hn hN hN2 hL0 hL1 hL2 hL3 hL4 hR
  obtain ⟨D0, rfl⟩ : ∃ D0, D = D0 + 7 := ⟨D - 7, by omega⟩
  refine ev_il dR_readSum_11 rfl (by first | assumption | rfl) ?_
  refine ev_const (v := nI 160) dR_readSum_13 (by decide) ?_
  refine ev_icmp (tgt := 95) dR_readSum_16 (by decide) (fun h16 => ?_) (fun h16 => ?_)
  · try simp (disch := omega) only [zcond, nI_ltI, nI_leI, nI_eq, zb0, Classical.not_not, Bool.not_eq_false, Bool.not_eq_true, Nat.not_lt, Nat.not_le] at h16
    refine ev_il dR_readSum_95 rfl (by first | assumption | rfl) ?_
    refine ev_il dR_readSum_96 rfl (by first | assumption | rfl) ?_
    refine ev_add dR_readSum_97 ?_
    refine ev_ret dR_readSum_98 rfl rfl ?_
    rw [show pr nT mk tv sl nv (f + 1) 3 dp 0 a b s = (s, a + b) by
      cases hu : s.2 with
      | true => simp [pr, hu]
      | false =>
        have hnn : ∀ c, pS nT mk s c = true → s.1 < nT ∧ mk s.1 = c := fun c hc => (pS_iff.mp hc).2
        have hN1 := hN2 hu
        first
        | simp [pr, hu, h32, h52, h74]
        | (have hz : ∀ c, pS nT mk s c = false := fun c => Bool.eq_false_iff.mpr (fun hc => by have := hnn c hc; omega)
           simp [pr, hu, hz])
        | simp_all] at hR
    exact hR
  · try simp (disch := omega) only [zcond, nI_ltI, nI_leI, nI_eq, zb0, Classical.not_not, Bool.not_eq_false, Bool.not_eq_true, Nat.not_lt, Nat.not_le] at h16
    refine ev_al dR_readSum_19 rfl (by first | assumption | rfl) ?_
    refine ev_geti dR_readSum_20 fR_29 (sh_R hr) ?_
    rw [mE_s]
    refine ev_if0 (tgt := 95) dR_readSum_23 (by decide) (fun h23 => ?_) (fun h23 => ?_)
    · try simp (disch := omega) only [zcond, nI_ltI, nI_leI, nI_eq, zb0, Classical.not_not, Bool.not_eq_false, Bool.not_eq_true, Nat.not_lt, Nat.not_le] at h23
      refine ev_il dR_readSum_95 rfl (by first | assumption | rfl) ?_
      refine ev_il dR_readSum_96 rfl (by first | assumption | rfl) ?_
      refine ev_add dR_readSum_97 ?_
      refine ev_ret dR_readSum_98 rfl rfl ?_
      rw [show pr nT mk tv sl nv (f + 1) 3 dp 0 a b s = (s, a + b) by
        cases hu : s.2 with
        | true => simp [pr, hu]
        | false =>
          have hnn : ∀ c, pS nT mk s c = true → s.1 < nT ∧ mk s.1 = c := fun c hc => (pS_iff.mp hc).2
          have hN1 := hN2 hu
          first
          | simp [pr, hu, h32, h52, h74]
          | (have hz : ∀ c, pS nT mk s c = false := fun c => Bool.eq_false_iff.mpr (fun hc => by have := hnn c hc; omega)
             simp [pr, hu, hz])
          | simp_all] at hR
      exact hR
    · try simp (disch := omega) only [zcond, nI_ltI, nI_leI, nI_eq, zb0, Classical.not_not, Bool.not_eq_false, Bool.not_eq_true, Nat.not_lt, Nat.not_le] at h23
      refine ev_al dR_readSum_26 rfl (by first | assumption | rfl) ?_
      refine ev_const (v := nI 42) dR_readSum_27 (by decide) ?_
      refine ev_cV dR_readSum_29 (c_takes hP hr hE (by omega) (by decide)) lR_73 (rec_R hr) rfl (Nat.le_of_ble_eq_true rfl) rfl (Nat.le_of_ble_eq_true rfl) (fun q M1 hq => ?_)
      obtain ⟨rfl, rfl⟩ := hq
      refine ev_if0 (tgt := 46) dR_readSum_32 (by decide) (fun h32 => ?_) (fun h32 => ?_)
      · try simp (disch := omega) only [zcond, nI_ltI, nI_leI, nI_eq, zb0, Classical.not_not, Bool.not_eq_false, Bool.not_eq_true, Nat.not_lt, Nat.not_le] at h32
        first | rw [pT_t h32] | rw [pT_f h32]
        try obtain ⟨hu32, hlt32, hmk32⟩ := pS_iff.mp h32
        refine ev_al dR_readSum_46 rfl (by first | assumption | rfl) ?_
        refine ev_const (v := nI 43) dR_readSum_47 (by decide) ?_
        refine ev_cV dR_readSum_49 (c_takes hP hr hE (by omega) (by decide)) lR_73 (rec_R hr) rfl (Nat.le_of_ble_eq_true rfl) rfl (Nat.le_of_ble_eq_true rfl) (fun q M1 hq => ?_)
        obtain ⟨rfl, rfl⟩ := hq
        refine ev_if0 (tgt := 68) dR_readSum_52 (by decide) (fun h52 => ?_) (fun h52 => ?_)
        · try simp (disch := omega) only [zcond, nI_ltI, nI_leI, nI_eq, zb0, Classical.not_not, Bool.not_eq_false, Bool.not_eq_true, Nat.not_lt, Nat.not_le] at h52
          first | rw [pT_t h52] | rw [pT_f h52]
          try obtain ⟨hu52, hlt52, hmk52⟩ := pS_iff.mp h52
          refine ev_al dR_readSum_68 rfl (by first | assumption | rfl) ?_
          refine ev_const (v := nI 45) dR_readSum_69 (by decide) ?_
          refine ev_cV dR_readSum_71 (c_takes hP hr hE (by omega) (by decide)) lR_73 (rec_R hr) rfl (Nat.le_of_ble_eq_true rfl) rfl (Nat.le_of_ble_eq_true rfl) (fun q M1 hq => ?_)
          obtain ⟨rfl, rfl⟩ := hq
          refine ev_if0 (tgt := 95) dR_readSum_74 (by decide) (fun h74 => ?_) (fun h74 => ?_)
          · try simp (disch := omega) only [zcond, nI_ltI, nI_leI, nI_eq, zb0, Classical.not_not, Bool.not_eq_false, Bool.not_eq_true, Nat.not_lt, Nat.not_le] at h74
            first | rw [pT_t h74] | rw [pT_f h74]
            try obtain ⟨hu74, hlt74, hmk74⟩ := pS_iff.mp h74
            refine ev_il dR_readSum_95 rfl (by first | assumption | rfl) ?_
            refine ev_il dR_readSum_96 rfl (by first | assumption | rfl) ?_
            refine ev_add dR_readSum_97 ?_
            refine ev_ret dR_readSum_98 rfl rfl ?_
            rw [show pr nT mk tv sl nv (f + 1) 3 dp 0 a b s = (s, a + b) by
              cases hu : s.2 with
              | true => simp [pr, hu]
              | false =>
                have hnn : ∀ c, pS nT mk s c = true → s.1 < nT ∧ mk s.1 = c := fun c hc => (pS_iff.mp hc).2
                have hN1 := hN2 hu
                first
                | simp [pr, hu, h32, h52, h74]
                | (have hz : ∀ c, pS nT mk s c = false := fun c => Bool.eq_false_iff.mpr (fun hc => by have := hnn c hc; omega)
                   simp [pr, hu, hz])
                | simp_all] at hR
            exact hR
          · try simp (disch := omega) only [zcond, nI_ltI, nI_leI, nI_eq, zb0, Classical.not_not, Bool.not_eq_false, Bool.not_eq_true, Nat.not_lt, Nat.not_le] at h74
            first | rw [pT_t h74] | rw [pT_f h74]
            try obtain ⟨hu74, hlt74, hmk74⟩ := pS_iff.mp h74
            refine ev_il dR_readSum_77 rfl (by first | assumption | rfl) ?_
            refine ev_il dR_readSum_78 rfl (by first | assumption | rfl) ?_
            refine ev_add dR_readSum_79 ?_
            refine ev_is dR_readSum_80 rfl (Nat.le_of_ble_eq_true rfl) ?_
            refine ev_const (v := nI 0) dR_readSum_81 (by decide) ?_
            refine ev_al dR_readSum_82 rfl (by first | assumption | rfl) ?_
            refine ev_il dR_readSum_83 rfl (by first | assumption | rfl) ?_
            refine ev_cV dR_readSum_84 (ihF (D0 + 6) dp (s.1 + 1, s.2) (by omega) hdp hlt74 (by simp [pNeed] at hn ⊢; omega)) lR_90 (rec_R hr) rfl (Nat.le_of_ble_eq_true rfl) rfl (Nat.le_of_ble_eq_true rfl) (fun q M1 hq => ?_)
            obtain ⟨rfl, rfl⟩ := hq
            refine ev_sub dR_readSum_87 ?_
            refine ev_is dR_readSum_88 rfl (Nat.le_of_ble_eq_true rfl) ?_
            refine ev_inc1 dR_readSum_89 (by first | assumption | rfl) ?_
            refine ev_goto (tgt := 11) dR_readSum_92 (by decide) ?_
            have ho := pr_ok (nT := nT) (mk := mk) (tv := tv) (sl := sl) (nv := nv) f 1 dp 0 0 0 (s.1 + 1, s.2)
            have ho1 : s.1 + 1 ≤ (pr nT mk tv sl nv f 1 dp 0 0 0 (s.1 + 1, s.2)).1.1 := ho.1
            have hN1 := hN2 h23
            refine ihL (D0 + 7) dp (N + 1) _ _ _ _ _ (by omega) hdp (ho.2.1 (show s.1 + 1 ≤ nT by omega)) (by simp [pNeed] at hn ⊢; omega) (by omega) (fun _ => by omega) (by first | assumption | rfl) (by first | assumption | rfl) (by first | assumption | rfl) (by first | assumption | rfl) rfl ?_
            first | (rw [pr3_mul h23 h32] at hR; exact hR) | (rw [pr3_add h23 h32 h52] at hR; exact hR) | (rw [pr3_sub h23 h32 h52 h74] at hR; exact hR)
        · try simp (disch := omega) only [zcond, nI_ltI, nI_leI, nI_eq, zb0, Classical.not_not, Bool.not_eq_false, Bool.not_eq_true, Nat.not_lt, Nat.not_le] at h52
          first | rw [pT_t h52] | rw [pT_f h52]
          try obtain ⟨hu52, hlt52, hmk52⟩ := pS_iff.mp h52
          refine ev_il dR_readSum_55 rfl (by first | assumption | rfl) ?_
          refine ev_il dR_readSum_56 rfl (by first | assumption | rfl) ?_
          refine ev_add dR_readSum_57 ?_
          refine ev_is dR_readSum_58 rfl (Nat.le_of_ble_eq_true rfl) ?_
          refine ev_al dR_readSum_59 rfl (by first | assumption | rfl) ?_
          refine ev_il dR_readSum_60 rfl (by first | assumption | rfl) ?_
          refine ev_cV dR_readSum_61 (ihF (D0 + 6) dp (s.1 + 1, s.2) (by omega) hdp hlt52 (by simp [pNeed] at hn ⊢; omega)) lR_90 (rec_R hr) rfl (Nat.le_of_ble_eq_true rfl) rfl (Nat.le_of_ble_eq_true rfl) (fun q M1 hq => ?_)
          obtain ⟨rfl, rfl⟩ := hq
          refine ev_is dR_readSum_64 rfl (Nat.le_of_ble_eq_true rfl) ?_
          refine ev_goto (tgt := 89) dR_readSum_65 (by decide) ?_
          refine ev_inc1 dR_readSum_89 (by first | assumption | rfl) ?_
          refine ev_goto (tgt := 11) dR_readSum_92 (by decide) ?_
          have ho := pr_ok (nT := nT) (mk := mk) (tv := tv) (sl := sl) (nv := nv) f 1 dp 0 0 0 (s.1 + 1, s.2)
          have ho1 : s.1 + 1 ≤ (pr nT mk tv sl nv f 1 dp 0 0 0 (s.1 + 1, s.2)).1.1 := ho.1
          have hN1 := hN2 h23
          refine ihL (D0 + 7) dp (N + 1) _ _ _ _ _ (by omega) hdp (ho.2.1 (show s.1 + 1 ≤ nT by omega)) (by simp [pNeed] at hn ⊢; omega) (by omega) (fun _ => by omega) (by first | assumption | rfl) (by first | assumption | rfl) (by first | assumption | rfl) (by first | assumption | rfl) rfl ?_
          first | (rw [pr3_mul h23 h32] at hR; exact hR) | (rw [pr3_add h23 h32 h52] at hR; exact hR) | (rw [pr3_sub h23 h32 h52 h74] at hR; exact hR)
      · try simp (disch := omega) only [zcond, nI_ltI, nI_leI, nI_eq, zb0, Classical.not_not, Bool.not_eq_false, Bool.not_eq_true, Nat.not_lt, Nat.not_le] at h32
        first | rw [pT_t h32] | rw [pT_f h32]
        try obtain ⟨hu32, hlt32, hmk32⟩ := pS_iff.mp h32
        refine ev_il dR_readSum_35 rfl (by first | assumption | rfl) ?_
        refine ev_al dR_readSum_36 rfl (by first | assumption | rfl) ?_
        refine ev_il dR_readSum_37 rfl (by first | assumption | rfl) ?_
        refine ev_cV dR_readSum_38 (ihF (D0 + 6) dp (s.1 + 1, s.2) (by omega) hdp hlt32 (by simp [pNeed] at hn ⊢; omega)) lR_90 (rec_R hr) rfl (Nat.le_of_ble_eq_true rfl) rfl (Nat.le_of_ble_eq_true rfl) (fun q M1 hq => ?_)
        obtain ⟨rfl, rfl⟩ := hq
        refine ev_mul dR_readSum_41 ?_
        refine ev_is dR_readSum_42 rfl (Nat.le_of_ble_eq_true rfl) ?_
        refine ev_goto (tgt := 89) dR_readSum_43 (by decide) ?_
        refine ev_inc1 dR_readSum_89 (by first | assumption | rfl) ?_
        refine ev_goto (tgt := 11) dR_readSum_92 (by decide) ?_
        have ho := pr_ok (nT := nT) (mk := mk) (tv := tv) (sl := sl) (nv := nv) f 1 dp 0 0 0 (s.1 + 1, s.2)
        have ho1 : s.1 + 1 ≤ (pr nT mk tv sl nv f 1 dp 0 0 0 (s.1 + 1, s.2)).1.1 := ho.1
        have hN1 := hN2 h23
        refine ihL (D0 + 7) dp (N + 1) _ _ _ _ _ (by omega) hdp (ho.2.1 (show s.1 + 1 ≤ nT by omega)) (by simp [pNeed] at hn ⊢; omega) (by omega) (fun _ => by omega) (by first | assumption | rfl) (by first | assumption | rfl) (by first | assumption | rfl) (by first | assumption | rfl) rfl ?_
        first | (rw [pr3_mul h23 h32] at hR; exact hR) | (rw [pr3_add h23 h32 h52] at hR; exact hR) | (rw [pr3_sub h23 h32 h52 h74] at hR; exact hR)
set_option maxRecDepth 100000 in
set_option maxHeartbeats 4000000 in
theorem x_cal (hx : xOk Lx xs M n b r nT mk tv sl nv) {f : Nat} (ihS : xSum Lx xs M r nT mk tv sl nv f) (ihL : xL4 Lx xs M r nT mk tv sl nv f) : xCal Lx xs M r nT mk tv sl nv (f + 1) := by
  obtain ⟨hP, hr, hE, hsl, htv, hnv⟩ := hx
  have hnT := hE.2.1
  intro D dp nm s hD hdp hnm hs hn
  obtain ⟨D0, rfl⟩ : ∃ D0, D = D0 + 7 := ⟨D - 7, by omega⟩
  unfold Ct
  refine ev_al dR_readCall_0 rfl (by first | assumption | rfl) ?_
  refine ev_getrP dR_readCall_1 fR_12 (sh_R hr) (zq hP (pt_source hr)) ?_
  refine ev_il dR_readCall_4 rfl (by first | assumption | rfl) ?_
  refine ev_pV dR_readCall_5 (hsl _ nm _ hnm) lR_96 (rec_S hr) rfl (Nat.le_of_ble_eq_true rfl) rfl (Nat.le_of_ble_eq_true rfl) ?_
  refine ev_is dR_readCall_8 rfl (Nat.le_of_ble_eq_true rfl) ?_
  refine ev_al dR_readCall_9 rfl (by first | assumption | rfl) ?_
  refine ev_const (v := nI 40) dR_readCall_10 (by decide) ?_
  refine ev_il dR_readCall_12 rfl (by first | assumption | rfl) ?_
  refine ev_cV dR_readCall_13 (c_opens hP hr hE (by omega) (by decide) (by omega)) lR_86 (rec_R hr) rfl (Nat.le_of_ble_eq_true rfl) rfl (Nat.le_of_ble_eq_true rfl) (fun q M1 hq => ?_)
  obtain ⟨rfl, rfl⟩ := hq
  refine ev_if0 (tgt := 26) dR_readCall_16 (by decide) (fun h16 => ?_) (fun h16 => ?_)
  · try simp (disch := omega) only [zcond, nI_ltI, nI_leI, nI_eq, zb0, Classical.not_not, Bool.not_eq_false, Bool.not_eq_true, Nat.not_lt, Nat.not_le] at h16
    obtain ⟨ho1, ho2, ho3⟩ := pOb_t h16
    rw [ho3]
    obtain ⟨hu16, hlt16, hmk16⟩ := pS_iff.mp ho1
    refine ev_al dR_readCall_26 rfl (by first | assumption | rfl) ?_
    refine ev_const (v := nI 41) dR_readCall_27 (by decide) ?_
    refine ev_cV dR_readCall_29 (c_takes (s := (s.1 + 1, s.2)) hP hr hE (show s.1 + 1 < 2 ^ 31 by omega) (by decide)) lR_73 (rec_R hr) rfl (Nat.le_of_ble_eq_true rfl) rfl (Nat.le_of_ble_eq_true rfl) (fun q M1 hq => ?_)
    obtain ⟨rfl, rfl⟩ := hq
    refine ev_if0 (tgt := 37) dR_readCall_32 (by decide) (fun h32 => ?_) (fun h32 => ?_)
    · try simp (disch := omega) only [zcond, nI_ltI, nI_leI, nI_eq, zb0, Classical.not_not, Bool.not_eq_false, Bool.not_eq_true, Nat.not_lt, Nat.not_le] at h32
      first | rw [pT_t h32] | rw [pT_f h32]
      try obtain ⟨hu32, hlt32, hmk32⟩ := pS_iff.mp h32
      refine ev_const (v := nI 31) dR_readCall_37 (by decide) ?_
      refine ev_il dR_readCall_39 rfl (by first | assumption | rfl) ?_
      refine ev_mul dR_readCall_40 ?_
      refine ev_al dR_readCall_41 rfl (by first | assumption | rfl) ?_
      refine ev_il dR_readCall_42 rfl (by first | assumption | rfl) ?_
      refine ev_const (v := nI 1) dR_readCall_43 (by decide) ?_
      first | with_reducible refine ev_addN dR_readCall_44 ?_ | refine ev_add dR_readCall_44 ?_
      refine ev_cV dR_readCall_45 (ihS (D0 + 6) (dp + 1) (s.1 + 1, s.2) (by omega) (by omega) hlt16 (by simp [pNeed] at hn ⊢; omega)) lR_76 (rec_R hr) rfl (Nat.le_of_ble_eq_true rfl) rfl (Nat.le_of_ble_eq_true rfl) (fun q M1 hq => ?_)
      obtain ⟨rfl, rfl⟩ := hq
      refine ev_add dR_readCall_48 ?_
      refine ev_is dR_readCall_49 rfl (Nat.le_of_ble_eq_true rfl) ?_
      refine ev_const (v := nI 0) dR_readCall_50 (by decide) ?_
      refine ev_is dR_readCall_51 rfl (Nat.le_of_ble_eq_true rfl) ?_
      have ho := pr_ok (nT := nT) (mk := mk) (tv := tv) (sl := sl) (nv := nv) f 0 (dp + 1) 0 0 0 (s.1 + 1, s.2)
      have ho4 : s.1 + 1 ≤ (pr nT mk tv sl nv f 0 (dp + 1) 0 0 0 (s.1 + 1, s.2)).1.1 := ho.1
      refine ihL (D0 + 7) dp 0 _ _ _ _ (by omega) ho2 (ho.2.1 hlt16) (by simp [pNeed] at hn ⊢; omega) (by omega) (fun _ => Nat.zero_le _) rfl rfl rfl rfl ?_
      constructor <;> simp [pr, ho1, ho2, h32]
    · try simp (disch := omega) only [zcond, nI_ltI, nI_leI, nI_eq, zb0, Classical.not_not, Bool.not_eq_false, Bool.not_eq_true, Nat.not_lt, Nat.not_le] at h32
      first | rw [pT_t h32] | rw [pT_f h32]
      try obtain ⟨hu32, hlt32, hmk32⟩ := pS_iff.mp h32
      refine ev_il dR_readCall_35 rfl (by first | assumption | rfl) ?_
      refine ev_ret dR_readCall_36 rfl rfl ?_
      constructor <;> simp [pr, ho1, ho2, h32]
  · try simp (disch := omega) only [zcond, nI_ltI, nI_leI, nI_eq, zb0, Classical.not_not, Bool.not_eq_false, Bool.not_eq_true, Nat.not_lt, Nat.not_le] at h16
    refine ev_al dR_readCall_19 rfl (by first | assumption | rfl) ?_
    refine ev_const (v := nI 1) dR_readCall_20 (by decide) ?_
    refine ev_puti dR_readCall_21 fR_29 fwR_stopped (sh_R hr) rfl rfl ?_
    rw [mE_S1, pOs_f h16]
    refine ev_const (v := nI 0) dR_readCall_24 (by decide) ?_
    refine ev_ret dR_readCall_25 rfl rfl ?_
    rw [show pr nT mk tv sl nv (f + 1) 2 dp nm 0 0 s = ((s.1, true), nI 0) by
      rcases pOb_f h16 with h40 | h12
      · simp [pr, h40]
      · have h12 : ¬ dp < 12 := by omega
        simp [pr, h12]]
    exact ⟨rfl, rfl⟩
set_option maxRecDepth 100000 in
set_option maxHeartbeats 4000000 in
theorem x_l4 (hx : xOk Lx xs M n b r nT mk tv sl nv) {f : Nat} (ihS : xSum Lx xs M r nT mk tv sl nv f) (ihL : xL4 Lx xs M r nT mk tv sl nv f) : xL4 Lx xs M r nT mk tv sl nv (f + 1) := by
  obtain ⟨hP, hr, hE, hsl, htv, hnv⟩ := hx
  have hnT := hE.2.1
  intro D dp N a s L R hD hdp hs hn hN hN2 hL0 hL2 hL3 hL4 hR
  obtain ⟨D0, rfl⟩ : ∃ D0, D = D0 + 7 := ⟨D - 7, by omega⟩
  refine ev_il dR_readCall_53 rfl (by first | assumption | rfl) ?_
  refine ev_const (v := nI 160) dR_readCall_55 (by decide) ?_
  refine ev_icmp (tgt := 89) dR_readCall_58 (by decide) (fun h58 => ?_) (fun h58 => ?_)
  · try simp (disch := omega) only [zcond, nI_ltI, nI_leI, nI_eq, zb0, Classical.not_not, Bool.not_eq_false, Bool.not_eq_true, Nat.not_lt, Nat.not_le] at h58
    refine ev_al dR_readCall_89 rfl (by first | assumption | rfl) ?_
    refine ev_const (v := nI 41) dR_readCall_90 (by decide) ?_
    refine ev_cV dR_readCall_92 (c_needs hP hr hE (by omega) (by decide)) lR_69 (rec_R hr) rfl (Nat.le_of_ble_eq_true rfl) rfl (Nat.le_of_ble_eq_true rfl) (fun q M1 hq => ?_)
    obtain ⟨rfl, rfl⟩ := hq
    refine ev_il dR_readCall_95 rfl (by first | assumption | rfl) ?_
    refine ev_ret dR_readCall_96 rfl rfl ?_
    rw [show pr nT mk tv sl nv (f + 1) 4 dp 0 a 0 s = (pN nT mk s 41, a) by
      first
      | simp [pr, h67]
      | (have hz : pS nT mk s 44 = false := Bool.eq_false_iff.mpr (fun hc => by
           obtain ⟨g1, g2, g3⟩ := pS_iff.mp hc
           have := hN2 g1
           omega)
         simp [pr, hz])] at hR
    exact hR
  · try simp (disch := omega) only [zcond, nI_ltI, nI_leI, nI_eq, zb0, Classical.not_not, Bool.not_eq_false, Bool.not_eq_true, Nat.not_lt, Nat.not_le] at h58
    refine ev_al dR_readCall_61 rfl (by first | assumption | rfl) ?_
    refine ev_const (v := nI 44) dR_readCall_62 (by decide) ?_
    refine ev_cV dR_readCall_64 (c_takes hP hr hE (by omega) (by decide)) lR_73 (rec_R hr) rfl (Nat.le_of_ble_eq_true rfl) rfl (Nat.le_of_ble_eq_true rfl) (fun q M1 hq => ?_)
    obtain ⟨rfl, rfl⟩ := hq
    refine ev_if0 (tgt := 89) dR_readCall_67 (by decide) (fun h67 => ?_) (fun h67 => ?_)
    · try simp (disch := omega) only [zcond, nI_ltI, nI_leI, nI_eq, zb0, Classical.not_not, Bool.not_eq_false, Bool.not_eq_true, Nat.not_lt, Nat.not_le] at h67
      first | rw [pT_t h67] | rw [pT_f h67]
      try obtain ⟨hu67, hlt67, hmk67⟩ := pS_iff.mp h67
      refine ev_al dR_readCall_89 rfl (by first | assumption | rfl) ?_
      refine ev_const (v := nI 41) dR_readCall_90 (by decide) ?_
      refine ev_cV dR_readCall_92 (c_needs hP hr hE (by omega) (by decide)) lR_69 (rec_R hr) rfl (Nat.le_of_ble_eq_true rfl) rfl (Nat.le_of_ble_eq_true rfl) (fun q M1 hq => ?_)
      obtain ⟨rfl, rfl⟩ := hq
      refine ev_il dR_readCall_95 rfl (by first | assumption | rfl) ?_
      refine ev_ret dR_readCall_96 rfl rfl ?_
      rw [show pr nT mk tv sl nv (f + 1) 4 dp 0 a 0 s = (pN nT mk s 41, a) by
        first
        | simp [pr, h67]
        | (have hz : pS nT mk s 44 = false := Bool.eq_false_iff.mpr (fun hc => by
             obtain ⟨g1, g2, g3⟩ := pS_iff.mp hc
             have := hN2 g1
             omega)
           simp [pr, hz])] at hR
      exact hR
    · try simp (disch := omega) only [zcond, nI_ltI, nI_leI, nI_eq, zb0, Classical.not_not, Bool.not_eq_false, Bool.not_eq_true, Nat.not_lt, Nat.not_le] at h67
      first | rw [pT_t h67] | rw [pT_f h67]
      try obtain ⟨hu67, hlt67, hmk67⟩ := pS_iff.mp h67
      refine ev_const (v := nI 31) dR_readCall_70 (by decide) ?_
      refine ev_il dR_readCall_72 rfl (by first | assumption | rfl) ?_
      refine ev_mul dR_readCall_73 ?_
      refine ev_al dR_readCall_74 rfl (by first | assumption | rfl) ?_
      refine ev_il dR_readCall_75 rfl (by first | assumption | rfl) ?_
      refine ev_const (v := nI 1) dR_readCall_76 (by decide) ?_
      first | with_reducible refine ev_addN dR_readCall_77 ?_ | refine ev_add dR_readCall_77 ?_
      refine ev_cV dR_readCall_78 (ihS (D0 + 6) (dp + 1) (s.1 + 1, s.2) (by omega) (by omega) hlt67 (by simp [pNeed] at hn ⊢; omega)) lR_76 (rec_R hr) rfl (Nat.le_of_ble_eq_true rfl) rfl (Nat.le_of_ble_eq_true rfl) (fun q M1 hq => ?_)
      obtain ⟨rfl, rfl⟩ := hq
      refine ev_add dR_readCall_81 ?_
      refine ev_is dR_readCall_82 rfl (Nat.le_of_ble_eq_true rfl) ?_
      refine ev_inc1 dR_readCall_83 (by first | assumption | rfl) ?_
      refine ev_goto (tgt := 53) dR_readCall_86 (by decide) ?_
      have ho := pr_ok (nT := nT) (mk := mk) (tv := tv) (sl := sl) (nv := nv) f 0 (dp + 1) 0 0 0 (s.1 + 1, s.2)
      have ho1 : s.1 + 1 ≤ (pr nT mk tv sl nv f 0 (dp + 1) 0 0 0 (s.1 + 1, s.2)).1.1 := ho.1
      have hN1 := hN2 hu67
      refine ihL (D0 + 7) dp (N + 1) _ _ _ _ (by omega) hdp (ho.2.1 hlt67) (by simp [pNeed] at hn ⊢; omega) (by omega) (fun _ => by omega) (by first | assumption | rfl) (by first | assumption | rfl) rfl rfl ?_
      simp only [pr, h67] at hR
      simpa using hR
theorem x_all (hx : xOk Lx xs M n b r nT mk tv sl nv) : ∀ f, xSum Lx xs M r nT mk tv sl nv f ∧ xFac Lx xs M r nT mk tv sl nv f ∧ xCal Lx xs M r nT mk tv sl nv f ∧ xL3 Lx xs M r nT mk tv sl nv f ∧ xL4 Lx xs M r nT mk tv sl nv f
  | 0 => ⟨fun D dp s _ _ _ h => absurd h (Nat.not_lt_zero _), fun D dp s _ _ _ h => absurd h (Nat.not_lt_zero _), fun D dp nm s _ _ _ _ h => absurd h (Nat.not_lt_zero _), fun D dp N a b s L R _ _ _ h => absurd h (Nat.not_lt_zero _), fun D dp N a s L R _ _ _ h => absurd h (Nat.not_lt_zero _)⟩
  | f + 1 => by
    obtain ⟨h0, h1, h2, h3, h4⟩ := x_all hx f
    exact ⟨x_sum hx h1 h3, x_fac hx h0 h1 h2, x_cal hx h0 h4, x_l3 hx h1 h3, x_l4 hx h0 h4⟩
end
end
section
/- items, as the class reads them: how many have begun, firsts, lasts, levels, values -/
abbrev pTr : Type := Nat × (Nat → Int32) × (Nat → Int32) × (Nat → Int32) × (Nat → Int32)
def pVa (T : pTr) (k : Nat) (x : Int32) : pTr := (T.1, T.2.1, T.2.2.1, T.2.2.2.1, upd T.2.2.2.2 k x)
def pLa (T : pTr) (k : Nat) (x : Int32) : pTr := (T.1, T.2.1, upd T.2.2.1 k x, T.2.2.2.1, T.2.2.2.2)
def pBg (T : pTr) (p dp : Nat) : pTr := (T.1 + 1, upd T.2.1 T.1 (nI p), T.2.2.1, upd T.2.2.2.1 T.1 (nI dp), T.2.2.2.2)
/-- the value of a name: the last item before that gives it one -/
def pNv (nT : Nat) (mk : Nat → Nat) (same : Nat → Nat → Bool) (fi : Nat → Nat) (va : Nat → Int32) : Nat → Nat → Int32
  | 0, _ => nI 0
  | k + 1, nm => if (fi k + 1 < nT ∧ mk (fi k + 1) = 61) ∧ same (fi k) nm = true then va k else pNv nT mk same fi va k nm
def pNvT (nT : Nat) (mk : Nat → Nat) (same : Nat → Nat → Bool) (T : pTr) : Nat → Int32 := pNv nT mk same (fun k => (T.2.1 k).toNatClampNeg) T.2.2.2.2 (T.1 - 1)
section
variable (nT : Nat) (mk : Nat → Nat) (tv : Nat → Int32) (sl : Nat → Nat) (same : Nat → Nat → Bool)
/-- behind an item's name -/
def pDef (dp : Nat) (s : pE) (T : pTr) : pE × Int32 :=
  if pS nT mk (pN nT mk s 97) 61 = true then pr nT mk tv sl (pNvT nT mk same T) 810 0 dp 0 0 0 ((pN nT mk s 97).1 + 1, (pN nT mk s 97).2) else pr nT mk tv sl (pNvT nT mk same T) 810 2 dp s.1 0 0 (pN nT mk s 97)
/-- 0 an item; else the items inside a block, of which i were read -/
def pi : Nat → Nat → Nat → Nat → pE → pTr → (pE × pTr) × Nat
  | 0, _, _, i, s, T => ((s, T), i)
  | f + 1, 0, dp, i, s, T =>
    if nT ≤ s.1 ∨ 160 ≤ T.1 then (((s.1, true), T), i)
    else if pS nT mk s 123 = true then
      (if pOb nT mk s 123 dp = true then ((pN nT mk (pi f 1 dp 0 (s.1 + 1, s.2) (pBg T s.1 dp)).1.1 125, pLa (pVa (pi f 1 dp 0 (s.1 + 1, s.2) (pBg T s.1 dp)).1.2 T.1 (nI (pi f 1 dp 0 (s.1 + 1, s.2) (pBg T s.1 dp)).2)) T.1 (nI (pN nT mk (pi f 1 dp 0 (s.1 + 1, s.2) (pBg T s.1 dp)).1.1 125).1 - nI 1)), i)
       else ((pOs nT mk s 123 dp, pLa (pVa (pBg T s.1 dp) T.1 (nI 0)) T.1 (nI (pOs nT mk s 123 dp).1 - nI 1)), i))
    else ((pN nT mk (pDef nT mk tv sl same dp s (pBg T s.1 dp)).1 59, pLa (pVa (pBg T s.1 dp) T.1 (pDef nT mk tv sl same dp s (pBg T s.1 dp)).2) T.1 (nI (pN nT mk (pDef nT mk tv sl same dp s (pBg T s.1 dp)).1 59).1 - nI 1)), i)
  | f + 1, _, dp, i, s, T =>
    if 160 ≤ i ∨ s.2 = true ∨ pS nT mk s 125 = true then ((s, T), i)
    else pi f 1 dp (i + 1) (pi f 0 (dp + 1) 0 s T).1.1 (pi f 0 (dp + 1) 0 s T).1.2
def pB (f dp : Nat) (s : pE) (T : pTr) : (pE × pTr) × Nat :=
  if pOb nT mk s 123 dp = true then ((pN nT mk (pi nT mk tv sl same f 1 dp 0 (s.1 + 1, s.2) T).1.1 125, (pi nT mk tv sl same f 1 dp 0 (s.1 + 1, s.2) T).1.2), (pi nT mk tv sl same f 1 dp 0 (s.1 + 1, s.2) T).2) else ((pOs nT mk s 123 dp, T), 0)
end
/-- the firsts are tokens -/
def tOk (nT : Nat) (T : pTr) : Prop := T.1 ≤ 160 ∧ ∀ k, k < T.1 → ∃ p, p < nT ∧ T.2.1 k = nI p
section
variable {nT : Nat} {mk : Nat → Nat} {tv : Nat → Int32} {sl : Nat → Nat} {same : Nat → Nat → Bool}
theorem tOk.bg {T : pTr} {p dp : Nat} (h : tOk nT T) (hp : p < nT) (hc : T.1 < 160) : tOk nT (pBg T p dp) := by
  refine ⟨hc, fun k hk => ?_⟩
  have hk : k < T.1 + 1 := hk
  by_cases hkc : k = T.1
  · subst hkc
    exact ⟨p, hp, by simp [pBg, upd]⟩
  · obtain ⟨q, hq, he⟩ := h.2 k (by omega)
    exact ⟨q, hq, by simp [pBg, upd, hkc, he]⟩
theorem pOs_ok {s : pE} {c dp : Nat} : pOk nT s (pOs nT mk s c dp) := by
  unfold pOs
  split
  · rename_i h
    split
    · exact pOk.stop s
    · exact pOk.one h
  · exact pOk.rf s
theorem pDef_ok (dp : Nat) (s : pE) (T : pTr) : pOk nT s (pDef nT mk tv sl same dp s T).1 := by
  unfold pDef
  split
  · rename_i h
    exact ((pN_ok s 97).tr (pOk.one h)).tr (pr_ok _ _ _ _ _ _ _)
  · exact (pN_ok s 97).tr (pr_ok _ _ _ _ _ _ _)
/-- an item's or a block's reading goes on within the tokens, and keeps the firsts tokens -/
theorem pi_ok : ∀ (f tag dp i : Nat) (s : pE) (T : pTr), pOk nT s (pi nT mk tv sl same f tag dp i s T).1.1 ∧ (tOk nT T → tOk nT (pi nT mk tv sl same f tag dp i s T).1.2) ∧ T.1 ≤ (pi nT mk tv sl same f tag dp i s T).1.2.1
  | 0, tag, dp, i, s, T => by rw [pi]; exact ⟨pOk.rf s, fun h => h, Nat.le_refl _⟩
  | f + 1, 0, dp, i, s, T => by
    rw [pi]
    split
    · exact ⟨pOk.stop s, fun h => h, Nat.le_refl _⟩
    rename_i hc
    split
    · rename_i hs
      split
      · rename_i ho
        obtain ⟨h1, h2, h3⟩ := pi_ok f 1 dp 0 (s.1 + 1, s.2) (pBg T s.1 dp)
        exact ⟨((pOk.one hs).tr h1).tr (pN_ok _ _), fun h => h2 (h.bg (by omega) (by omega)), Nat.le_trans (Nat.le_succ _) h3⟩
      · exact ⟨pOs_ok, fun h => h.bg (p := s.1) (dp := dp) (by omega) (by omega), Nat.le_succ _⟩
    · exact ⟨(pDef_ok dp s _).tr (pN_ok _ _), fun h => h.bg (p := s.1) (dp := dp) (by omega) (by omega), Nat.le_succ _⟩
  | f + 1, tag + 1, dp, i, s, T => by
    rw [pi]
    · split
      · exact ⟨pOk.rf s, fun h => h, Nat.le_refl _⟩
      · obtain ⟨h1, h2, h3⟩ := pi_ok f 0 (dp + 1) 0 s T
        obtain ⟨g1, g2, g3⟩ := pi_ok f 1 dp (i + 1) (pi nT mk tv sl same f 0 (dp + 1) 0 s T).1.1 (pi nT mk tv sl same f 0 (dp + 1) 0 s T).1.2
        exact ⟨h1.tr g1, fun h => g2 (h2 h), Nat.le_trans h3 g3⟩
    all_goals omega
/-- an item that is read to its end has a token -/
theorem pi_one {f dp i : Nat} {s : pE} {T : pTr} (h : (pi nT mk tv sl same (f + 1) 0 dp i s T).1.1.2 = false) : s.1 + 1 ≤ (pi nT mk tv sl same (f + 1) 0 dp i s T).1.1.1 := by
  rw [pi] at h ⊢
  split at h
  · cases h
  rename_i hc
  rw [if_neg hc]
  split at h
  · rename_i hs
    rw [if_pos hs]
    split at h
    · rename_i ho
      rw [if_pos ho]
      exact (((pi_ok f 1 dp 0 (s.1 + 1, s.2) (pBg T s.1 dp)).1).tr (pN_ok _ _)).1
    · rename_i ho
      unfold pOs at h
      rw [if_pos hs] at h
      have h12 : 12 ≤ dp := by
        rcases pOb_f (Bool.eq_false_iff.mpr ho) with h1 | h1
        · rw [hs] at h1; cases h1
        · exact h1
      rw [if_pos h12] at h
      cases h
  · rename_i hs
    rw [if_neg hs]
    have h97 : pS nT mk s 97 = true := by
      cases hq : pS nT mk s 97 with
      | true => rfl
      | false =>
        have hn : pN nT mk s 97 = (s.1, true) := if_neg (by rw [hq]; decide)
        have hd : (pDef nT mk tv sl same dp s (pBg T s.1 dp)).1 = (s.1, true) := by
          unfold pDef
          rw [hn, if_neg (by rw [pS_stop rfl]; decide)]
          exact (pr_ok _ _ _ _ _ _ _).2.2 rfl
        rw [hd] at h
        have : pN nT mk (s.1, true) 59 = (s.1, true) := (pN_ok (nT := nT) (mk := mk) (s.1, true) 59).2.2 rfl
        rw [this] at h
        cases h
    have hn : pN nT mk s 97 = (s.1 + 1, s.2) := if_pos h97
    have hd : pOk nT (s.1 + 1, s.2) (pDef nT mk tv sl same dp s (pBg T s.1 dp)).1 := by
      unfold pDef
      rw [hn]
      split
      · rename_i h; exact (pOk.one h).tr (pr_ok _ _ _ _ _ _ _)
      · exact pr_ok _ _ _ _ _ _ _
    exact (hd.tr (pN_ok _ _)).1
end
/- the tree in memory -/
def mR (M : zM) (r : Nat) (T : pTr) : zM := (fun a => if a = r + 6 then T.2.1 else if a = r + 7 then T.2.2.1 else if a = r + 8 then T.2.2.2.1 else if a = r + 9 then T.2.2.2.2 else if a = r + 2 then upd (M.1 (r + 2)) 5 (nI T.1) else M.1 a, M.2)
section
variable {M : zM} {r : Nat} {T : pTr} {s : pE}
theorem mR_F {i : Nat} : (mR M r T).1 (r + 6) i = T.2.1 i := by simp [mR]
theorem mR_L {i : Nat} : (mR M r T).1 (r + 7) i = T.2.2.1 i := by simp [mR]
theorem mR_V {i : Nat} : (mR M r T).1 (r + 8) i = T.2.2.2.1 i := by simp [mR]
theorem mR_A {i : Nat} : (mR M r T).1 (r + 9) i = T.2.2.2.2 i := by simp [mR]
theorem mR_c : (mR M r T).1 (r + 2) 5 = nI T.1 := by simp [mR, upd]
theorem mR_o {a i : Nat} (h : a < r + 2 ∨ (r + 2 < a ∧ a < r + 6) ∨ r + 9 < a) : (mR M r T).1 a i = M.1 a i := by
  unfold mR
  show (if a = r + 6 then T.2.1 else if a = r + 7 then T.2.2.1 else if a = r + 8 then T.2.2.2.1 else if a = r + 9 then T.2.2.2.2 else if a = r + 2 then upd (M.1 (r + 2)) 5 (nI T.1) else M.1 a) i = M.1 a i
  rw [if_neg (by omega), if_neg (by omega), if_neg (by omega), if_neg (by omega), if_neg (by omega)]
theorem mR_2 {i : Nat} (h : i ≠ 5) : (mR M r T).1 (r + 2) i = M.1 (r + 2) i := by simp [mR, upd, h]
theorem zIE {o k : Nat} {x : Int32} (h : o ≠ r) : zI (mE M r s) o k x = mE (zI M o k x) r s := by
  refine zM_ext (fun a i => ?_) rfl
  unfold mE
  simp only [zI_at]
  (repeat' split) <;> first | rfl | (exfalso; omega) | simp_all
theorem mR_cnt {c : Nat} : zI (mR M r T) (r + 2) 5 (nI c) = mR M r (c, T.2) := by
  refine zM_ext (fun a i => ?_) rfl
  rw [zI_at]
  by_cases h : a = r + 2
  · subst h
    by_cases h5 : i = 5
    · subst h5; rw [if_pos ⟨rfl, rfl⟩]; exact (mR_c (T := (c, T.2))).symm
    · rw [mR_2 h5, mR_2 h5]; simp [h5]
  · rw [if_neg (fun hh => h hh.1)]
    simp only [mR]
    (repeat' split) <;> first | rfl | (exfalso; omega)
theorem mR_first {k : Nat} {x : Int32} : zI (mR M r T) (r + 6) k x = mR M r (T.1, upd T.2.1 k x, T.2.2) := by
  refine zM_ext (fun a i => ?_) rfl
  rw [zI_at]
  by_cases h : a = r + 6
  · subst h; rw [mR_F, mR_F]; simp [upd]
  · rw [if_neg (fun hh => h hh.1)]
    simp only [mR]
    (repeat' split) <;> first | rfl | (exfalso; omega)
theorem mR_last {k : Nat} {x : Int32} : zI (mR M r T) (r + 7) k x = mR M r (pLa T k x) := by
  refine zM_ext (fun a i => ?_) rfl
  rw [zI_at]
  by_cases h : a = r + 7
  · subst h; rw [mR_L, mR_L]; simp [upd, pLa]
  · rw [if_neg (fun hh => h hh.1)]
    simp only [mR, pLa]
    (repeat' split) <;> first | rfl | (exfalso; omega)
theorem mR_level {k : Nat} {x : Int32} : zI (mR M r T) (r + 8) k x = mR M r (T.1, T.2.1, T.2.2.1, upd T.2.2.2.1 k x, T.2.2.2.2) := by
  refine zM_ext (fun a i => ?_) rfl
  rw [zI_at]
  by_cases h : a = r + 8
  · subst h; rw [mR_V, mR_V]; simp [upd]
  · rw [if_neg (fun hh => h hh.1)]
    simp only [mR]
    (repeat' split) <;> first | rfl | (exfalso; omega)
theorem mR_value {k : Nat} {x : Int32} : zI (mR M r T) (r + 9) k x = mR M r (pVa T k x) := by
  refine zM_ext (fun a i => ?_) rfl
  rw [zI_at]
  by_cases h : a = r + 9
  · subst h; rw [mR_A, mR_A]; simp [upd, pVa]
  · rw [if_neg (fun hh => h hh.1)]
    simp only [mR, pVa]
    (repeat' split) <;> first | rfl | (exfalso; omega)
end
end
section
/- Reading: namedValue, items, blocks (rows laid by program) -/
def zd : Nat → Int32
  | 0 => -1
  | k + 1 => nI k
theorem zd_dec (k : Nat) : nI k + Int32.ofInt (-1) = zd k := by
  cases k with
  | zero => decide
  | succ k => exact pk_m1 k
theorem zd_ini {c : Nat} (h : 1 ≤ c) : nI c - nI 2 = zd (c - 1) := by
  obtain ⟨k, rfl⟩ : ∃ k, c = k + 1 := ⟨c - 1, by omega⟩
  cases k with
  | zero => decide
  | succ k => rw [pk_sub (by omega)]; rfl
section
variable {Lx : Nat} {xs : Nat → Int32} {d : Nat} {M : zM} {n b r nT : Nat} {mk : Nat → Nat} {same : Nat → Nat → Bool}
set_option maxRecDepth 100000 in
set_option maxHeartbeats 4000000 in
theorem l_namedValue {c nm : Nat} {F V : Nat → Int32} (hP : M.2.1 = zP0 n b) (hr : zR r) (hE : Mks M r nT mk) (hc2 : c ≤ 160) (hnm : nm < nT) (hF : ∀ k, k < c → M.1 (r + 6) k = F k) (hF2 : ∀ k, k < c → ∃ p, p < nT ∧ F k = nI p) (hV : ∀ k, k < c → M.1 (r + 9) k = V k) (hsm : ∀ d a z, a < nT → z < nT → Pu Lx xs d mS_areSame [.ref (r + 1), .int (nI a), .int (nI z)] M (nI (same a z).toNat)) {R : Option Int32 → zM → Prop} : ∀ (j : Nat) (L : Nat → Value), j ≤ c → L 0 = .ref r → L 1 = .int (nI nm) → L 2 = .int (zd j) → R (some (pNv nT mk same (fun k => (F k).toNatClampNeg) V j nm)) M → Ev Lx xs (d + 1) mR_namedValue 10 L [] M (zpost mR_namedValue R) := by
  have hnT := hE.2.1
  intro j
  induction j with
  | zero =>
    intro L hj hL0 hL1 hL2 hR
    refine ev_il dR_namedValue_10 rfl (by first | assumption | rfl) ?_
    refine ev_if0 (tgt := 93) dR_namedValue_11 (by decide) (fun h11 => ?_) (fun h11 => ?_)
    · refine ev_const (v := nI 0) dR_namedValue_93 (by decide) ?_
      refine ev_ret dR_namedValue_94 rfl rfl ?_
      exact hR
    · exact absurd (show zd 0 < nI 0 by decide) h11
  | succ k ih =>
    intro L hj hL0 hL1 hL2 hR
    have hL2 : L 2 = .int (nI k) := hL2
    obtain ⟨p, hp1, hpe⟩ := hF2 k (by omega)
    have hfk : (F k).toNatClampNeg = p := by rw [hpe]; exact nI_clamp (by omega)
    refine ev_il dR_namedValue_10 rfl (by first | assumption | rfl) ?_
    refine ev_if0 (tgt := 93) dR_namedValue_11 (by decide) (fun h11 => ?_) (fun h11 => ?_)
    · first | omega | (simp (disch := omega) only [zcond, nI_ltI, nI_leI, nI_eq] at h11; omega)
    · try simp (disch := omega) only [zcond, nI_ltI, nI_leI, nI_eq, zb0, Classical.not_not, Bool.not_eq_false, Bool.not_eq_true, Nat.not_lt, Nat.not_le] at h11
      refine ev_al dR_namedValue_14 rfl (by first | assumption | rfl) ?_
      refine ev_getrP dR_namedValue_15 fR_21 (sh_R hr) (zq hP (pt_tree hr)) ?_
      refine ev_getrP dR_namedValue_18 fR_56 (sh_T hr) (zq hP (pt_firsts hr)) ?_
      refine ev_il dR_namedValue_21 rfl (by first | assumption | rfl) ?_
      refine ev_aldN dR_namedValue_22 rfl (sh_firsts hr) (by omega) ?_
      rw [hF k (by omega), hpe]
      refine ev_is dR_namedValue_23 rfl (Nat.le_of_ble_eq_true rfl) ?_
      refine ev_il dR_namedValue_24 rfl (by first | assumption | rfl) ?_
      refine ev_const (v := nI 1) dR_namedValue_25 (by decide) ?_
      first | with_reducible refine ev_addN dR_namedValue_26 ?_ | refine ev_add dR_namedValue_26 ?_
      refine ev_al dR_namedValue_27 rfl (by first | assumption | rfl) ?_
      refine ev_getrP dR_namedValue_28 fR_12 (sh_R hr) (zq hP (pt_source hr)) ?_
      refine ev_geti dR_namedValue_31 fR_36 (sh_S hr) ?_
      rw [hE.1]
      refine ev_icmp (tgt := 57) dR_namedValue_34 (by decide) (fun h34 => ?_) (fun h34 => ?_)
      · try simp (disch := omega) only [zcond, nI_ltI, nI_leI, nI_eq, zb0, Classical.not_not, Bool.not_eq_false, Bool.not_eq_true, Nat.not_lt, Nat.not_le] at h34
        refine ev_const (v := nI 0) dR_namedValue_57 (by decide) ?_
        refine ev_is dR_namedValue_58 rfl (Nat.le_of_ble_eq_true rfl) ?_
        refine ev_il dR_namedValue_60 rfl (by first | assumption | rfl) ?_
        refine ev_if0 (tgt := 87) dR_namedValue_62 (by decide) (fun h62 => ?_) (fun h62 => ?_)
        · try simp (disch := omega) only [zcond, nI_ltI, nI_leI, nI_eq, zb0, Classical.not_not, Bool.not_eq_false, Bool.not_eq_true, Nat.not_lt, Nat.not_le] at h62
          refine ev_inc dR_namedValue_87 (by first | assumption | rfl) ?_
          rw [zd_dec]
          refine ev_goto (tgt := 10) dR_namedValue_90 (by decide) ?_
          refine ih _ (by omega) (by first | assumption | rfl) (by first | assumption | rfl) rfl ?_
          rw [pNv, if_neg ?_] at hR
          · exact hR
          · rintro ⟨⟨g1, g2⟩, g3⟩
            simp only [hfk] at g1 g2 g3
            first | omega | (rw [g3] at h74; cases h74)
        · try simp (disch := omega) only [zcond, nI_ltI, nI_leI, nI_eq, zb0, Classical.not_not, Bool.not_eq_false, Bool.not_eq_true, Nat.not_lt, Nat.not_le] at h62
          refine ev_al dR_namedValue_65 rfl (by first | assumption | rfl) ?_
          refine ev_getrP dR_namedValue_66 fR_12 (sh_R hr) (zq hP (pt_source hr)) ?_
          refine ev_il dR_namedValue_69 rfl (by first | assumption | rfl) ?_
          refine ev_il dR_namedValue_70 rfl (by first | assumption | rfl) ?_
          refine ev_pV dR_namedValue_71 (hsm _ _ _ hp1 hnm) lR_102 (rec_S hr) rfl (Nat.le_of_ble_eq_true rfl) rfl (Nat.le_of_ble_eq_true rfl) ?_
          refine ev_if0 (tgt := 87) dR_namedValue_74 (by decide) (fun h74 => ?_) (fun h74 => ?_)
          · try simp (disch := omega) only [zcond, nI_ltI, nI_leI, nI_eq, zb0, Classical.not_not, Bool.not_eq_false, Bool.not_eq_true, Nat.not_lt, Nat.not_le] at h74
            refine ev_inc dR_namedValue_87 (by first | assumption | rfl) ?_
            rw [zd_dec]
            refine ev_goto (tgt := 10) dR_namedValue_90 (by decide) ?_
            refine ih _ (by omega) (by first | assumption | rfl) (by first | assumption | rfl) rfl ?_
            rw [pNv, if_neg ?_] at hR
            · exact hR
            · rintro ⟨⟨g1, g2⟩, g3⟩
              simp only [hfk] at g1 g2 g3
              first | omega | (rw [g3] at h74; cases h74)
          · try simp (disch := omega) only [zcond, nI_ltI, nI_leI, nI_eq, zb0, Classical.not_not, Bool.not_eq_false, Bool.not_eq_true, Nat.not_lt, Nat.not_le] at h74
            refine ev_al dR_namedValue_77 rfl (by first | assumption | rfl) ?_
            refine ev_getrP dR_namedValue_78 fR_21 (sh_R hr) (zq hP (pt_tree hr)) ?_
            refine ev_getrP dR_namedValue_81 fR_63 (sh_T hr) (zq hP (pt_values hr)) ?_
            refine ev_il dR_namedValue_84 rfl (by first | assumption | rfl) ?_
            refine ev_aldN dR_namedValue_85 rfl (sh_values hr) (by omega) ?_
            rw [hV k (by omega)]
            refine ev_ret dR_namedValue_86 rfl rfl ?_
            first
            | exact (h62 rfl).elim
            | exact (h62 trivial).elim
            | exact (h62 (Nat.le_refl _)).elim
            | (have g : (((fun k => (F k).toNatClampNeg) k + 1 < nT ∧ mk ((fun k => (F k).toNatClampNeg) k + 1) = 61) ∧ same ((fun k => (F k).toNatClampNeg) k) nm = true) := by
                 simp only [hfk]; exact ⟨⟨h34, h50⟩, h74⟩
               rw [pNv, if_pos g] at hR
               exact hR)
      · try simp (disch := omega) only [zcond, nI_ltI, nI_leI, nI_eq, zb0, Classical.not_not, Bool.not_eq_false, Bool.not_eq_true, Nat.not_lt, Nat.not_le] at h34
        refine ev_al dR_namedValue_37 rfl (by first | assumption | rfl) ?_
        refine ev_getrP dR_namedValue_38 fR_12 (sh_R hr) (zq hP (pt_source hr)) ?_
        refine ev_getrP dR_namedValue_41 fR_48 (sh_S hr) (zq hP (pt_marks hr)) ?_
        refine ev_il dR_namedValue_44 rfl (by first | assumption | rfl) ?_
        refine ev_const (v := nI 1) dR_namedValue_45 (by decide) ?_
        first | with_reducible refine ev_addN dR_namedValue_46 ?_ | refine ev_add dR_namedValue_46 ?_
        refine ev_aldN dR_namedValue_47 rfl (sh_marks hr) (by omega) ?_
        rw [(hE.2.2 (p + 1) h34).1]
        have hmk := (hE.2.2 (p + 1) h34).2
        refine ev_const (v := nI 61) dR_namedValue_48 (by decide) ?_
        refine ev_icmp (tgt := 57) dR_namedValue_50 (by decide) (fun h50 => ?_) (fun h50 => ?_)
        · try simp (disch := omega) only [zcond, nI_ltI, nI_leI, nI_eq, zb0, Classical.not_not, Bool.not_eq_false, Bool.not_eq_true, Nat.not_lt, Nat.not_le] at h50
          refine ev_const (v := nI 0) dR_namedValue_57 (by decide) ?_
          refine ev_is dR_namedValue_58 rfl (Nat.le_of_ble_eq_true rfl) ?_
          refine ev_il dR_namedValue_60 rfl (by first | assumption | rfl) ?_
          refine ev_if0 (tgt := 87) dR_namedValue_62 (by decide) (fun h62 => ?_) (fun h62 => ?_)
          · try simp (disch := omega) only [zcond, nI_ltI, nI_leI, nI_eq, zb0, Classical.not_not, Bool.not_eq_false, Bool.not_eq_true, Nat.not_lt, Nat.not_le] at h62
            refine ev_inc dR_namedValue_87 (by first | assumption | rfl) ?_
            rw [zd_dec]
            refine ev_goto (tgt := 10) dR_namedValue_90 (by decide) ?_
            refine ih _ (by omega) (by first | assumption | rfl) (by first | assumption | rfl) rfl ?_
            rw [pNv, if_neg ?_] at hR
            · exact hR
            · rintro ⟨⟨g1, g2⟩, g3⟩
              simp only [hfk] at g1 g2 g3
              first | omega | (rw [g3] at h74; cases h74)
          · try simp (disch := omega) only [zcond, nI_ltI, nI_leI, nI_eq, zb0, Classical.not_not, Bool.not_eq_false, Bool.not_eq_true, Nat.not_lt, Nat.not_le] at h62
            refine ev_al dR_namedValue_65 rfl (by first | assumption | rfl) ?_
            refine ev_getrP dR_namedValue_66 fR_12 (sh_R hr) (zq hP (pt_source hr)) ?_
            refine ev_il dR_namedValue_69 rfl (by first | assumption | rfl) ?_
            refine ev_il dR_namedValue_70 rfl (by first | assumption | rfl) ?_
            refine ev_pV dR_namedValue_71 (hsm _ _ _ hp1 hnm) lR_102 (rec_S hr) rfl (Nat.le_of_ble_eq_true rfl) rfl (Nat.le_of_ble_eq_true rfl) ?_
            refine ev_if0 (tgt := 87) dR_namedValue_74 (by decide) (fun h74 => ?_) (fun h74 => ?_)
            · try simp (disch := omega) only [zcond, nI_ltI, nI_leI, nI_eq, zb0, Classical.not_not, Bool.not_eq_false, Bool.not_eq_true, Nat.not_lt, Nat.not_le] at h74
              refine ev_inc dR_namedValue_87 (by first | assumption | rfl) ?_
              rw [zd_dec]
              refine ev_goto (tgt := 10) dR_namedValue_90 (by decide) ?_
              refine ih _ (by omega) (by first | assumption | rfl) (by first | assumption | rfl) rfl ?_
              rw [pNv, if_neg ?_] at hR
              · exact hR
              · rintro ⟨⟨g1, g2⟩, g3⟩
                simp only [hfk] at g1 g2 g3
                first | omega | (rw [g3] at h74; cases h74)
            · try simp (disch := omega) only [zcond, nI_ltI, nI_leI, nI_eq, zb0, Classical.not_not, Bool.not_eq_false, Bool.not_eq_true, Nat.not_lt, Nat.not_le] at h74
              refine ev_al dR_namedValue_77 rfl (by first | assumption | rfl) ?_
              refine ev_getrP dR_namedValue_78 fR_21 (sh_R hr) (zq hP (pt_tree hr)) ?_
              refine ev_getrP dR_namedValue_81 fR_63 (sh_T hr) (zq hP (pt_values hr)) ?_
              refine ev_il dR_namedValue_84 rfl (by first | assumption | rfl) ?_
              refine ev_aldN dR_namedValue_85 rfl (sh_values hr) (by omega) ?_
              rw [hV k (by omega)]
              refine ev_ret dR_namedValue_86 rfl rfl ?_
              first
              | exact (h62 rfl).elim
              | exact (h62 trivial).elim
              | exact (h62 (Nat.le_refl _)).elim
              | (have g : (((fun k => (F k).toNatClampNeg) k + 1 < nT ∧ mk ((fun k => (F k).toNatClampNeg) k + 1) = 61) ∧ same ((fun k => (F k).toNatClampNeg) k) nm = true) := by
                   simp only [hfk]; exact ⟨⟨h34, h50⟩, h74⟩
                 rw [pNv, if_pos g] at hR
                 exact hR)
        · try simp (disch := omega) only [zcond, nI_ltI, nI_leI, nI_eq, zb0, Classical.not_not, Bool.not_eq_false, Bool.not_eq_true, Nat.not_lt, Nat.not_le] at h50
          refine ev_const (v := nI 1) dR_namedValue_53 (by decide) ?_
          refine ev_goto (tgt := 58) dR_namedValue_54 (by decide) ?_
          refine ev_is dR_namedValue_58 rfl (Nat.le_of_ble_eq_true rfl) ?_
          refine ev_il dR_namedValue_60 rfl (by first | assumption | rfl) ?_
          refine ev_if0 (tgt := 87) dR_namedValue_62 (by decide) (fun h62 => ?_) (fun h62 => ?_)
          · try simp (disch := omega) only [zcond, nI_ltI, nI_leI, nI_eq, zb0, Classical.not_not, Bool.not_eq_false, Bool.not_eq_true, Nat.not_lt, Nat.not_le] at h62
            refine ev_inc dR_namedValue_87 (by first | assumption | rfl) ?_
            rw [zd_dec]
            refine ev_goto (tgt := 10) dR_namedValue_90 (by decide) ?_
            refine ih _ (by omega) (by first | assumption | rfl) (by first | assumption | rfl) rfl ?_
            rw [pNv, if_neg ?_] at hR
            · exact hR
            · rintro ⟨⟨g1, g2⟩, g3⟩
              simp only [hfk] at g1 g2 g3
              first | omega | (rw [g3] at h74; cases h74)
          · try simp (disch := omega) only [zcond, nI_ltI, nI_leI, nI_eq, zb0, Classical.not_not, Bool.not_eq_false, Bool.not_eq_true, Nat.not_lt, Nat.not_le] at h62
            refine ev_al dR_namedValue_65 rfl (by first | assumption | rfl) ?_
            refine ev_getrP dR_namedValue_66 fR_12 (sh_R hr) (zq hP (pt_source hr)) ?_
            refine ev_il dR_namedValue_69 rfl (by first | assumption | rfl) ?_
            refine ev_il dR_namedValue_70 rfl (by first | assumption | rfl) ?_
            refine ev_pV dR_namedValue_71 (hsm _ _ _ hp1 hnm) lR_102 (rec_S hr) rfl (Nat.le_of_ble_eq_true rfl) rfl (Nat.le_of_ble_eq_true rfl) ?_
            refine ev_if0 (tgt := 87) dR_namedValue_74 (by decide) (fun h74 => ?_) (fun h74 => ?_)
            · try simp (disch := omega) only [zcond, nI_ltI, nI_leI, nI_eq, zb0, Classical.not_not, Bool.not_eq_false, Bool.not_eq_true, Nat.not_lt, Nat.not_le] at h74
              refine ev_inc dR_namedValue_87 (by first | assumption | rfl) ?_
              rw [zd_dec]
              refine ev_goto (tgt := 10) dR_namedValue_90 (by decide) ?_
              refine ih _ (by omega) (by first | assumption | rfl) (by first | assumption | rfl) rfl ?_
              rw [pNv, if_neg ?_] at hR
              · exact hR
              · rintro ⟨⟨g1, g2⟩, g3⟩
                simp only [hfk] at g1 g2 g3
                first | omega | (rw [g3] at h74; cases h74)
            · try simp (disch := omega) only [zcond, nI_ltI, nI_leI, nI_eq, zb0, Classical.not_not, Bool.not_eq_false, Bool.not_eq_true, Nat.not_lt, Nat.not_le] at h74
              refine ev_al dR_namedValue_77 rfl (by first | assumption | rfl) ?_
              refine ev_getrP dR_namedValue_78 fR_21 (sh_R hr) (zq hP (pt_tree hr)) ?_
              refine ev_getrP dR_namedValue_81 fR_63 (sh_T hr) (zq hP (pt_values hr)) ?_
              refine ev_il dR_namedValue_84 rfl (by first | assumption | rfl) ?_
              refine ev_aldN dR_namedValue_85 rfl (sh_values hr) (by omega) ?_
              rw [hV k (by omega)]
              refine ev_ret dR_namedValue_86 rfl rfl ?_
              first
              | exact (h62 rfl).elim
              | exact (h62 trivial).elim
              | exact (h62 (Nat.le_refl _)).elim
              | (have g : (((fun k => (F k).toNatClampNeg) k + 1 < nT ∧ mk ((fun k => (F k).toNatClampNeg) k + 1) = 61) ∧ same ((fun k => (F k).toNatClampNeg) k) nm = true) := by
                   simp only [hfk]; exact ⟨⟨h34, h50⟩, h74⟩
                 rw [pNv, if_pos g] at hR
                 exact hR)
set_option maxRecDepth 100000 in
set_option maxHeartbeats 4000000 in
theorem c_namedValue {c nm : Nat} {F V : Nat → Int32} (hP : M.2.1 = zP0 n b) (hr : zR r) (hE : Mks M r nT mk) (hc : M.1 (r + 2) 5 = nI c) (hc1 : 1 ≤ c) (hc2 : c ≤ 160) (hnm : nm < nT) (hF : ∀ k, k < c → M.1 (r + 6) k = F k) (hF2 : ∀ k, k < c → ∃ p, p < nT ∧ F k = nI p) (hV : ∀ k, k < c → M.1 (r + 9) k = V k) (hsm : ∀ d a z, a < nT → z < nT → Pu Lx xs d mS_areSame [.ref (r + 1), .int (nI a), .int (nI z)] M (nI (same a z).toNat)) : Pu Lx xs (d + 1) mR_namedValue [.ref r, .int (nI nm)] M (pNv nT mk same (fun k => (F k).toNatClampNeg) V (c - 1) nm) := by
  unfold Pu Ct
  refine ev_al dR_namedValue_0 rfl (by first | assumption | rfl) ?_
  refine ev_getrP dR_namedValue_1 fR_21 (sh_R hr) (zq hP (pt_tree hr)) ?_
  refine ev_geti dR_namedValue_4 fR_33 (sh_T hr) ?_
  rw [hc]
  refine ev_const (v := nI 2) dR_namedValue_7 (by decide) ?_
  refine ev_sub dR_namedValue_8 ?_
  rw [zd_ini hc1]
  refine ev_is dR_namedValue_9 rfl (Nat.le_of_ble_eq_true rfl) ?_
  exact l_namedValue hP hr hE hc2 hnm hF hF2 hV hsm (c - 1) _ (by omega) rfl rfl rfl ⟨rfl, rfl⟩
end
end
section
/- Reading: items, blocks, all tokens (rows laid by program) -/
theorem ev_mem {Lx : Nat} {xs : Nat → Int32} {d : Nat} {y : zY} {pc : Nat} {L : Nat → Value} {st : List Value} {M M' : zM} {Q : zQ} (h : M = M') (k : Ev Lx xs d y pc L st M' Q) : Ev Lx xs d y pc L st M Q := by subst h; exact k
def zSrc (r : Nat) (M MM : zM) : Prop := MM.2.1 = M.2.1 ∧ ∀ a i, (a = r + 1 ∨ a = r + 3 ∨ a = r + 4 ∨ a = r + 5) → MM.1 a i = M.1 a i
/-- what reading items needs of the source -/
def iOk (Lx : Nat) (xs : Nat → Int32) (M : zM) (n b r nT : Nat) (mk : Nat → Nat) (tv : Nat → Int32) (sl : Nat → Nat) (same : Nat → Nat → Bool) : Prop :=
  M.2.1 = zP0 n b ∧ zR r ∧ Mks M r nT mk ∧ ∀ MM, zSrc r M MM → (∀ d k, k < nT → Pu Lx xs d mS_lengthOf [.ref (r + 1), .int (nI k)] MM (nI (sl k))) ∧ (∀ d k, k < nT → mk k = 48 → Pu Lx xs (d + 1) mS_digitsValue [.ref (r + 1), .int (nI k)] MM (tv k)) ∧ (∀ d a z, a < nT → z < nT → Pu Lx xs d mS_areSame [.ref (r + 1), .int (nI a), .int (nI z)] MM (nI (same a z).toNat))
section
variable {Lx : Nat} {xs : Nat → Int32} {M : zM} {n b r nT : Nat} {mk : Nat → Nat} {tv : Nat → Int32} {sl : Nat → Nat} {same : Nat → Nat → Bool}
theorem Mks.R {T : pTr} (h : Mks M r nT mk) : Mks (mR M r T) r nT mk :=
  ⟨(mR_o (by omega)).trans h.1, h.2.1, fun k hk => ⟨(mR_o (by omega)).trans (h.2.2 k hk).1, (h.2.2 k hk).2⟩⟩
theorem zSrc_ER {T : pTr} {s : pE} : zSrc r M (mE (mR M r T) r s) :=
  ⟨rfl, fun a i h => (mE_o (by omega)).trans (mR_o (by omega))⟩
theorem xOk_of {T : pTr} (h : iOk Lx xs M n b r nT mk tv sl same) (hT : tOk nT T) (h1 : 1 ≤ T.1) : xOk Lx xs (mR M r T) n b r nT mk tv sl (pNvT nT mk same T) := by
  obtain ⟨hP, hr, hE, hs⟩ := h
  refine ⟨hP, hr, hE.R, fun d k s hk => (hs _ zSrc_ER).1 _ k hk, fun d k s hk hm => (hs _ zSrc_ER).2.1 _ k hk hm, fun d k s hk hm => ?_⟩
  exact c_namedValue hP hr hE.R.E ((mE_o (by omega)).trans mR_c) h1 hT.1 hk (fun k _ => (mE_o (by omega)).trans mR_F) hT.2 (fun k _ => (mE_o (by omega)).trans mR_A) (hs _ zSrc_ER).2.2
theorem pi_blk {f dp i : Nat} {s : pE} {T : pTr} (hc : ¬ (nT ≤ s.1 ∨ 160 ≤ T.1)) (hs : pS nT mk s 123 = true) : pi nT mk tv sl same (f + 1) 0 dp i s T = (((pB nT mk tv sl same f dp s (pBg T s.1 dp)).1.1, pLa (pVa (pB nT mk tv sl same f dp s (pBg T s.1 dp)).1.2 T.1 (nI (pB nT mk tv sl same f dp s (pBg T s.1 dp)).2)) T.1 (nI (pB nT mk tv sl same f dp s (pBg T s.1 dp)).1.1.1 - nI 1)), i) := by
  rw [pi, if_neg hc, if_pos hs]
  unfold pB
  split <;> rfl
theorem pi_def {f dp i : Nat} {s : pE} {T : pTr} (hc : ¬ (nT ≤ s.1 ∨ 160 ≤ T.1)) (hs : pS nT mk s 123 = false) : pi nT mk tv sl same (f + 1) 0 dp i s T = ((pN nT mk (pDef nT mk tv sl same dp s (pBg T s.1 dp)).1 59, pLa (pVa (pBg T s.1 dp) T.1 (pDef nT mk tv sl same dp s (pBg T s.1 dp)).2) T.1 (nI (pN nT mk (pDef nT mk tv sl same dp s (pBg T s.1 dp)).1 59).1 - nI 1)), i) := by
  rw [pi, if_neg hc, if_neg (by rw [hs]; decide)]
def iNeed (nT : Nat) (s : pE) : Nat := if s.2 = true then 0 else 2 * (nT - s.1) + 2
def iItm (Lx : Nat) (xs : Nat → Int32) (M : zM) (r nT : Nat) (mk : Nat → Nat) (tv : Nat → Int32) (sl : Nat → Nat) (same : Nat → Nat → Bool) (f : Nat) : Prop := ∀ (D dp : Nat) (s : pE) (T : pTr), f + 820 ≤ D → dp ≤ 12 → s.1 ≤ nT → s.2 = false → tOk nT T → 2 * (nT - s.1) + 1 < f → Ct Lx xs D mR_readItem [.ref r, .int (nI dp)] (mE (mR M r T) r s) (fun q M' => q = none ∧ M' = mE (mR M r (pi nT mk tv sl same f 0 dp 0 s T).1.2) r (pi nT mk tv sl same f 0 dp 0 s T).1.1)
def iBlk (Lx : Nat) (xs : Nat → Int32) (M : zM) (r nT : Nat) (mk : Nat → Nat) (tv : Nat → Int32) (sl : Nat → Nat) (same : Nat → Nat → Bool) (f : Nat) : Prop := ∀ (D dp : Nat) (s : pE) (T : pTr), f + 820 ≤ D → dp ≤ 12 → s.1 ≤ nT → pS nT mk s 123 = true → tOk nT T → 2 * (nT - s.1) < f → Ct Lx xs D mR_readBlock [.ref r, .int (nI dp)] (mE (mR M r T) r s) (fun q M' => q = some (nI (pB nT mk tv sl same f dp s T).2) ∧ M' = mE (mR M r (pB nT mk tv sl same f dp s T).1.2) r (pB nT mk tv sl same f dp s T).1.1)
def iLop (Lx : Nat) (xs : Nat → Int32) (M : zM) (r nT : Nat) (mk : Nat → Nat) (tv : Nat → Int32) (sl : Nat → Nat) (same : Nat → Nat → Bool) (f : Nat) : Prop := ∀ (D dp i : Nat) (s : pE) (T : pTr) (L : Nat → Value) (R : Option Int32 → zM → Prop), f + 820 ≤ D → dp < 12 → s.1 ≤ nT → tOk nT T → iNeed nT s < f → i ≤ 160 → L 0 = .ref r → L 1 = .int (nI dp) → L 2 = .int (nI i) → R (some (nI (pi nT mk tv sl same f 1 dp i s T).2)) (mE (mR M r (pi nT mk tv sl same f 1 dp i s T).1.2) r (pN nT mk (pi nT mk tv sl same f 1 dp i s T).1.1 125)) → Ev Lx xs D mR_readBlock 12 L [] (mE (mR M r T) r s) (zpost mR_readBlock R)
set_option maxRecDepth 100000 in
set_option maxHeartbeats 4000000 in
theorem i_itm (hx : iOk Lx xs M n b r nT mk tv sl same) {f : Nat} (ihB : iBlk Lx xs M r nT mk tv sl same f) : iItm Lx xs M r nT mk tv sl same (f + 1) := by
  have hi := hx
  obtain ⟨hP, hr, hE, hsrc⟩ := hx
  have hnT := hE.2.1
  intro D dp s T hD hdp hs hu hT hn
  have hT1 := hT.1
  obtain ⟨D0, rfl⟩ : ∃ D0, D = D0 + 7 := ⟨D - 7, by omega⟩
  unfold Ct
  refine ev_al dR_readItem_0 rfl (by first | assumption | rfl) ?_
  refine ev_geti dR_readItem_1 fR_25 (sh_R hr) ?_
  rw [mE_n]
  refine ev_al dR_readItem_4 rfl (by first | assumption | rfl) ?_
  refine ev_getrP dR_readItem_5 fR_12 (sh_R hr) (zq hP (pt_source hr)) ?_
  refine ev_geti dR_readItem_8 fR_36 (sh_S hr) ?_
  rw [hE.R.E.1]
  refine ev_icmp (tgt := 27) dR_readItem_11 (by decide) (fun h11 => ?_) (fun h11 => ?_)
  · try simp (disch := omega) only [zcond, nI_ltI, nI_leI, nI_eq, zb0, Classical.not_not, Bool.not_eq_false, Bool.not_eq_true, Nat.not_lt, Nat.not_le] at h11
    refine ev_al dR_readItem_27 rfl (by first | assumption | rfl) ?_
    refine ev_const (v := nI 1) dR_readItem_28 (by decide) ?_
    refine ev_puti dR_readItem_29 fR_29 fwR_stopped (sh_R hr) rfl rfl ?_
    rw [mE_S1]
    refine ev_vret dR_readItem_32 rfl ?_
    rw [show pi nT mk tv sl same (f + 1) 0 dp 0 s T = (((s.1, true), T), 0) by rw [pi, if_pos (by omega)]]
    exact ⟨rfl, rfl⟩
  · try simp (disch := omega) only [zcond, nI_ltI, nI_leI, nI_eq, zb0, Classical.not_not, Bool.not_eq_false, Bool.not_eq_true, Nat.not_lt, Nat.not_le] at h11
    refine ev_al dR_readItem_14 rfl (by first | assumption | rfl) ?_
    refine ev_getrP dR_readItem_15 fR_21 (sh_R hr) (zq hP (pt_tree hr)) ?_
    refine ev_geti dR_readItem_18 fR_33 (sh_T hr) ?_
    rw [mE_o (by omega), mR_c]
    refine ev_const (v := nI 160) dR_readItem_21 (by decide) ?_
    refine ev_icmp (tgt := 33) dR_readItem_24 (by decide) (fun h24 => ?_) (fun h24 => ?_)
    · try simp (disch := omega) only [zcond, nI_ltI, nI_leI, nI_eq, zb0, Classical.not_not, Bool.not_eq_false, Bool.not_eq_true, Nat.not_lt, Nat.not_le] at h24
      have hlt : s.1 < nT := by omega
      have hct : T.1 < 160 := by omega
      refine ev_al dR_readItem_33 rfl (by first | assumption | rfl) ?_
      refine ev_getrP dR_readItem_34 fR_21 (sh_R hr) (zq hP (pt_tree hr)) ?_
      refine ev_geti dR_readItem_37 fR_33 (sh_T hr) ?_
      rw [mE_o (by omega), mR_c]
      refine ev_is dR_readItem_40 rfl (Nat.le_of_ble_eq_true rfl) ?_
      refine ev_al dR_readItem_41 rfl (by first | assumption | rfl) ?_
      refine ev_geti dR_readItem_42 fR_25 (sh_R hr) ?_
      rw [mE_n]
      refine ev_is dR_readItem_45 rfl (Nat.le_of_ble_eq_true rfl) ?_
      refine ev_al dR_readItem_46 rfl (by first | assumption | rfl) ?_
      refine ev_getrP dR_readItem_47 fR_21 (sh_R hr) (zq hP (pt_tree hr)) ?_
      refine ev_stk dR_readItem_50 rfl ?_
      refine ev_geti dR_readItem_51 fR_33 (sh_T hr) ?_
      rw [mE_o (by omega), mR_c]
      refine ev_const (v := nI 1) dR_readItem_54 (by decide) ?_
      first | with_reducible refine ev_addN dR_readItem_55 ?_ | refine ev_add dR_readItem_55 ?_
      refine ev_puti dR_readItem_56 fR_33 fwT_count (sh_T hr) (vp_nar_int _) rfl ?_
      refine ev_mem (M' := mE (mR M r (T.1 + 1, T.2)) r s) (by rw [zIE (by omega), mR_cnt]) ?_
      refine ev_al dR_readItem_59 rfl (by first | assumption | rfl) ?_
      refine ev_getrP dR_readItem_60 fR_21 (sh_R hr) (zq hP (pt_tree hr)) ?_
      refine ev_getrP dR_readItem_63 fR_56 (sh_T hr) (zq hP (pt_firsts hr)) ?_
      refine ev_il dR_readItem_66 rfl (by first | assumption | rfl) ?_
      refine ev_il dR_readItem_67 rfl (by first | assumption | rfl) ?_
      refine ev_iastN dR_readItem_68 (sh_firsts hr) hct ?_
      refine ev_mem (M' := mE (mR M r (T.1 + 1, upd T.2.1 T.1 (nI s.1), T.2.2)) r s) (by rw [zIE (by omega), mR_first]) ?_
      refine ev_al dR_readItem_69 rfl (by first | assumption | rfl) ?_
      refine ev_getrP dR_readItem_70 fR_21 (sh_R hr) (zq hP (pt_tree hr)) ?_
      refine ev_getrP dR_readItem_73 fR_60 (sh_T hr) (zq hP (pt_levels hr)) ?_
      refine ev_il dR_readItem_76 rfl (by first | assumption | rfl) ?_
      refine ev_il dR_readItem_77 rfl (by first | assumption | rfl) ?_
      refine ev_iastN dR_readItem_78 (sh_levels hr) hct ?_
      refine ev_mem (M' := (mE (mR M r (pBg T s.1 dp)) r s)) (by rw [zIE (by omega), mR_level]; rfl) ?_
      refine ev_al dR_readItem_79 rfl (by first | assumption | rfl) ?_
      refine ev_const (v := nI 123) dR_readItem_80 (by decide) ?_
      refine ev_pV dR_readItem_82 (c_sees (M := mR M r (pBg T s.1 dp)) hP hr hE.R (by omega) (by decide)) lR_52 (rec_R hr) rfl (Nat.le_of_ble_eq_true rfl) rfl (Nat.le_of_ble_eq_true rfl) ?_
      refine ev_if0 (tgt := 105) dR_readItem_85 (by decide) (fun h85 => ?_) (fun h85 => ?_)
      · try simp (disch := omega) only [zcond, nI_ltI, nI_leI, nI_eq, zb0, Classical.not_not, Bool.not_eq_false, Bool.not_eq_true, Nat.not_lt, Nat.not_le] at h85
        refine ev_al dR_readItem_105 rfl (by first | assumption | rfl) ?_
        refine ev_const (v := nI 97) dR_readItem_106 (by decide) ?_
        refine ev_cV dR_readItem_108 (c_needs (M := mR M r (pBg T s.1 dp)) hP hr hE.R (by omega) (by decide)) lR_69 (rec_R hr) rfl (Nat.le_of_ble_eq_true rfl) rfl (Nat.le_of_ble_eq_true rfl) (fun q M1 hq => ?_)
        obtain ⟨rfl, rfl⟩ := hq
        have hsN : (pN nT mk s 97).1 ≤ nT := (pN_ok s 97).2.1 hs
        refine ev_al dR_readItem_111 rfl (by first | assumption | rfl) ?_
        refine ev_getrP dR_readItem_112 fR_21 (sh_R hr) (zq hP (pt_tree hr)) ?_
        refine ev_getrP dR_readItem_115 fR_63 (sh_T hr) (zq hP (pt_values hr)) ?_
        refine ev_il dR_readItem_118 rfl (by first | assumption | rfl) ?_
        refine ev_al dR_readItem_119 rfl (by first | assumption | rfl) ?_
        refine ev_const (v := nI 61) dR_readItem_120 (by decide) ?_
        refine ev_cV dR_readItem_122 (c_takes (M := mR M r (pBg T s.1 dp)) (s := (pN nT mk s 97)) hP hr hE.R (by omega) (by decide)) lR_73 (rec_R hr) rfl (Nat.le_of_ble_eq_true rfl) rfl (Nat.le_of_ble_eq_true rfl) (fun q M1 hq => ?_)
        obtain ⟨rfl, rfl⟩ := hq
        refine ev_if0 (tgt := 136) dR_readItem_125 (by decide) (fun h125 => ?_) (fun h125 => ?_)
        · try simp (disch := omega) only [zcond, nI_ltI, nI_leI, nI_eq, zb0, Classical.not_not, Bool.not_eq_false, Bool.not_eq_true, Nat.not_lt, Nat.not_le] at h125
          first | rw [pT_t h125] | rw [pT_f h125]
          try obtain ⟨hu125, hlt125, hmk125⟩ := pS_iff.mp h125
          refine ev_al dR_readItem_136 rfl (by first | assumption | rfl) ?_
          refine ev_il dR_readItem_137 rfl (by first | assumption | rfl) ?_
          refine ev_il dR_readItem_138 rfl (by first | assumption | rfl) ?_
          refine ev_cV dR_readItem_139 ((x_all (xOk_of hi (hT.bg (dp := dp) hlt hct) (Nat.le_add_left 1 T.1)) 810).2.2.1 (D0 + 6) dp s.1 (pN nT mk s 97) (by omega) hdp hlt hsN (by simp [pNeed]; omega)) lR_79 (rec_R hr) rfl (Nat.le_of_ble_eq_true rfl) rfl (Nat.le_of_ble_eq_true rfl) (fun q M1 hq => ?_)
          obtain ⟨rfl, rfl⟩ := hq
          refine ev_iastN dR_readItem_142 (sh_values hr) hct ?_
          refine ev_mem (M' := mE (mR M r (pVa (pBg T s.1 dp) T.1 (pDef nT mk tv sl same dp s (pBg T s.1 dp)).2)) r (pDef nT mk tv sl same dp s (pBg T s.1 dp)).1) (by rw [zIE (by omega), mR_value]; unfold pDef; first | rw [if_pos h125] | rw [if_neg (by rw [h125]; decide)]) ?_
          refine ev_al dR_readItem_143 rfl (by first | assumption | rfl) ?_
          refine ev_const (v := nI 59) dR_readItem_144 (by decide) ?_
          refine ev_cV dR_readItem_146 (c_needs (M := mR M r (pVa (pBg T s.1 dp) T.1 (pDef nT mk tv sl same dp s (pBg T s.1 dp)).2)) hP hr hE.R (Nat.lt_of_le_of_lt ((pDef_ok dp s (pBg T s.1 dp)).2.1 hs) (by omega)) (by decide)) lR_69 (rec_R hr) rfl (Nat.le_of_ble_eq_true rfl) rfl (Nat.le_of_ble_eq_true rfl) (fun q M1 hq => ?_)
          obtain ⟨rfl, rfl⟩ := hq
          refine ev_al dR_readItem_149 rfl (by first | assumption | rfl) ?_
          refine ev_getrP dR_readItem_150 fR_21 (sh_R hr) (zq hP (pt_tree hr)) ?_
          refine ev_getrP dR_readItem_153 fR_83 (sh_T hr) (zq hP (pt_lasts hr)) ?_
          refine ev_il dR_readItem_156 rfl (by first | assumption | rfl) ?_
          refine ev_al dR_readItem_157 rfl (by first | assumption | rfl) ?_
          refine ev_geti dR_readItem_158 fR_25 (sh_R hr) ?_
          rw [mE_n]
          refine ev_const (v := nI 1) dR_readItem_161 (by decide) ?_
          refine ev_sub dR_readItem_162 ?_
          refine ev_iastN dR_readItem_163 (sh_lasts hr) hct ?_
          refine ev_vret dR_readItem_164 rfl ?_
          refine ⟨rfl, ?_⟩
          rw [zIE (by omega), mR_last]
          first | rw [pi_blk (by omega) h85] | rw [pi_def (by omega) h85]
        · try simp (disch := omega) only [zcond, nI_ltI, nI_leI, nI_eq, zb0, Classical.not_not, Bool.not_eq_false, Bool.not_eq_true, Nat.not_lt, Nat.not_le] at h125
          first | rw [pT_t h125] | rw [pT_f h125]
          try obtain ⟨hu125, hlt125, hmk125⟩ := pS_iff.mp h125
          refine ev_al dR_readItem_128 rfl (by first | assumption | rfl) ?_
          refine ev_il dR_readItem_129 rfl (by first | assumption | rfl) ?_
          refine ev_cV dR_readItem_130 ((x_all (xOk_of hi (hT.bg (dp := dp) hlt hct) (Nat.le_add_left 1 T.1)) 810).1 (D0 + 6) dp ((pN nT mk s 97).1 + 1, (pN nT mk s 97).2) (by omega) hdp hlt125 (by simp [pNeed]; omega)) lR_76 (rec_R hr) rfl (Nat.le_of_ble_eq_true rfl) rfl (Nat.le_of_ble_eq_true rfl) (fun q M1 hq => ?_)
          obtain ⟨rfl, rfl⟩ := hq
          refine ev_goto (tgt := 142) dR_readItem_133 (by decide) ?_
          refine ev_iastN dR_readItem_142 (sh_values hr) hct ?_
          refine ev_mem (M' := mE (mR M r (pVa (pBg T s.1 dp) T.1 (pDef nT mk tv sl same dp s (pBg T s.1 dp)).2)) r (pDef nT mk tv sl same dp s (pBg T s.1 dp)).1) (by rw [zIE (by omega), mR_value]; unfold pDef; first | rw [if_pos h125] | rw [if_neg (by rw [h125]; decide)]) ?_
          refine ev_al dR_readItem_143 rfl (by first | assumption | rfl) ?_
          refine ev_const (v := nI 59) dR_readItem_144 (by decide) ?_
          refine ev_cV dR_readItem_146 (c_needs (M := mR M r (pVa (pBg T s.1 dp) T.1 (pDef nT mk tv sl same dp s (pBg T s.1 dp)).2)) hP hr hE.R (Nat.lt_of_le_of_lt ((pDef_ok dp s (pBg T s.1 dp)).2.1 hs) (by omega)) (by decide)) lR_69 (rec_R hr) rfl (Nat.le_of_ble_eq_true rfl) rfl (Nat.le_of_ble_eq_true rfl) (fun q M1 hq => ?_)
          obtain ⟨rfl, rfl⟩ := hq
          refine ev_al dR_readItem_149 rfl (by first | assumption | rfl) ?_
          refine ev_getrP dR_readItem_150 fR_21 (sh_R hr) (zq hP (pt_tree hr)) ?_
          refine ev_getrP dR_readItem_153 fR_83 (sh_T hr) (zq hP (pt_lasts hr)) ?_
          refine ev_il dR_readItem_156 rfl (by first | assumption | rfl) ?_
          refine ev_al dR_readItem_157 rfl (by first | assumption | rfl) ?_
          refine ev_geti dR_readItem_158 fR_25 (sh_R hr) ?_
          rw [mE_n]
          refine ev_const (v := nI 1) dR_readItem_161 (by decide) ?_
          refine ev_sub dR_readItem_162 ?_
          refine ev_iastN dR_readItem_163 (sh_lasts hr) hct ?_
          refine ev_vret dR_readItem_164 rfl ?_
          refine ⟨rfl, ?_⟩
          rw [zIE (by omega), mR_last]
          first | rw [pi_blk (by omega) h85] | rw [pi_def (by omega) h85]
      · try simp (disch := omega) only [zcond, nI_ltI, nI_leI, nI_eq, zb0, Classical.not_not, Bool.not_eq_false, Bool.not_eq_true, Nat.not_lt, Nat.not_le] at h85
        refine ev_al dR_readItem_88 rfl (by first | assumption | rfl) ?_
        refine ev_getrP dR_readItem_89 fR_21 (sh_R hr) (zq hP (pt_tree hr)) ?_
        refine ev_getrP dR_readItem_92 fR_63 (sh_T hr) (zq hP (pt_values hr)) ?_
        refine ev_il dR_readItem_95 rfl (by first | assumption | rfl) ?_
        refine ev_al dR_readItem_96 rfl (by first | assumption | rfl) ?_
        refine ev_il dR_readItem_97 rfl (by first | assumption | rfl) ?_
        refine ev_cV dR_readItem_98 (ihB (D0 + 6) dp s (pBg T s.1 dp) (by omega) hdp hs h85 (hT.bg hlt hct) (by omega)) lR_66 (rec_R hr) rfl (Nat.le_of_ble_eq_true rfl) rfl (Nat.le_of_ble_eq_true rfl) (fun q M1 hq => ?_)
        obtain ⟨rfl, rfl⟩ := hq
        refine ev_iastN dR_readItem_101 (sh_values hr) hct ?_
        refine ev_mem (M' := mE (mR M r (pVa (pB nT mk tv sl same f dp s (pBg T s.1 dp)).1.2 T.1 (nI (pB nT mk tv sl same f dp s (pBg T s.1 dp)).2))) r (pB nT mk tv sl same f dp s (pBg T s.1 dp)).1.1) (by rw [zIE (by omega), mR_value]) ?_
        refine ev_goto (tgt := 149) dR_readItem_102 (by decide) ?_
        refine ev_al dR_readItem_149 rfl (by first | assumption | rfl) ?_
        refine ev_getrP dR_readItem_150 fR_21 (sh_R hr) (zq hP (pt_tree hr)) ?_
        refine ev_getrP dR_readItem_153 fR_83 (sh_T hr) (zq hP (pt_lasts hr)) ?_
        refine ev_il dR_readItem_156 rfl (by first | assumption | rfl) ?_
        refine ev_al dR_readItem_157 rfl (by first | assumption | rfl) ?_
        refine ev_geti dR_readItem_158 fR_25 (sh_R hr) ?_
        rw [mE_n]
        refine ev_const (v := nI 1) dR_readItem_161 (by decide) ?_
        refine ev_sub dR_readItem_162 ?_
        refine ev_iastN dR_readItem_163 (sh_lasts hr) hct ?_
        refine ev_vret dR_readItem_164 rfl ?_
        refine ⟨rfl, ?_⟩
        rw [zIE (by omega), mR_last]
        first | rw [pi_blk (by omega) h85] | rw [pi_def (by omega) h85]
    · try simp (disch := omega) only [zcond, nI_ltI, nI_leI, nI_eq, zb0, Classical.not_not, Bool.not_eq_false, Bool.not_eq_true, Nat.not_lt, Nat.not_le] at h24
      refine ev_al dR_readItem_27 rfl (by first | assumption | rfl) ?_
      refine ev_const (v := nI 1) dR_readItem_28 (by decide) ?_
      refine ev_puti dR_readItem_29 fR_29 fwR_stopped (sh_R hr) rfl rfl ?_
      rw [mE_S1]
      refine ev_vret dR_readItem_32 rfl ?_
      rw [show pi nT mk tv sl same (f + 1) 0 dp 0 s T = (((s.1, true), T), 0) by rw [pi, if_pos (by omega)]]
      exact ⟨rfl, rfl⟩
set_option maxRecDepth 100000 in
set_option maxHeartbeats 4000000 in
theorem i_blk (hx : iOk Lx xs M n b r nT mk tv sl same) {f : Nat} (ihL : iLop Lx xs M r nT mk tv sl same f) : iBlk Lx xs M r nT mk tv sl same f := by
  have hi := hx
  obtain ⟨hP, hr, hE, hsrc⟩ := hx
  have hnT := hE.2.1
  intro D dp s T hD hdp hs h123 hT hn
  obtain ⟨D0, rfl⟩ : ∃ D0, D = D0 + 7 := ⟨D - 7, by omega⟩
  unfold Ct
  refine ev_const (v := nI 0) dR_readBlock_0 (by decide) ?_
  refine ev_is dR_readBlock_1 rfl (Nat.le_of_ble_eq_true rfl) ?_
  refine ev_al dR_readBlock_2 rfl (by first | assumption | rfl) ?_
  refine ev_const (v := nI 123) dR_readBlock_3 (by decide) ?_
  refine ev_il dR_readBlock_5 rfl (by first | assumption | rfl) ?_
  refine ev_cV dR_readBlock_6 (c_opens hP hr hE.R (by omega) (by decide) (by omega)) lR_86 (rec_R hr) rfl (Nat.le_of_ble_eq_true rfl) rfl (Nat.le_of_ble_eq_true rfl) (fun q M1 hq => ?_)
  obtain ⟨rfl, rfl⟩ := hq
  refine ev_if0 (tgt := 54) dR_readBlock_9 (by decide) (fun h9 => ?_) (fun h9 => ?_)
  · try simp (disch := omega) only [zcond, nI_ltI, nI_leI, nI_eq, zb0, Classical.not_not, Bool.not_eq_false, Bool.not_eq_true, Nat.not_lt, Nat.not_le] at h9
    refine ev_il dR_readBlock_54 rfl (by first | assumption | rfl) ?_
    refine ev_ret dR_readBlock_55 rfl rfl ?_
    unfold pB
    rw [if_neg (by rw [h9]; decide)]
    exact ⟨rfl, rfl⟩
  · try simp (disch := omega) only [zcond, nI_ltI, nI_leI, nI_eq, zb0, Classical.not_not, Bool.not_eq_false, Bool.not_eq_true, Nat.not_lt, Nat.not_le] at h9
    obtain ⟨ho1, ho2, ho3⟩ := pOb_t h9
    rw [ho3]
    obtain ⟨hu9, hlt9, hmk9⟩ := pS_iff.mp ho1
    refine ihL (D0 + 7) dp 0 (s.1 + 1, s.2) T _ _ (by omega) ho2 hlt9 hT (by simp [iNeed, hu9]; omega) (by omega) rfl rfl rfl ?_
    unfold pB
    rw [if_pos h9]
    exact ⟨rfl, rfl⟩
set_option maxRecDepth 100000 in
set_option maxHeartbeats 4000000 in
theorem i_lop (hx : iOk Lx xs M n b r nT mk tv sl same) {f : Nat} (ihI : iItm Lx xs M r nT mk tv sl same f) (ihL : iLop Lx xs M r nT mk tv sl same f) : iLop Lx xs M r nT mk tv sl same (f + 1) := by
  have hi := hx
  obtain ⟨hP, hr, hE, hsrc⟩ := hx
  have hnT := hE.2.1
  intro D dp i s T L R hD hdp hs hT hn hi160 hL0 hL1 hL2 hR
  obtain ⟨D0, rfl⟩ : ∃ D0, D = D0 + 7 := ⟨D - 7, by omega⟩
  refine ev_il dR_readBlock_12 rfl (by first | assumption | rfl) ?_
  refine ev_const (v := nI 160) dR_readBlock_13 (by decide) ?_
  refine ev_icmp (tgt := 48) dR_readBlock_16 (by decide) (fun h16 => ?_) (fun h16 => ?_)
  · try simp (disch := omega) only [zcond, nI_ltI, nI_leI, nI_eq, zb0, Classical.not_not, Bool.not_eq_false, Bool.not_eq_true, Nat.not_lt, Nat.not_le] at h16
    refine ev_al dR_readBlock_48 rfl (by first | assumption | rfl) ?_
    refine ev_const (v := nI 125) dR_readBlock_49 (by decide) ?_
    refine ev_cV dR_readBlock_51 (c_needs hP hr hE.R (by omega) (by decide)) lR_69 (rec_R hr) rfl (Nat.le_of_ble_eq_true rfl) rfl (Nat.le_of_ble_eq_true rfl) (fun q M1 hq => ?_)
    obtain ⟨rfl, rfl⟩ := hq
    refine ev_il dR_readBlock_54 rfl (by first | assumption | rfl) ?_
    refine ev_ret dR_readBlock_55 rfl rfl ?_
    rw [show pi nT mk tv sl same (f + 1) 1 dp i s T = ((s, T), i) by
      rw [pi]
      · rw [if_pos (by first | exact Or.inl (by omega) | exact Or.inr (Or.inl h23) | exact Or.inr (Or.inr h32))]
      · omega] at hR
    exact hR
  · try simp (disch := omega) only [zcond, nI_ltI, nI_leI, nI_eq, zb0, Classical.not_not, Bool.not_eq_false, Bool.not_eq_true, Nat.not_lt, Nat.not_le] at h16
    refine ev_al dR_readBlock_19 rfl (by first | assumption | rfl) ?_
    refine ev_geti dR_readBlock_20 fR_29 (sh_R hr) ?_
    rw [mE_s]
    refine ev_if0 (tgt := 48) dR_readBlock_23 (by decide) (fun h23 => ?_) (fun h23 => ?_)
    · try simp (disch := omega) only [zcond, nI_ltI, nI_leI, nI_eq, zb0, Classical.not_not, Bool.not_eq_false, Bool.not_eq_true, Nat.not_lt, Nat.not_le] at h23
      refine ev_al dR_readBlock_48 rfl (by first | assumption | rfl) ?_
      refine ev_const (v := nI 125) dR_readBlock_49 (by decide) ?_
      refine ev_cV dR_readBlock_51 (c_needs hP hr hE.R (by omega) (by decide)) lR_69 (rec_R hr) rfl (Nat.le_of_ble_eq_true rfl) rfl (Nat.le_of_ble_eq_true rfl) (fun q M1 hq => ?_)
      obtain ⟨rfl, rfl⟩ := hq
      refine ev_il dR_readBlock_54 rfl (by first | assumption | rfl) ?_
      refine ev_ret dR_readBlock_55 rfl rfl ?_
      rw [show pi nT mk tv sl same (f + 1) 1 dp i s T = ((s, T), i) by
        rw [pi]
        · rw [if_pos (by first | exact Or.inl (by omega) | exact Or.inr (Or.inl h23) | exact Or.inr (Or.inr h32))]
        · omega] at hR
      exact hR
    · try simp (disch := omega) only [zcond, nI_ltI, nI_leI, nI_eq, zb0, Classical.not_not, Bool.not_eq_false, Bool.not_eq_true, Nat.not_lt, Nat.not_le] at h23
      refine ev_al dR_readBlock_26 rfl (by first | assumption | rfl) ?_
      refine ev_const (v := nI 125) dR_readBlock_27 (by decide) ?_
      refine ev_pV dR_readBlock_29 (c_sees hP hr hE.R (by omega) (by decide)) lR_52 (rec_R hr) rfl (Nat.le_of_ble_eq_true rfl) rfl (Nat.le_of_ble_eq_true rfl) ?_
      refine ev_if0 (tgt := 48) dR_readBlock_32 (by decide) (fun h32 => ?_) (fun h32 => ?_)
      · try simp (disch := omega) only [zcond, nI_ltI, nI_leI, nI_eq, zb0, Classical.not_not, Bool.not_eq_false, Bool.not_eq_true, Nat.not_lt, Nat.not_le] at h32
        refine ev_al dR_readBlock_48 rfl (by first | assumption | rfl) ?_
        refine ev_const (v := nI 125) dR_readBlock_49 (by decide) ?_
        refine ev_cV dR_readBlock_51 (c_needs hP hr hE.R (by omega) (by decide)) lR_69 (rec_R hr) rfl (Nat.le_of_ble_eq_true rfl) rfl (Nat.le_of_ble_eq_true rfl) (fun q M1 hq => ?_)
        obtain ⟨rfl, rfl⟩ := hq
        refine ev_il dR_readBlock_54 rfl (by first | assumption | rfl) ?_
        refine ev_ret dR_readBlock_55 rfl rfl ?_
        rw [show pi nT mk tv sl same (f + 1) 1 dp i s T = ((s, T), i) by
          rw [pi]
          · rw [if_pos (by first | exact Or.inl (by omega) | exact Or.inr (Or.inl h23) | exact Or.inr (Or.inr h32))]
          · omega] at hR
        exact hR
      · try simp (disch := omega) only [zcond, nI_ltI, nI_leI, nI_eq, zb0, Classical.not_not, Bool.not_eq_false, Bool.not_eq_true, Nat.not_lt, Nat.not_le] at h32
        refine ev_al dR_readBlock_35 rfl (by first | assumption | rfl) ?_
        refine ev_il dR_readBlock_36 rfl (by first | assumption | rfl) ?_
        refine ev_const (v := nI 1) dR_readBlock_37 (by decide) ?_
        first | with_reducible refine ev_addN dR_readBlock_38 ?_ | refine ev_add dR_readBlock_38 ?_
        refine ev_cV dR_readBlock_39 (ihI (D0 + 6) (dp + 1) s T (by omega) (by omega) hs h23 hT (by simp [iNeed, h23] at hn; omega)) lR_37 (rec_R hr) rfl (Nat.le_of_ble_eq_true rfl) rfl (Nat.le_of_ble_eq_true rfl) (fun q M1 hq => ?_)
        obtain ⟨rfl, rfl⟩ := hq
        refine ev_inc1 dR_readBlock_42 (by first | assumption | rfl) ?_
        refine ev_goto (tgt := 12) dR_readBlock_45 (by decide) ?_
        obtain ⟨g1, g2, g3⟩ := pi_ok (nT := nT) (mk := mk) (tv := tv) (sl := sl) (same := same) f 0 (dp + 1) 0 s T
        refine ihL (D0 + 7) dp (i + 1) (pi nT mk tv sl same f 0 (dp + 1) 0 s T).1.1 (pi nT mk tv sl same f 0 (dp + 1) 0 s T).1.2 _ _ (by omega) hdp (g1.2.1 hs) (g2 hT) ?_ (by omega) (by first | assumption | rfl) (by first | assumption | rfl) rfl ?_
        · simp [iNeed, h23] at hn
          unfold iNeed
          split
          · omega
          · rename_i hz
            obtain ⟨f', rfl⟩ : ∃ f', f = f' + 1 := ⟨f - 1, by omega⟩
            have := pi_one (nT := nT) (mk := mk) (tv := tv) (sl := sl) (same := same) (Bool.eq_false_iff.mpr hz)
            have := g1.2.1 hs
            omega
        · rw [pi, if_neg (by rw [h23, h32]; simp; omega)] at hR
          · exact hR
          · omega
theorem i_all (hx : iOk Lx xs M n b r nT mk tv sl same) : ∀ f, iItm Lx xs M r nT mk tv sl same f ∧ iLop Lx xs M r nT mk tv sl same f
  | 0 => ⟨fun D dp s T _ _ _ _ _ h => absurd h (Nat.not_lt_zero _), fun D dp i s T L R _ _ _ _ h => absurd h (Nat.not_lt_zero _)⟩
  | f + 1 => by
    obtain ⟨h0, h1⟩ := i_all hx f
    exact ⟨i_itm hx (i_blk hx h1), i_lop hx h0 h1⟩
/-- all items, one behind another; what is inside an item that isn't whole goes with it -/
def pA (nT : Nat) (mk : Nat → Nat) (tv : Nat → Int32) (sl : Nat → Nat) (same : Nat → Nat → Bool) : Nat → Nat → pE → pTr → pE × pTr
  | 0, _, s, T => (s, T)
  | f + 1, i, s, T => if 160 ≤ i ∨ nT ≤ s.1 ∨ s.2 = true then (s, T) else pA nT mk tv sl same f (i + 1) (pi nT mk tv sl same 330 0 0 0 s T).1.1 (if (pi nT mk tv sl same 330 0 0 0 s T).1.1.2 = true then (T.1, (pi nT mk tv sl same 330 0 0 0 s T).1.2.2) else (pi nT mk tv sl same 330 0 0 0 s T).1.2)
set_option maxRecDepth 100000 in
set_option maxHeartbeats 4000000 in
theorem l_readTokens (hx : iOk Lx xs M n b r nT mk tv sl same) {D0 : Nat} {R : Option Int32 → zM → Prop} : ∀ (f i : Nat) (s : pE) (T : pTr) (L : Nat → Value), s.1 ≤ nT → tOk nT T → i + f = 160 → L 0 = .ref r → L 1 = .int (nI i) → R none (mE (mR M r (pA nT mk tv sl same f i s T).2) r (pA nT mk tv sl same f i s T).1) → Ev Lx xs (D0 + 1151) mR_readTokens 20 L [] (mE (mR M r T) r s) (zpost mR_readTokens R) := by
  have hi := hx
  obtain ⟨hP, hr, hE, hsrc⟩ := hx
  have hnT := hE.2.1
  intro f
  induction f with
  | zero =>
    intro i s T L hs hT hf hL0 hL1 hR
    refine ev_il dR_readTokens_20 rfl (by first | assumption | rfl) ?_
    refine ev_const (v := nI 160) dR_readTokens_21 (by decide) ?_
    refine ev_icmp (tgt := 82) dR_readTokens_24 (by decide) (fun h24 => ?_) (fun h24 => ?_)
    · try simp (disch := omega) only [zcond, nI_ltI, nI_leI, nI_eq, zb0, Classical.not_not, Bool.not_eq_false, Bool.not_eq_true, Nat.not_lt, Nat.not_le] at h24
      refine ev_vret dR_readTokens_82 rfl ?_
      exact hR
    · first | omega | (simp (disch := omega) only [zcond, nI_ltI, nI_leI, nI_eq] at h24; omega)
  | succ f ih =>
    intro i s T L hs hT hf hL0 hL1 hR
    refine ev_il dR_readTokens_20 rfl (by first | assumption | rfl) ?_
    refine ev_const (v := nI 160) dR_readTokens_21 (by decide) ?_
    refine ev_icmp (tgt := 82) dR_readTokens_24 (by decide) (fun h24 => ?_) (fun h24 => ?_)
    · try simp (disch := omega) only [zcond, nI_ltI, nI_leI, nI_eq, zb0, Classical.not_not, Bool.not_eq_false, Bool.not_eq_true, Nat.not_lt, Nat.not_le] at h24
      refine ev_vret dR_readTokens_82 rfl ?_
      rw [show pA nT mk tv sl same (f + 1) i s T = (s, T) by
        rw [pA, if_pos (by first | exact Or.inl (by omega) | exact Or.inr (Or.inl h38) | exact Or.inr (Or.inr h45))]] at hR
      exact hR
    · try simp (disch := omega) only [zcond, nI_ltI, nI_leI, nI_eq, zb0, Classical.not_not, Bool.not_eq_false, Bool.not_eq_true, Nat.not_lt, Nat.not_le] at h24
      refine ev_al dR_readTokens_27 rfl (by first | assumption | rfl) ?_
      refine ev_geti dR_readTokens_28 fR_25 (sh_R hr) ?_
      rw [mE_n]
      refine ev_al dR_readTokens_31 rfl (by first | assumption | rfl) ?_
      refine ev_getrP dR_readTokens_32 fR_12 (sh_R hr) (zq hP (pt_source hr)) ?_
      refine ev_geti dR_readTokens_35 fR_36 (sh_S hr) ?_
      rw [hE.R.E.1]
      refine ev_icmp (tgt := 82) dR_readTokens_38 (by decide) (fun h38 => ?_) (fun h38 => ?_)
      · try simp (disch := omega) only [zcond, nI_ltI, nI_leI, nI_eq, zb0, Classical.not_not, Bool.not_eq_false, Bool.not_eq_true, Nat.not_lt, Nat.not_le] at h38
        refine ev_vret dR_readTokens_82 rfl ?_
        rw [show pA nT mk tv sl same (f + 1) i s T = (s, T) by
          rw [pA, if_pos (by first | exact Or.inl (by omega) | exact Or.inr (Or.inl h38) | exact Or.inr (Or.inr h45))]] at hR
        exact hR
      · try simp (disch := omega) only [zcond, nI_ltI, nI_leI, nI_eq, zb0, Classical.not_not, Bool.not_eq_false, Bool.not_eq_true, Nat.not_lt, Nat.not_le] at h38
        refine ev_al dR_readTokens_41 rfl (by first | assumption | rfl) ?_
        refine ev_geti dR_readTokens_42 fR_29 (sh_R hr) ?_
        rw [mE_s]
        refine ev_if0 (tgt := 82) dR_readTokens_45 (by decide) (fun h45 => ?_) (fun h45 => ?_)
        · try simp (disch := omega) only [zcond, nI_ltI, nI_leI, nI_eq, zb0, Classical.not_not, Bool.not_eq_false, Bool.not_eq_true, Nat.not_lt, Nat.not_le] at h45
          refine ev_vret dR_readTokens_82 rfl ?_
          rw [show pA nT mk tv sl same (f + 1) i s T = (s, T) by
            rw [pA, if_pos (by first | exact Or.inl (by omega) | exact Or.inr (Or.inl h38) | exact Or.inr (Or.inr h45))]] at hR
          exact hR
        · try simp (disch := omega) only [zcond, nI_ltI, nI_leI, nI_eq, zb0, Classical.not_not, Bool.not_eq_false, Bool.not_eq_true, Nat.not_lt, Nat.not_le] at h45
          refine ev_al dR_readTokens_48 rfl (by first | assumption | rfl) ?_
          refine ev_getrP dR_readTokens_49 fR_21 (sh_R hr) (zq hP (pt_tree hr)) ?_
          refine ev_geti dR_readTokens_52 fR_33 (sh_T hr) ?_
          rw [mE_o (by omega), mR_c]
          refine ev_is dR_readTokens_55 rfl (Nat.le_of_ble_eq_true rfl) ?_
          refine ev_al dR_readTokens_56 rfl (by first | assumption | rfl) ?_
          refine ev_const (v := nI 0) dR_readTokens_57 (by decide) ?_
          refine ev_cV dR_readTokens_58 ((i_all hi 330).1 (D0 + 1150) 0 s T (by omega) (by omega) hs h45 hT (by omega)) lR_37 (rec_R hr) rfl (Nat.le_of_ble_eq_true rfl) rfl (Nat.le_of_ble_eq_true rfl) (fun q M1 hq => ?_)
          obtain ⟨rfl, rfl⟩ := hq
          refine ev_al dR_readTokens_61 rfl (by first | assumption | rfl) ?_
          refine ev_geti dR_readTokens_62 fR_29 (sh_R hr) ?_
          rw [mE_s]
          refine ev_if0 (tgt := 76) dR_readTokens_65 (by decide) (fun h65 => ?_) (fun h65 => ?_)
          · try simp (disch := omega) only [zcond, nI_ltI, nI_leI, nI_eq, zb0, Classical.not_not, Bool.not_eq_false, Bool.not_eq_true, Nat.not_lt, Nat.not_le] at h65
            try refine ev_mem (M' := mE (mR M r (T.1, (pi nT mk tv sl same 330 0 0 0 s T).1.2.2)) r (pi nT mk tv sl same 330 0 0 0 s T).1.1) (by rw [zIE (by omega), mR_cnt]) ?_
            refine ev_inc1 dR_readTokens_76 (by first | assumption | rfl) ?_
            refine ev_goto (tgt := 20) dR_readTokens_79 (by decide) ?_
            obtain ⟨g1, g2, g3⟩ := pi_ok (nT := nT) (mk := mk) (tv := tv) (sl := sl) (same := same) 330 0 0 0 s T
            have hgg := (g2 hT)
            refine ih (i + 1) (pi nT mk tv sl same 330 0 0 0 s T).1.1 _ _ (g1.2.1 hs) ?_ (by omega) (by first | assumption | rfl) rfl ?_
            · first
              | exact hgg
              | (refine ⟨hT.1, fun k hk => hgg.2 k (Nat.lt_of_lt_of_le hk g3)⟩)
            · rw [pA, if_neg (by rw [h45]; simp; omega)] at hR
              first | (rw [if_pos h65] at hR; exact hR) | (rw [if_neg (by rw [h65]; decide)] at hR; exact hR)
          · try simp (disch := omega) only [zcond, nI_ltI, nI_leI, nI_eq, zb0, Classical.not_not, Bool.not_eq_false, Bool.not_eq_true, Nat.not_lt, Nat.not_le] at h65
            refine ev_al dR_readTokens_68 rfl (by first | assumption | rfl) ?_
            refine ev_getrP dR_readTokens_69 fR_21 (sh_R hr) (zq hP (pt_tree hr)) ?_
            refine ev_il dR_readTokens_72 rfl (by first | assumption | rfl) ?_
            refine ev_puti dR_readTokens_73 fR_33 fwT_count (sh_T hr) (vp_nar_int _) rfl ?_
            try refine ev_mem (M' := mE (mR M r (T.1, (pi nT mk tv sl same 330 0 0 0 s T).1.2.2)) r (pi nT mk tv sl same 330 0 0 0 s T).1.1) (by rw [zIE (by omega), mR_cnt]) ?_
            refine ev_inc1 dR_readTokens_76 (by first | assumption | rfl) ?_
            refine ev_goto (tgt := 20) dR_readTokens_79 (by decide) ?_
            obtain ⟨g1, g2, g3⟩ := pi_ok (nT := nT) (mk := mk) (tv := tv) (sl := sl) (same := same) 330 0 0 0 s T
            have hgg := (g2 hT)
            refine ih (i + 1) (pi nT mk tv sl same 330 0 0 0 s T).1.1 _ _ (g1.2.1 hs) ?_ (by omega) (by first | assumption | rfl) rfl ?_
            · first
              | exact hgg
              | (refine ⟨hT.1, fun k hk => hgg.2 k (Nat.lt_of_lt_of_le hk g3)⟩)
            · rw [pA, if_neg (by rw [h45]; simp; omega)] at hR
              first | (rw [if_pos h65] at hR; exact hR) | (rw [if_neg (by rw [h65]; decide)] at hR; exact hR)
/-- the tree of a reading before it is read: its rows as they stand -/
def tOf (M : zM) (r : Nat) : pTr := (0, M.1 (r + 6), M.1 (r + 7), M.1 (r + 8), M.1 (r + 9))
set_option maxRecDepth 100000 in
set_option maxHeartbeats 4000000 in
theorem c_readTokens (hx : iOk Lx xs M n b r nT mk tv sl same) {D0 : Nat} : Ct Lx xs (D0 + 1151) mR_readTokens [.ref r] M (fun q M' => q = none ∧ M' = mE (mR M r (pA nT mk tv sl same 160 0 (0, false) (tOf M r)).2) r (pA nT mk tv sl same 160 0 (0, false) (tOf M r)).1) := by
  unfold Ct
  have hx := hx
  obtain ⟨hP, hr, hE, hsrc⟩ := id hx
  have hnT := hE.2.1
  refine ev_al dR_readTokens_0 rfl (by first | assumption | rfl) ?_
  refine ev_const (v := nI 0) dR_readTokens_1 (by decide) ?_
  refine ev_puti dR_readTokens_2 fR_25 fwR_next (sh_R hr) (vp_nar_int _) rfl ?_
  refine ev_al dR_readTokens_5 rfl (by first | assumption | rfl) ?_
  refine ev_const (v := nI 0) dR_readTokens_6 (by decide) ?_
  refine ev_puti dR_readTokens_7 fR_29 fwR_stopped (sh_R hr) rfl rfl ?_
  refine ev_al dR_readTokens_10 rfl (by first | assumption | rfl) ?_
  refine ev_getrP dR_readTokens_11 fR_21 (sh_R hr) (zq hP (pt_tree hr)) ?_
  refine ev_const (v := nI 0) dR_readTokens_14 (by decide) ?_
  refine ev_puti dR_readTokens_15 fR_33 fwT_count (sh_T hr) (vp_nar_int _) rfl ?_
  refine ev_const (v := nI 0) dR_readTokens_18 (by decide) ?_
  refine ev_is dR_readTokens_19 rfl (Nat.le_of_ble_eq_true rfl) ?_
  refine ev_mem (M' := mE (mR M r (tOf M r)) r (0, false)) ?_ (l_readTokens hx 160 0 (0, false) (tOf M r) _ (Nat.zero_le _) ⟨Nat.zero_le _, fun k hk => absurd hk (Nat.not_lt_zero k)⟩ (by omega) rfl rfl ⟨rfl, rfl⟩)
  refine zM_ext (fun a i => ?_) rfl
  by_cases ha : a = r
  · subst ha
    by_cases h2 : i = 2
    · subst h2; rw [mE_n, zI_o (by omega), zI_k (by omega), zI_s]
    · by_cases h3 : i = 3
      · subst h3; rw [mE_s, zI_o (by omega), zI_s]; rfl
      · rw [mE_k h2 h3, mR_o (by omega), zI_o (by omega), zI_k h3, zI_k h2]
  · rw [mE_o ha]
    by_cases h2 : a = r + 2
    · subst h2
      by_cases h5 : i = 5
      · subst h5; rw [zI_s, mR_c]; rfl
      · rw [zI_k h5, mR_2 h5, zI_o (by omega), zI_o (by omega)]
    · rw [zI_o h2, zI_o ha, zI_o ha]
      by_cases h6 : a < r + 2 ∨ (r + 2 < a ∧ a < r + 6) ∨ r + 9 < a
      · rw [mR_o h6]
      · rcases (show a = r + 6 ∨ a = r + 7 ∨ a = r + 8 ∨ a = r + 9 by omega) with rfl | rfl | rfl | rfl
        · rw [mR_F]; rfl
        · rw [mR_L]; rfl
        · rw [mR_V]; rfl
        · rw [mR_A]; rfl
end
end
section
/- KeptItems: traceTokens (rows laid by program) -/
/-- what a token must be after the edit in order to stay, packed -/
def dueV (p g w v : Nat) : Option Nat := if v / 2048 + v % 2048 / 8 ≤ p then some v else if p + g ≤ v / 2048 then some (v + w * 2048 - g * 2048) else none
def oV : Option Nat → Int32
  | none => -1
  | some i => nI i
theorem dueV_i {p g w v : Nat} : (if v / 2048 + v % 2048 / 8 ≤ p then nI v else if p + g ≤ v / 2048 then nI v + (nI w - nI g) * nI 2048 else -1) = oV (dueV p g w v) := by
  unfold dueV
  split
  · rfl
  · split
    · rename_i h1 h2
      show nI v + (nI w - nI g) * nI 2048 = nI (v + w * 2048 - g * 2048)
      have e1 : nI (v + w * 2048 - g * 2048) + nI g * nI 2048 = nI v + nI w * nI 2048 := by
        rw [nI_mul, nI_mul, nI_add, nI_add]; congr 1; omega
      have e2 : nI (v + w * 2048 - g * 2048) = nI v + nI w * nI 2048 - nI g * nI 2048 := by rw [← e1]; exact (Int32.add_sub_cancel _ _).symm
      rw [e2, Int32.sub_mul]
      simp only [Int32.sub_eq_add_neg, Int32.add_assoc]
    · rfl
/-- which old token stayed as the new token k; how many of the first i stayed -/
def oO (p g w : Nat) (V0 V1 : Nat → Nat) (k : Nat) : Nat → Option Nat
  | 0 => none
  | i + 1 => if dueV p g w (V0 i) = some (V1 k) then some i else oO p g w V0 V1 k i
def oSt (p g w : Nat) (V0 V1 : Nat → Nat) (n1 i : Nat) : Bool := (List.range n1).any (fun k => decide (dueV p g w (V0 i) = some (V1 k)))
def oC (p g w : Nat) (V0 V1 : Nat → Nat) (n1 : Nat) : Nat → Nat
  | 0 => 0
  | i + 1 => oC p g w V0 V1 n1 i + (oSt p g w V0 V1 n1 i).toNat
theorem oC_le (p g w : Nat) (V0 V1 : Nat → Nat) (n1 : Nat) : ∀ i, oC p g w V0 V1 n1 i ≤ i
  | 0 => Nat.le_refl 0
  | i + 1 => by
    have := oC_le p g w V0 V1 n1 i
    have := (oSt p g w V0 V1 n1 i).toNat_le
    unfold oC; omega
theorem oSt_t {p g w : Nat} {V0 V1 : Nat → Nat} {n1 i k : Nat} (hk : k < n1) (h : dueV p g w (V0 i) = some (V1 k)) : oSt p g w V0 V1 n1 i = true :=
  List.any_eq_true.mpr ⟨k, List.mem_range.mpr hk, decide_eq_true h⟩
theorem oSt_f {p g w : Nat} {V0 V1 : Nat → Nat} {n1 i : Nat} (h : ∀ k, k < n1 → ¬ dueV p g w (V0 i) = some (V1 k)) : oSt p g w V0 V1 n1 i = false :=
  List.any_eq_false.mpr (fun k hk => by simpa using h k (List.mem_range.mp hk))
/-- tokens of a reading, packed -/
def Pkd (M : zM) (r nT : Nat) (V : Nat → Nat) : Prop := M.1 (r + 1) 4 = nI nT ∧ nT ≤ 160 ∧ (∀ k, k < nT → M.1 (r + 4) k = nI (V k) ∧ V k < 2 ^ 24) ∧ ∀ k j, k < j → j < nT → V k < V j
section
variable {Lx : Nat} {xs : Nat → Int32} {d : Nat} {n b : Nat}
set_option maxRecDepth 100000 in
set_option maxHeartbeats 4000000 in
theorem l_traceIn {M : zM} {n1 : Nat} {V1 : Nat → Nat} {du : Int32} {st i p g : Int32} (hP : M.2.1 = zP0 n b) (hn : zR n) (hV1 : Pkd M n n1 V1) {Q : zQ} : ∀ (f k : Nat) (L : Nat → Value), k + f = n1 → L 0 = .ref 0 → L 3 = .ref (n + 1) → L 4 = .int st → L 5 = .int (nI k) → L 6 = .int i → L 7 = .int du → L 1 = .int p → L 2 = .int g → (∀ k', k ≤ k' → k' ≤ n1 → (∀ j, k ≤ j → j < k' → nI (V1 j) < du) → (k' < n1 → du ≤ nI (V1 k')) → ∀ L' : Nat → Value, L' 0 = .ref 0 → L' 3 = .ref (n + 1) → L' 4 = .int st → L' 6 = .int i → L' 7 = .int du → L' 5 = .int (nI k') → L' 1 = .int p → L' 2 = .int g → Ev Lx xs d mK_traceTokens 87 L' [] M Q) → Ev Lx xs d mK_traceTokens 60 L [] M Q := by
  have hn160 := hV1.2.1
  intro f
  induction f with
  | zero =>
    intro k L hf hL0 hL3 hL4 hL5 hL6 hL7 hLp hLg hR
    refine ev_il dK_traceTokens_60 rfl (by first | assumption | rfl) ?_
    refine ev_al dK_traceTokens_62 rfl (by first | assumption | rfl) ?_
    refine ev_geti dK_traceTokens_63 fK_63 (sh_S hn) ?_
    rw [hV1.1]
    refine ev_icmp (tgt := 87) dK_traceTokens_66 (by decide) (fun h66 => ?_) (fun h66 => ?_)
    · try simp (disch := omega) only [zcond, nI_ltI, nI_leI, nI_eq, zb0, Classical.not_not, Bool.not_eq_false, Bool.not_eq_true, Nat.not_lt, Nat.not_le] at h66
      exact hR k (Nat.le_refl _) (by omega) (fun j h1 h2 => absurd h1 (by omega)) (fun h => absurd h (by omega)) L hL0 hL3 hL4 hL6 hL7 hL5 hLp hLg
    · first | omega | (simp (disch := omega) only [zcond, nI_ltI, nI_leI, nI_eq] at h66; omega)
  | succ f ih =>
    intro k L hf hL0 hL3 hL4 hL5 hL6 hL7 hLp hLg hR
    refine ev_il dK_traceTokens_60 rfl (by first | assumption | rfl) ?_
    refine ev_al dK_traceTokens_62 rfl (by first | assumption | rfl) ?_
    refine ev_geti dK_traceTokens_63 fK_63 (sh_S hn) ?_
    rw [hV1.1]
    refine ev_icmp (tgt := 87) dK_traceTokens_66 (by decide) (fun h66 => ?_) (fun h66 => ?_)
    · try simp (disch := omega) only [zcond, nI_ltI, nI_leI, nI_eq, zb0, Classical.not_not, Bool.not_eq_false, Bool.not_eq_true, Nat.not_lt, Nat.not_le] at h66
      exact hR k (Nat.le_refl _) (by omega) (fun j h1 h2 => absurd h1 (by omega)) (fun hlt => by first | exact h78 | omega) L hL0 hL3 hL4 hL6 hL7 hL5 hLp hLg
    · try simp (disch := omega) only [zcond, nI_ltI, nI_leI, nI_eq, zb0, Classical.not_not, Bool.not_eq_false, Bool.not_eq_true, Nat.not_lt, Nat.not_le] at h66
      refine ev_al dK_traceTokens_69 rfl (by first | assumption | rfl) ?_
      refine ev_getrP dK_traceTokens_70 fK_69 (sh_S hn) (zq hP (pt_found hn)) ?_
      refine ev_il dK_traceTokens_73 rfl (by first | assumption | rfl) ?_
      refine ev_aldN dK_traceTokens_75 rfl (sh_found hn) (by omega) ?_
      rw [(hV1.2.2.1 k (by omega)).1]
      have hvb := (hV1.2.2.1 k (by omega)).2
      refine ev_il dK_traceTokens_76 rfl (by first | assumption | rfl) ?_
      refine ev_icmp (tgt := 87) dK_traceTokens_78 (by decide) (fun h78 => ?_) (fun h78 => ?_)
      · simp only [zcond] at h78
        try rw [Int32.not_le] at h78
        exact hR k (Nat.le_refl _) (by omega) (fun j h1 h2 => absurd h1 (by omega)) (fun hlt => by first | exact h78 | omega) L hL0 hL3 hL4 hL6 hL7 hL5 hLp hLg
      · simp only [zcond] at h78
        try rw [Int32.not_le] at h78
        refine ev_inc1 dK_traceTokens_81 (by first | assumption | rfl) ?_
        refine ev_goto (tgt := 60) dK_traceTokens_84 (by decide) ?_
        refine ih (k + 1) _ (by omega) (by first | assumption | rfl) (by first | assumption | rfl) (by first | assumption | rfl) rfl (by first | assumption | rfl) (by first | assumption | rfl) (by first | assumption | rfl) (by first | assumption | rfl) ?_
        intro k' hk1 hk2 hk3 hk4
        exact hR k' (by omega) hk2 (fun j hj1 hj2 => by
          by_cases hjk : j = k
          · subst hjk; exact h78
          · exact hk3 j (by omega) hj2) hk4
theorem dueV_lt {p g w v x : Nat} (hw : w ≤ 40) (hv : v < 2 ^ 24) (h : dueV p g w v = some x) : x < 2 ^ 31 := by
  unfold dueV at h
  split at h
  · cases h; omega
  · split at h
    · cases h; omega
    · cases h
theorem nI_nm1 {a : Nat} (h : a < 2 ^ 31) : ¬ nI a < -1 := by
  intro h1
  have h2 := Int32.lt_iff_toInt_lt.mp h1
  rw [nI_toInt h] at h2
  have : (-1 : Int32).toInt = -1 := by decide
  omega
theorem nI_ne1 {a : Nat} (h : a < 2 ^ 31) : ¬ nI a = -1 := by
  intro h1
  have h2 := congrArg Int32.toInt h1
  rw [nI_toInt h] at h2
  have : (-1 : Int32).toInt = -1 := by decide
  omega
theorem Pkd.I {M : zM} {r nT o k : Nat} {V : Nat → Nat} {x : Int32} (h : Pkd M r nT V) (ho : r + 1 ≠ o ∧ r + 4 ≠ o) : Pkd (zI M o k x) r nT V :=
  ⟨(zI_o ho.1).trans h.1, h.2.1, fun k hk => ⟨(zI_o ho.2).trans (h.2.2.1 k hk).1, (h.2.2.1 k hk).2⟩, h.2.2.2⟩
theorem Pkd.S {M M' : zM} {r nT c : Nat} {V : Nat → Nat} (h : Pkd M r nT V) (hs : zSame (fun o _ => o = c) M M') (ho : r + 1 ≠ c ∧ r + 4 ≠ c) : Pkd M' r nT V :=
  ⟨(hs.2 _ _ ho.1).trans h.1, h.2.1, fun k hk => ⟨(hs.2 _ _ ho.2).trans (h.2.2.1 k hk).1, (h.2.2.1 k hk).2⟩, h.2.2.2⟩
set_option maxRecDepth 100000 in
set_option maxHeartbeats 4000000 in
theorem l_trace {n0 n1 p g w : Nat} {V0 V1 : Nat → Nat} (hn : zR n) (hb : zR b) (hp : p ≤ 160) (hg : g ≤ 160) (hw40 : w ≤ 40) (hdue : ∀ i i', i < i' → i' < n0 → ∀ x y, dueV p g w (V0 i) = some x → dueV p g w (V0 i') = some y → x < y) {R : Option Int32 → zM → Prop} : ∀ (f i k : Nat) (M : zM) (L : Nat → Value), i + f = n0 → M.2.1 = zP0 n b → Pkd M n n1 V1 → Pkd M b n0 V0 → M.1 0 1 = nI w → (∀ j, j < n1 → M.1 24 j = oV (oO p g w V0 V1 j i)) → k ≤ n1 → (∀ j, j < k → ∀ i', i ≤ i' → i' < n0 → ∀ x, dueV p g w (V0 i') = some x → V1 j < x) → L 0 = .ref 0 → L 3 = .ref (n + 1) → L 4 = .int (nI (oC p g w V0 V1 n1 i)) → L 5 = .int (nI k) → L 6 = .int (nI i) → L 1 = .int (nI p) → L 2 = .int (nI g) → (∀ M', zSame (fun o _ => o = 24) M M' → (∀ j, j < n1 → M'.1 24 j = oV (oO p g w V0 V1 j n0)) → R (some (nI (oC p g w V0 V1 n1 n0))) M') → Ev Lx xs (d + 3) mK_traceTokens 25 L [] M (zpost mK_traceTokens R) := by
  have hn24 : n + 1 ≠ 24 ∧ n + 4 ≠ 24 := by rcases hn with rfl | rfl <;> omega
  have hb24 : b + 1 ≠ 24 ∧ b + 4 ≠ 24 := by rcases hb with rfl | rfl <;> omega
  intro f
  induction f with
  | zero =>
    intro i k M L hf hP hV1 hV0 hw hO hk hI hL0 hL3 hL4 hL5 hL6 hL1 hL2 hR
    have hn0 := hV0.2.1
    refine ev_il dK_traceTokens_25 rfl (by first | assumption | rfl) ?_
    refine ev_al dK_traceTokens_27 rfl (by first | assumption | rfl) ?_
    refine ev_getrP dK_traceTokens_28 fK_20 rfl (zq (q := b) hP rfl) ?_
    refine ev_getrP dK_traceTokens_31 fK_31 (sh_R hb) (zq hP (pt_source hb)) ?_
    refine ev_geti dK_traceTokens_34 fK_63 (sh_S hb) ?_
    rw [hV0.1]
    refine ev_icmp (tgt := 126) dK_traceTokens_37 (by decide) (fun h37 => ?_) (fun h37 => ?_)
    · try simp (disch := omega) only [zcond, nI_ltI, nI_leI, nI_eq, zb0, Classical.not_not, Bool.not_eq_false, Bool.not_eq_true, Nat.not_lt, Nat.not_le] at h37
      refine ev_il dK_traceTokens_126 rfl (by first | assumption | rfl) ?_
      refine ev_ret dK_traceTokens_128 rfl rfl ?_
      obtain rfl : i = n0 := by omega
      exact hR M (zSame.rf _ _) hO
    · first | omega | (simp (disch := omega) only [zcond, nI_ltI, nI_leI, nI_eq] at h37; omega)
  | succ f ih =>
    intro i k M L hf hP hV1 hV0 hw hO hk hI hL0 hL3 hL4 hL5 hL6 hL1 hL2 hR
    have hn0 := hV0.2.1
    have hn1 := hV1.2.1
    refine ev_il dK_traceTokens_25 rfl (by first | assumption | rfl) ?_
    refine ev_al dK_traceTokens_27 rfl (by first | assumption | rfl) ?_
    refine ev_getrP dK_traceTokens_28 fK_20 rfl (zq (q := b) hP rfl) ?_
    refine ev_getrP dK_traceTokens_31 fK_31 (sh_R hb) (zq hP (pt_source hb)) ?_
    refine ev_geti dK_traceTokens_34 fK_63 (sh_S hb) ?_
    rw [hV0.1]
    refine ev_icmp (tgt := 126) dK_traceTokens_37 (by decide) (fun h37 => ?_) (fun h37 => ?_)
    · first | omega | (simp (disch := omega) only [zcond, nI_ltI, nI_leI, nI_eq] at h37; omega)
    · try simp (disch := omega) only [zcond, nI_ltI, nI_leI, nI_eq, zb0, Classical.not_not, Bool.not_eq_false, Bool.not_eq_true, Nat.not_lt, Nat.not_le] at h37
      refine ev_al dK_traceTokens_40 rfl (by first | assumption | rfl) ?_
      refine ev_getrP dK_traceTokens_41 fK_20 rfl (zq (q := b) hP rfl) ?_
      refine ev_getrP dK_traceTokens_44 fK_31 (sh_R hb) (zq hP (pt_source hb)) ?_
      refine ev_il dK_traceTokens_47 rfl (by first | assumption | rfl) ?_
      refine ev_il dK_traceTokens_49 rfl (by first | assumption | rfl) ?_
      refine ev_il dK_traceTokens_50 rfl (by first | assumption | rfl) ?_
      refine ev_al dK_traceTokens_51 rfl (by first | assumption | rfl) ?_
      refine ev_geti dK_traceTokens_52 fK_27 rfl ?_
      rw [hw]
      refine ev_pV dK_traceTokens_55 (c_movedToken hP hb (by omega) (hV0.2.2.1 i (by omega)).1 (hV0.2.2.1 i (by omega)).2 hp hg) lK_120 (rec_S hb) rfl (Nat.le_of_ble_eq_true rfl) rfl (Nat.le_of_ble_eq_true rfl) ?_
      rw [dueV_i]
      refine ev_is dK_traceTokens_58 rfl (Nat.le_of_ble_eq_true rfl) ?_
      refine l_traceIn (M := M) hP hn hV1 (n1 - k) k _ (by omega) (by first | assumption | rfl) (by first | assumption | rfl) (by first | assumption | rfl) (by first | assumption | rfl) (by first | assumption | rfl) rfl (by first | assumption | rfl) (by first | assumption | rfl) ?_
      intro k' hk1 hk2 hk3 hk4 L' hL0' hL3' hL4' hL6' hL7' hL5' hL1' hL2'
      have hlow : ∀ x, dueV p g w (V0 i) = some x → ∀ j, j < k' → V1 j < x := by
        intro x hx j hj
        by_cases hjk : j < k
        · exact hI j hjk i (Nat.le_refl _) (by omega) x hx
        · have h1 := hk3 j (by omega) hj
          rw [hx] at h1
          exact (nI_ltI (Nat.lt_trans (hV1.2.2.1 j (by omega)).2 (by omega)) (dueV_lt (by omega) (hV0.2.2.1 i (by omega)).2 hx)).mp h1
      have hI2 : ∀ j, j < k' → ∀ i', i + 1 ≤ i' → i' < n0 → ∀ y, dueV p g w (V0 i') = some y → V1 j < y := by
        intro j hj i' h1 h2 y hy
        cases hdx : dueV p g w (V0 i) with
        | some x => exact Nat.lt_trans (hlow x hdx j hj) (hdue i i' (by omega) h2 x y hdx hy)
        | none =>
          by_cases hjk : j < k
          · exact hI j hjk i' (by omega) h2 y hy
          · have h3 := hk3 j (by omega) hj
            rw [hdx] at h3
            exact absurd h3 (nI_nm1 (Nat.lt_trans (hV1.2.2.1 j (by omega)).2 (by omega)))
      refine ev_il dK_traceTokens_87 rfl (by first | assumption | rfl) ?_
      refine ev_al dK_traceTokens_89 rfl (by first | assumption | rfl) ?_
      refine ev_geti dK_traceTokens_90 fK_63 (sh_S hn) ?_
      rw [hV1.1]
      refine ev_icmp (tgt := 120) dK_traceTokens_93 (by decide) (fun h93 => ?_) (fun h93 => ?_)
      · try simp (disch := omega) only [zcond, nI_ltI, nI_leI, nI_eq, zb0, Classical.not_not, Bool.not_eq_false, Bool.not_eq_true, Nat.not_lt, Nat.not_le] at h93
        refine ev_inc1 dK_traceTokens_120 (by first | assumption | rfl) ?_
        refine ev_goto (tgt := 25) dK_traceTokens_123 (by decide) ?_
        first
        | (
           have hvk := Nat.lt_trans (hV1.2.2.1 k' h93).2 (show 2 ^ 24 < 2 ^ 31 by decide)
           have hyes : dueV p g w (V0 i) = some (V1 k') := by
             cases hdx : dueV p g w (V0 i) with
             | none => rw [hdx] at h105; exact absurd h105 (nI_ne1 hvk)
             | some x => rw [hdx] at h105; rw [(nI_eq hvk (dueV_lt (by omega) (hV0.2.2.1 i (by omega)).2 hdx)).mp h105]
           refine ih (i + 1) k' (zI M 24 k' (nI i)) _ (by omega) hP (hV1.I (by omega)) (hV0.I (by omega)) ((zI_o (by omega)).trans hw) (fun j hj => ?_) hk2 hI2 (by first | assumption | rfl) (by first | assumption | rfl) (by rw [oC, oSt_t h93 hyes]; rfl) (by first | assumption | rfl) rfl (by first | assumption | rfl) (by first | assumption | rfl) (fun M' hs hO' => hR M' ((zSame.I (S := fun o _ => o = 24) (zSame.rf _ M) rfl).tr hs) hO')
           rw [oO]
           by_cases hjk : j = k'
           · subst hjk; rw [if_pos hyes, zI_s]; rfl
           · rw [if_neg, zI_k hjk]
             · exact hO j hj
             · rw [hyes]
               intro he
               have he := Option.some.inj he
               rcases Nat.lt_or_gt_of_ne hjk with h1 | h1
               · have := hV1.2.2.2 j k' h1 h93; omega
               · have := hV1.2.2.2 k' j h1 hj; omega)
        | (
           have hno : ∀ j, j < n1 → ¬ dueV p g w (V0 i) = some (V1 j) := by
             intro j hj he
             have h1 := hlow _ he
             by_cases hjk : j < k'
             · exact Nat.lt_irrefl _ (h1 j hjk)
             · first
               | omega
               | (have h2 := hk4 (by omega)
                  rw [he] at h2 h105
                  have h3 := (nI_leI (Nat.lt_trans (hV1.2.2.1 j hj).2 (by omega)) (Nat.lt_trans (hV1.2.2.1 k' (by omega)).2 (by omega))).mp h2
                  by_cases hjk2 : j = k'
                  · subst hjk2; exact h105 rfl
                  · have := hV1.2.2.2 k' j (by omega) hj
                    omega)
           refine ih (i + 1) k' M _ (by omega) hP hV1 hV0 hw (fun j hj => ?_) hk2 hI2 (by first | assumption | rfl) (by first | assumption | rfl) (by rw [oC, oSt_f hno]; exact hL4') (by first | assumption | rfl) rfl (by first | assumption | rfl) (by first | assumption | rfl) hR
           rw [oO, if_neg (hno j hj)]
           exact hO j hj)
      · try simp (disch := omega) only [zcond, nI_ltI, nI_leI, nI_eq, zb0, Classical.not_not, Bool.not_eq_false, Bool.not_eq_true, Nat.not_lt, Nat.not_le] at h93
        refine ev_al dK_traceTokens_96 rfl (by first | assumption | rfl) ?_
        refine ev_getrP dK_traceTokens_97 fK_69 (sh_S hn) (zq hP (pt_found hn)) ?_
        refine ev_il dK_traceTokens_100 rfl (by first | assumption | rfl) ?_
        refine ev_aldN dK_traceTokens_102 rfl (sh_found hn) (by omega) ?_
        rw [(hV1.2.2.1 k' (by omega)).1]
        refine ev_il dK_traceTokens_103 rfl (by first | assumption | rfl) ?_
        refine ev_icmp (tgt := 120) dK_traceTokens_105 (by decide) (fun h105 => ?_) (fun h105 => ?_)
        · simp only [zcond, Classical.not_not] at h105
          refine ev_inc1 dK_traceTokens_120 (by first | assumption | rfl) ?_
          refine ev_goto (tgt := 25) dK_traceTokens_123 (by decide) ?_
          first
          | (
             have hvk := Nat.lt_trans (hV1.2.2.1 k' h93).2 (show 2 ^ 24 < 2 ^ 31 by decide)
             have hyes : dueV p g w (V0 i) = some (V1 k') := by
               cases hdx : dueV p g w (V0 i) with
               | none => rw [hdx] at h105; exact absurd h105 (nI_ne1 hvk)
               | some x => rw [hdx] at h105; rw [(nI_eq hvk (dueV_lt (by omega) (hV0.2.2.1 i (by omega)).2 hdx)).mp h105]
             refine ih (i + 1) k' (zI M 24 k' (nI i)) _ (by omega) hP (hV1.I (by omega)) (hV0.I (by omega)) ((zI_o (by omega)).trans hw) (fun j hj => ?_) hk2 hI2 (by first | assumption | rfl) (by first | assumption | rfl) (by rw [oC, oSt_t h93 hyes]; rfl) (by first | assumption | rfl) rfl (by first | assumption | rfl) (by first | assumption | rfl) (fun M' hs hO' => hR M' ((zSame.I (S := fun o _ => o = 24) (zSame.rf _ M) rfl).tr hs) hO')
             rw [oO]
             by_cases hjk : j = k'
             · subst hjk; rw [if_pos hyes, zI_s]; rfl
             · rw [if_neg, zI_k hjk]
               · exact hO j hj
               · rw [hyes]
                 intro he
                 have he := Option.some.inj he
                 rcases Nat.lt_or_gt_of_ne hjk with h1 | h1
                 · have := hV1.2.2.2 j k' h1 h93; omega
                 · have := hV1.2.2.2 k' j h1 hj; omega)
          | (
             have hno : ∀ j, j < n1 → ¬ dueV p g w (V0 i) = some (V1 j) := by
               intro j hj he
               have h1 := hlow _ he
               by_cases hjk : j < k'
               · exact Nat.lt_irrefl _ (h1 j hjk)
               · first
                 | omega
                 | (have h2 := hk4 (by omega)
                    rw [he] at h2 h105
                    have h3 := (nI_leI (Nat.lt_trans (hV1.2.2.1 j hj).2 (by omega)) (Nat.lt_trans (hV1.2.2.1 k' (by omega)).2 (by omega))).mp h2
                    by_cases hjk2 : j = k'
                    · subst hjk2; exact h105 rfl
                    · have := hV1.2.2.2 k' j (by omega) hj
                      omega)
             refine ih (i + 1) k' M _ (by omega) hP hV1 hV0 hw (fun j hj => ?_) hk2 hI2 (by first | assumption | rfl) (by first | assumption | rfl) (by rw [oC, oSt_f hno]; exact hL4') (by first | assumption | rfl) rfl (by first | assumption | rfl) (by first | assumption | rfl) hR
             rw [oO, if_neg (hno j hj)]
             exact hO j hj)
        · simp only [zcond, Classical.not_not] at h105
          refine ev_al dK_traceTokens_108 rfl (by first | assumption | rfl) ?_
          refine ev_getrP dK_traceTokens_109 fK_23 rfl (zq (q := 24) hP rfl) ?_
          refine ev_il dK_traceTokens_112 rfl (by first | assumption | rfl) ?_
          refine ev_il dK_traceTokens_114 rfl (by first | assumption | rfl) ?_
          refine ev_iastN dK_traceTokens_116 rfl (by omega) ?_
          refine ev_inc1 dK_traceTokens_117 (by first | assumption | rfl) ?_
          refine ev_inc1 dK_traceTokens_120 (by first | assumption | rfl) ?_
          refine ev_goto (tgt := 25) dK_traceTokens_123 (by decide) ?_
          first
          | (
             have hvk := Nat.lt_trans (hV1.2.2.1 k' h93).2 (show 2 ^ 24 < 2 ^ 31 by decide)
             have hyes : dueV p g w (V0 i) = some (V1 k') := by
               cases hdx : dueV p g w (V0 i) with
               | none => rw [hdx] at h105; exact absurd h105 (nI_ne1 hvk)
               | some x => rw [hdx] at h105; rw [(nI_eq hvk (dueV_lt (by omega) (hV0.2.2.1 i (by omega)).2 hdx)).mp h105]
             refine ih (i + 1) k' (zI M 24 k' (nI i)) _ (by omega) hP (hV1.I (by omega)) (hV0.I (by omega)) ((zI_o (by omega)).trans hw) (fun j hj => ?_) hk2 hI2 (by first | assumption | rfl) (by first | assumption | rfl) (by rw [oC, oSt_t h93 hyes]; rfl) (by first | assumption | rfl) rfl (by first | assumption | rfl) (by first | assumption | rfl) (fun M' hs hO' => hR M' ((zSame.I (S := fun o _ => o = 24) (zSame.rf _ M) rfl).tr hs) hO')
             rw [oO]
             by_cases hjk : j = k'
             · subst hjk; rw [if_pos hyes, zI_s]; rfl
             · rw [if_neg, zI_k hjk]
               · exact hO j hj
               · rw [hyes]
                 intro he
                 have he := Option.some.inj he
                 rcases Nat.lt_or_gt_of_ne hjk with h1 | h1
                 · have := hV1.2.2.2 j k' h1 h93; omega
                 · have := hV1.2.2.2 k' j h1 hj; omega)
          | (
             have hno : ∀ j, j < n1 → ¬ dueV p g w (V0 i) = some (V1 j) := by
               intro j hj he
               have h1 := hlow _ he
               by_cases hjk : j < k'
               · exact Nat.lt_irrefl _ (h1 j hjk)
               · first
                 | omega
                 | (have h2 := hk4 (by omega)
                    rw [he] at h2 h105
                    have h3 := (nI_leI (Nat.lt_trans (hV1.2.2.1 j hj).2 (by omega)) (Nat.lt_trans (hV1.2.2.1 k' (by omega)).2 (by omega))).mp h2
                    by_cases hjk2 : j = k'
                    · subst hjk2; exact h105 rfl
                    · have := hV1.2.2.2 k' j (by omega) hj
                      omega)
             refine ih (i + 1) k' M _ (by omega) hP hV1 hV0 hw (fun j hj => ?_) hk2 hI2 (by first | assumption | rfl) (by first | assumption | rfl) (by rw [oC, oSt_f hno]; exact hL4') (by first | assumption | rfl) rfl (by first | assumption | rfl) (by first | assumption | rfl) hR
             rw [oO, if_neg (hno j hj)]
             exact hO j hj)
set_option maxRecDepth 100000 in
set_option maxHeartbeats 4000000 in
theorem c_traceTokens {M : zM} {n0 n1 p g w : Nat} {V0 V1 : Nat → Nat} (hP : M.2.1 = zP0 n b) (hn : zR n) (hb : zR b) (hp : p ≤ 160) (hg : g ≤ 160) (hw40 : w ≤ 40) (hdue : ∀ i i', i < i' → i' < n0 → ∀ x y, dueV p g w (V0 i) = some x → dueV p g w (V0 i') = some y → x < y) (hV1 : Pkd M n n1 V1) (hV0 : Pkd M b n0 V0) (hw : M.1 0 1 = nI w) : Ct Lx xs (d + 3) mK_traceTokens [.ref 0, .int (nI p), .int (nI g)] M (fun q M' => q = some (nI (oC p g w V0 V1 n1 n0)) ∧ zSame (fun o _ => o = 24) M M' ∧ ∀ j, j < n1 → M'.1 24 j = oV (oO p g w V0 V1 j n0)) := by
  unfold Ct
  refine ev_al dK_traceTokens_0 rfl (by first | assumption | rfl) ?_
  refine ev_getrP dK_traceTokens_1 fK_16 rfl (zq (q := n) hP rfl) ?_
  refine ev_getrP dK_traceTokens_4 fK_31 (sh_R hn) (zq hP (pt_source hn)) ?_
  refine ev_as dK_traceTokens_7 rfl (Nat.le_of_ble_eq_true rfl) ?_
  refine ev_const (v := nI 0) dK_traceTokens_8 (by decide) ?_
  refine ev_is dK_traceTokens_9 rfl (Nat.le_of_ble_eq_true rfl) ?_
  refine ev_const (v := nI 0) dK_traceTokens_11 (by decide) ?_
  refine ev_is dK_traceTokens_12 rfl (Nat.le_of_ble_eq_true rfl) ?_
  refine ev_al dK_traceTokens_14 rfl (by first | assumption | rfl) ?_
  refine ev_getrP dK_traceTokens_15 fK_23 rfl (zq (q := 24) hP rfl) ?_
  refine ev_const (v := -1) dK_traceTokens_18 (by decide) ?_
  refine ev_cS dK_traceTokens_19 c_fillA lK_115 rfl (Nat.le_of_ble_eq_true rfl) rfl (Nat.le_of_ble_eq_true rfl) (fun q M1 hq => ?_)
  obtain ⟨rfl, hs1, hall⟩ := hq
  refine ev_const (v := nI 0) dK_traceTokens_22 (by decide) ?_
  refine ev_is dK_traceTokens_23 rfl (Nat.le_of_ble_eq_true rfl) ?_
  have hn24 : n + 1 ≠ 24 ∧ n + 4 ≠ 24 := by rcases hn with rfl | rfl <;> omega
  have hb24 : b + 1 ≠ 24 ∧ b + 4 ≠ 24 := by rcases hb with rfl | rfl <;> omega
  refine l_trace hn hb hp hg hw40 hdue n0 0 0 M1 _ (by omega) (hs1.P hP) (hV1.S hs1 hn24) (hV0.S hs1 hb24) ((hs1.2 0 1 (by omega)).trans hw) (fun j hj => (hall j (by have := hV1.2.1; omega)).trans rfl) (Nat.zero_le _) (fun j hj => absurd hj (Nat.not_lt_zero j)) rfl rfl rfl rfl rfl rfl rfl ?_
  intro M' hs hO
  exact ⟨rfl, hs1.tr hs, hO⟩
end
end
section
/- KeptItems: oldItem, numberItems (rows laid by program) -/
/-- the tokens behind the first stayed one behind another -/
def oRun (O : Nat → Option Nat) (q a : Nat) : Nat → Nat → Bool
  | 0, _ => true
  | f + 1, j => decide (O j = some (q + (j - a))) && oRun O q a f (j + 1)
/-- which old item stayed as the item of the tokens a to z -/
def oItem (O : Nat → Option Nat) (fi0 la0 : Nat → Nat) (c0 a z : Nat) : Int32 := match O a with
  | none => -1
  | some q => if oRun O q a (z - a) (a + 1) = true then tFi fi0 la0 q (q + (z - a)) c0 0 else -1
theorem oRun_last {O : Nat → Option Nat} {q a : Nat} : ∀ (f j : Nat), oRun O q a f j = true → ∀ i, j ≤ i → i < j + f → O i = some (q + (i - a))
  | 0, j, _, i, h1, h2 => absurd h2 (by omega)
  | f + 1, j, h, i, h1, h2 => by
    unfold oRun at h
    rw [Bool.and_eq_true] at h
    by_cases hij : i = j
    · subst hij; exact of_decide_eq_true h.1
    · exact oRun_last f (j + 1) h.2 i (by omega) (by omega)
theorem oV_dif {x : Option Nat} {q j a : Nat} (hx : ∀ i, x = some i → i < 2 ^ 20) (hq : q < 2 ^ 20) (ha : a < j) (hj : j < 2 ^ 20) : (oV x - nI q = nI (j - a)) ↔ x = some (q + (j - a)) := by
  constructor
  · intro h
    have h2 : oV x = nI (q + (j - a)) := by
      rw [Nat.add_comm q (j - a), ← nI_add, ← h]; exact (Int32.sub_add_cancel _ _).symm
    cases x with
    | none => exact absurd h2.symm (nI_ne1 (by omega))
    | some i => rw [(nI_eq (Nat.lt_trans (hx i rfl) (by decide)) (by omega)).mp h2]
  · intro h
    subst h
    show nI (q + (j - a)) - nI q = nI (j - a)
    rw [pk_sub (by omega)]; congr 1; omega
section
variable {Lx : Nat} {xs : Nat → Int32} {d : Nat} {M : zM} {n b : Nat}
set_option maxRecDepth 100000 in
set_option maxHeartbeats 4000000 in
theorem l_oldItem {c0 a z : Nat} {O : Nat → Option Nat} {fi0 la0 : Nat → Nat} (hP : M.2.1 = zP0 n b) (hn : zR n) (hb : zR b) (hz : a ≤ z ∧ z < 160) (hO : ∀ j, j ≤ z → M.1 24 j = oV (O j) ∧ ∀ i, O j = some i → i < 160) (hc0 : M.1 (b + 2) 5 = nI c0) (hc02 : c0 ≤ 160) (hfi0 : ∀ k, k < c0 → M.1 (b + 6) k = nI (fi0 k) ∧ M.1 (b + 7) k = nI (la0 k) ∧ fi0 k < 2 ^ 31 ∧ la0 k < 2 ^ 31) {q : Nat} (hOa : O a = some q) {R : Option Int32 → zM → Prop} : ∀ (f j : Nat) (L : Nat → Value), j + f = z + 1 → a < j → (∀ i, a < i → i < j → O i = some (q + (i - a))) → L 0 = .ref 0 → L 2 = .int (nI a) → L 3 = .int (nI z) → L 4 = .int (nI q) → L 5 = .int (nI j) → R (some (if oRun O q a f j = true then tFi fi0 la0 q (q + (z - a)) c0 0 else -1)) M → Ev Lx xs (d + 1) mK_oldItem 47 L [] M (zpost mK_oldItem R) := by
  have hq := (hO a hz.1).2 q hOa
  intro f
  induction f with
  | zero =>
    intro j L hf haj hrun hL0 hL2 hL3 hL4 hL5 hR
    refine ev_il dK_oldItem_47 rfl (by first | assumption | rfl) ?_
    refine ev_il dK_oldItem_49 rfl (by first | assumption | rfl) ?_
    refine ev_icmp (tgt := 78) dK_oldItem_50 (by decide) (fun h50 => ?_) (fun h50 => ?_)
    · try simp (disch := omega) only [zcond, nI_ltI, nI_leI, nI_eq, zb0, Classical.not_not, Bool.not_eq_false, Bool.not_eq_true, Nat.not_lt, Nat.not_le] at h50
      refine ev_al dK_oldItem_78 rfl (by first | assumption | rfl) ?_
      refine ev_getrP dK_oldItem_79 fK_20 rfl (zq (q := b) hP rfl) ?_
      refine ev_getrP dK_oldItem_82 fK_76 (sh_R hb) (zq hP (pt_tree hb)) ?_
      refine ev_il dK_oldItem_85 rfl (by first | assumption | rfl) ?_
      refine ev_al dK_oldItem_87 rfl (by first | assumption | rfl) ?_
      refine ev_getrP dK_oldItem_88 fK_23 rfl (zq (q := 24) hP rfl) ?_
      refine ev_il dK_oldItem_91 rfl (by first | assumption | rfl) ?_
      refine ev_aldN dK_oldItem_92 rfl rfl (by omega) ?_
      have hz1 : O z = some (q + (z - a)) := by
        by_cases haz : a = z
        · subst haz; rw [hOa]; congr 1; omega
        · exact hrun z (by omega) (by omega)
      rw [(hO z (Nat.le_refl z)).1, hz1]
      show Ev _ _ _ _ _ _ [.int (nI (q + (z - a))), _, _] _ _
      refine ev_pV dK_oldItem_93 (c_itemOfTokens hP hb hc0 hc02 (by omega) (by omega) hfi0) lK_130 (rec_T hb) rfl (Nat.le_of_ble_eq_true rfl) rfl (Nat.le_of_ble_eq_true rfl) ?_
      refine ev_ret dK_oldItem_96 rfl rfl ?_
      exact hR
    · first | omega | (simp (disch := omega) only [zcond, nI_ltI, nI_leI, nI_eq] at h50; omega)
  | succ f ih =>
    intro j L hf haj hrun hL0 hL2 hL3 hL4 hL5 hR
    refine ev_il dK_oldItem_47 rfl (by first | assumption | rfl) ?_
    refine ev_il dK_oldItem_49 rfl (by first | assumption | rfl) ?_
    refine ev_icmp (tgt := 78) dK_oldItem_50 (by decide) (fun h50 => ?_) (fun h50 => ?_)
    · first | omega | (simp (disch := omega) only [zcond, nI_ltI, nI_leI, nI_eq] at h50; omega)
    · try simp (disch := omega) only [zcond, nI_ltI, nI_leI, nI_eq, zb0, Classical.not_not, Bool.not_eq_false, Bool.not_eq_true, Nat.not_lt, Nat.not_le] at h50
      refine ev_al dK_oldItem_53 rfl (by first | assumption | rfl) ?_
      refine ev_getrP dK_oldItem_54 fK_23 rfl (zq (q := 24) hP rfl) ?_
      refine ev_il dK_oldItem_57 rfl (by first | assumption | rfl) ?_
      refine ev_aldN dK_oldItem_59 rfl rfl (by omega) ?_
      rw [(hO j (by omega)).1]
      refine ev_il dK_oldItem_60 rfl (by first | assumption | rfl) ?_
      refine ev_sub dK_oldItem_62 ?_
      refine ev_il dK_oldItem_63 rfl (by first | assumption | rfl) ?_
      refine ev_il dK_oldItem_65 rfl (by first | assumption | rfl) ?_
      first | with_reducible refine ev_subN dK_oldItem_66 (by omega) ?_ | refine ev_sub dK_oldItem_66 ?_
      refine ev_icmp (tgt := 72) dK_oldItem_67 (by decide) (fun h67 => ?_) (fun h67 => ?_)
      · simp only [zcond] at h67
        refine ev_inc1 dK_oldItem_72 (by first | assumption | rfl) ?_
        refine ev_goto (tgt := 47) dK_oldItem_75 (by decide) ?_
        have he := (oV_dif (fun i hi => by have := (hO j (by omega)).2 i hi; omega) (by omega) (by omega) (by omega)).mp h67
        refine ih (j + 1) _ (by omega) (by omega) (fun i h1 h2 => ?_) (by first | assumption | rfl) (by first | assumption | rfl) (by first | assumption | rfl) (by first | assumption | rfl) rfl ?_
        · by_cases hij : i = j
          · subst hij; exact he
          · exact hrun i h1 (by omega)
        · rw [oRun, decide_eq_true he] at hR
          exact hR
      · simp only [zcond] at h67
        refine ev_const (v := -1) dK_oldItem_70 (by decide) ?_
        refine ev_ret dK_oldItem_71 rfl rfl ?_
        rw [oRun, decide_eq_false (fun he => h67 ((oV_dif (fun i hi => by have := (hO j (by omega)).2 i hi; omega) (by omega) (by omega) (by omega)).mpr he))] at hR
        exact hR
set_option maxRecDepth 100000 in
set_option maxHeartbeats 4000000 in
theorem c_oldItem {k : Nat} {c0 a z : Nat} {O : Nat → Option Nat} {fi0 la0 : Nat → Nat} (hP : M.2.1 = zP0 n b) (hn : zR n) (hb : zR b) (hz : a ≤ z ∧ z < 160) (hO : ∀ j, j ≤ z → M.1 24 j = oV (O j) ∧ ∀ i, O j = some i → i < 160) (hc0 : M.1 (b + 2) 5 = nI c0) (hc02 : c0 ≤ 160) (hfi0 : ∀ k, k < c0 → M.1 (b + 6) k = nI (fi0 k) ∧ M.1 (b + 7) k = nI (la0 k) ∧ fi0 k < 2 ^ 31 ∧ la0 k < 2 ^ 31) (hk : k < 160) (hfa : M.1 (n + 6) k = nI a) (hla : M.1 (n + 7) k = nI z) : Pu Lx xs (d + 1) mK_oldItem [.ref 0, .int (nI k)] M (oItem O fi0 la0 c0 a z) := by
  unfold Pu Ct
  refine ev_al dK_oldItem_0 rfl (by first | assumption | rfl) ?_
  refine ev_getrP dK_oldItem_1 fK_16 rfl (zq (q := n) hP rfl) ?_
  refine ev_getrP dK_oldItem_4 fK_76 (sh_R hn) (zq hP (pt_tree hn)) ?_
  refine ev_getrP dK_oldItem_7 fK_97 (sh_T hn) (zq hP (pt_firsts hn)) ?_
  refine ev_il dK_oldItem_10 rfl (by first | assumption | rfl) ?_
  refine ev_aldN dK_oldItem_11 rfl (sh_firsts hn) (by omega) ?_
  rw [hfa]
  refine ev_is dK_oldItem_12 rfl (Nat.le_of_ble_eq_true rfl) ?_
  refine ev_al dK_oldItem_13 rfl (by first | assumption | rfl) ?_
  refine ev_getrP dK_oldItem_14 fK_16 rfl (zq (q := n) hP rfl) ?_
  refine ev_getrP dK_oldItem_17 fK_76 (sh_R hn) (zq hP (pt_tree hn)) ?_
  refine ev_getrP dK_oldItem_20 fK_103 (sh_T hn) (zq hP (pt_lasts hn)) ?_
  refine ev_il dK_oldItem_23 rfl (by first | assumption | rfl) ?_
  refine ev_aldN dK_oldItem_24 rfl (sh_lasts hn) (by omega) ?_
  rw [hla]
  refine ev_is dK_oldItem_25 rfl (Nat.le_of_ble_eq_true rfl) ?_
  refine ev_al dK_oldItem_26 rfl (by first | assumption | rfl) ?_
  refine ev_getrP dK_oldItem_27 fK_23 rfl (zq (q := 24) hP rfl) ?_
  refine ev_il dK_oldItem_30 rfl (by first | assumption | rfl) ?_
  refine ev_aldN dK_oldItem_31 rfl rfl (by omega) ?_
  rw [(hO a hz.1).1]
  refine ev_is dK_oldItem_32 rfl (Nat.le_of_ble_eq_true rfl) ?_
  refine ev_il dK_oldItem_34 rfl (by first | assumption | rfl) ?_
  refine ev_const (v := -1) dK_oldItem_36 (by decide) ?_
  refine ev_icmp (tgt := 42) dK_oldItem_37 (by decide) (fun h37 => ?_) (fun h37 => ?_)
  · simp only [zcond, Classical.not_not] at h37
    refine ev_il dK_oldItem_42 rfl (by first | assumption | rfl) ?_
    refine ev_const (v := nI 1) dK_oldItem_43 (by decide) ?_
    first | with_reducible refine ev_addN dK_oldItem_44 ?_ | refine ev_add dK_oldItem_44 ?_
    refine ev_is dK_oldItem_45 rfl (Nat.le_of_ble_eq_true rfl) ?_
    cases hOa : O a with
    | none => rw [hOa] at h37; exact absurd rfl h37
    | some q =>
      refine l_oldItem hP hn hb hz hO hc0 hc02 hfi0 hOa (z - a) (a + 1) _ (by omega) (by omega) (fun i h1 h2 => absurd h1 (by omega)) rfl rfl rfl rfl rfl ?_
      unfold oItem
      rw [hOa]
      exact ⟨rfl, rfl⟩
  · simp only [zcond, Classical.not_not] at h37
    refine ev_const (v := -1) dK_oldItem_40 (by decide) ?_
    refine ev_ret dK_oldItem_41 rfl rfl ?_
    unfold oItem
    cases hOa : O a with
    | none => exact ⟨rfl, rfl⟩
    | some q => rw [hOa] at h37; exact absurd h37 (nI_ne1 (by have := (hO a hz.1).2 q hOa; omega))
/-- numbers are given: kept so far, given so far, the numbers -/
def nGo (oi num0 : Nat → Int32) : Nat → Nat → Nat × Nat × (Nat → Int32) → Nat × Nat × (Nat → Int32)
  | 0, _, x => x
  | f + 1, k, x => if oi k = -1 then nGo oi num0 f (k + 1) (x.1, x.2.1 + 1, upd x.2.2 k (nI x.2.1)) else nGo oi num0 f (k + 1) (x.1 + 1, x.2.1, upd x.2.2 k (num0 (oi k).toNatClampNeg))
def mN (M : zM) (n : Nat) (x : Nat × Nat × (Nat → Int32)) : zM := (fun a => if a = n + 10 then x.2.2 else if a = 0 then upd (upd (M.1 0) 5 (nI x.1)) 6 (nI x.2.1) else M.1 a, M.2)
theorem mN_o {x : Nat × Nat × (Nat → Int32)} {a i : Nat} (h : a ≠ n + 10) (h0 : a ≠ 0) : (mN M n x).1 a i = M.1 a i := by simp [mN, h, h0]
theorem mN_u {x : Nat × Nat × (Nat → Int32)} {i : Nat} : (mN M n x).1 (n + 10) i = x.2.2 i := by simp [mN]
theorem mN_5 {x : Nat × Nat × (Nat → Int32)} : (mN M n x).1 0 5 = nI x.1 := by simp [mN, upd]
theorem mN_6 {x : Nat × Nat × (Nat → Int32)} : (mN M n x).1 0 6 = nI x.2.1 := by simp [mN, upd]
theorem mN_0 {x : Nat × Nat × (Nat → Int32)} {i : Nat} (h5 : i ≠ 5) (h6 : i ≠ 6) : (mN M n x).1 0 i = M.1 0 i := by simp [mN, upd, h5, h6]
theorem mN_su {x : Nat × Nat × (Nat → Int32)} {k : Nat} {v : Int32} : zI (mN M n x) (n + 10) k v = mN M n (x.1, x.2.1, upd x.2.2 k v) := by
  refine zM_ext (fun a i => ?_) rfl
  rw [zI_at]
  by_cases h : a = n + 10
  · subst h; rw [mN_u, mN_u]; simp [upd]
  · rw [if_neg (fun hh => h hh.1)]
    simp only [mN, if_neg h]
theorem mN_s5 {x : Nat × Nat × (Nat → Int32)} {v : Nat} : zI (mN M n x) 0 5 (nI v) = mN M n (v, x.2.1, x.2.2) := by
  refine zM_ext (fun a i => ?_) rfl
  rw [zI_at]
  by_cases h : a = 0
  · subst h
    have h0 : ¬ (0 = n + 10) := by omega
    simp only [mN, if_neg h0, if_true, true_and, upd]
    (repeat' split) <;> first | rfl | (exfalso; omega)
  · rw [if_neg (fun hh => h hh.1)]
    simp only [mN, if_neg h]
theorem mN_s6 {x : Nat × Nat × (Nat → Int32)} {v : Nat} : zI (mN M n x) 0 6 (nI v) = mN M n (x.1, v, x.2.2) := by
  refine zM_ext (fun a i => ?_) rfl
  rw [zI_at]
  by_cases h : a = 0
  · subst h
    have h0 : ¬ (0 = n + 10) := by omega
    simp only [mN, if_neg h0, if_true, true_and, upd]
    (repeat' split) <;> first | rfl | (exfalso; omega)
  · rw [if_neg (fun hh => h hh.1)]
    simp only [mN, if_neg h]
set_option maxRecDepth 100000 in
set_option maxHeartbeats 4000000 in
theorem l_numberItems {c1 : Nat} {oi : Nat → Int32} (hP : M.2.1 = zP0 n b) (hn : zR n) (hb : zR b) (hnb : n ≠ b) (hc1 : M.1 (n + 2) 5 = nI c1) (hc12 : c1 ≤ 160) (hoi : ∀ d x k, k < c1 → Pu Lx xs (d + 1) mK_oldItem [.ref 0, .int (nI k)] (mN M n x) (oi k)) (hoi2 : ∀ k, k < c1 → oi k = -1 ∨ ∃ j, j < 160 ∧ oi k = nI j) {R : Option Int32 → zM → Prop} : ∀ (f k : Nat) (x : Nat × Nat × (Nat → Int32)) (L : Nat → Value), k + f = c1 → L 0 = .ref 0 → L 1 = .int (nI k) → R none (mN M n (nGo oi (M.1 (b + 10)) f k x)) → Ev Lx xs (d + 2) mK_numberItems 7 L [] (mN M n x) (zpost mK_numberItems R) := by
  have hnn : n ≠ 0 ∧ b ≠ 0 ∧ b + 10 ≠ n + 10 := by rcases hn with rfl | rfl <;> rcases hb with rfl | rfl <;> omega
  intro f
  induction f with
  | zero =>
    intro k x L hf hL0 hL1 hR
    refine ev_il dK_numberItems_7 rfl (by first | assumption | rfl) ?_
    refine ev_al dK_numberItems_8 rfl (by first | assumption | rfl) ?_
    refine ev_getrP dK_numberItems_9 fK_16 rfl (zq (q := n) hP rfl) ?_
    refine ev_getrP dK_numberItems_12 fK_76 (sh_R hn) (zq hP (pt_tree hn)) ?_
    refine ev_geti dK_numberItems_15 fK_80 (sh_T hn) ?_
    rw [mN_o (by omega) (by omega), hc1]
    refine ev_icmp (tgt := 101) dK_numberItems_18 (by decide) (fun h18 => ?_) (fun h18 => ?_)
    · try simp (disch := omega) only [zcond, nI_ltI, nI_leI, nI_eq, zb0, Classical.not_not, Bool.not_eq_false, Bool.not_eq_true, Nat.not_lt, Nat.not_le] at h18
      refine ev_vret dK_numberItems_101 rfl ?_
      exact hR
    · first | omega | (simp (disch := omega) only [zcond, nI_ltI, nI_leI, nI_eq] at h18; omega)
  | succ f ih =>
    intro k x L hf hL0 hL1 hR
    refine ev_il dK_numberItems_7 rfl (by first | assumption | rfl) ?_
    refine ev_al dK_numberItems_8 rfl (by first | assumption | rfl) ?_
    refine ev_getrP dK_numberItems_9 fK_16 rfl (zq (q := n) hP rfl) ?_
    refine ev_getrP dK_numberItems_12 fK_76 (sh_R hn) (zq hP (pt_tree hn)) ?_
    refine ev_geti dK_numberItems_15 fK_80 (sh_T hn) ?_
    rw [mN_o (by omega) (by omega), hc1]
    refine ev_icmp (tgt := 101) dK_numberItems_18 (by decide) (fun h18 => ?_) (fun h18 => ?_)
    · first | omega | (simp (disch := omega) only [zcond, nI_ltI, nI_leI, nI_eq] at h18; omega)
    · try simp (disch := omega) only [zcond, nI_ltI, nI_leI, nI_eq, zb0, Classical.not_not, Bool.not_eq_false, Bool.not_eq_true, Nat.not_lt, Nat.not_le] at h18
      refine ev_al dK_numberItems_21 rfl (by first | assumption | rfl) ?_
      refine ev_il dK_numberItems_22 rfl (by first | assumption | rfl) ?_
      refine ev_pV dK_numberItems_23 (hoi _ x k (by omega)) lK_124 rec_K rfl (Nat.le_of_ble_eq_true rfl) rfl (Nat.le_of_ble_eq_true rfl) ?_
      refine ev_is dK_numberItems_26 rfl (Nat.le_of_ble_eq_true rfl) ?_
      have hoik := hoi2 k (by omega)
      refine ev_il dK_numberItems_27 rfl (by first | assumption | rfl) ?_
      refine ev_const (v := -1) dK_numberItems_28 (by decide) ?_
      refine ev_icmp (tgt := 61) dK_numberItems_29 (by decide) (fun h29 => ?_) (fun h29 => ?_)
      · simp only [zcond, Classical.not_not] at h29
        refine ev_al dK_numberItems_61 rfl (by first | assumption | rfl) ?_
        refine ev_getrP dK_numberItems_62 fK_16 rfl (zq (q := n) hP rfl) ?_
        refine ev_getrP dK_numberItems_65 fK_76 (sh_R hn) (zq hP (pt_tree hn)) ?_
        refine ev_getrP dK_numberItems_68 fK_90 (sh_T hn) (zq hP (pt_numbers hn)) ?_
        refine ev_il dK_numberItems_71 rfl (by first | assumption | rfl) ?_
        refine ev_al dK_numberItems_72 rfl (by first | assumption | rfl) ?_
        refine ev_getrP dK_numberItems_73 fK_20 rfl (zq (q := b) hP rfl) ?_
        refine ev_getrP dK_numberItems_76 fK_76 (sh_R hb) (zq hP (pt_tree hb)) ?_
        refine ev_getrP dK_numberItems_79 fK_90 (sh_T hb) (zq hP (pt_numbers hb)) ?_
        refine ev_il dK_numberItems_82 rfl (by first | assumption | rfl) ?_
        rcases hoik with hoik | ⟨j, hj, hoik⟩
        · exact absurd hoik h29
        rw [hoik]
        refine ev_aldN dK_numberItems_83 rfl (sh_numbers hb) (by omega) ?_
        rw [mN_o (by omega) (by omega)]
        refine ev_iastN dK_numberItems_84 (sh_numbers hn) (by omega) ?_
        refine ev_mem (M' := mN M n (x.1, x.2.1, upd x.2.2 k (M.1 (b + 10) j))) mN_su ?_
        refine ev_al dK_numberItems_85 rfl (by first | assumption | rfl) ?_
        refine ev_stk dK_numberItems_86 rfl ?_
        refine ev_geti dK_numberItems_87 fK_83 rfl ?_
        rw [mN_5]
        refine ev_const (v := nI 1) dK_numberItems_90 (by decide) ?_
        first | with_reducible refine ev_addN dK_numberItems_91 ?_ | refine ev_add dK_numberItems_91 ?_
        refine ev_puti dK_numberItems_92 fK_83 fwK_keptItems rfl (vp_nar_int _) rfl ?_
        try refine ev_mem (M' := mN M n (x.1 + 1, x.2.1, upd x.2.2 k (M.1 (b + 10) j))) mN_s5 ?_
        refine ev_inc1 dK_numberItems_95 (by first | assumption | rfl) ?_
        refine ev_goto (tgt := 7) dK_numberItems_98 (by decide) ?_
        first
        | (refine ih (k + 1) _ _ (by omega) (by first | assumption | rfl) rfl ?_
           rw [nGo, if_pos h29] at hR
           exact hR)
        | (refine ih (k + 1) _ _ (by omega) (by first | assumption | rfl) rfl ?_
           rw [nGo, if_neg h29, hoik, nI_clamp (by omega)] at hR
           exact hR)
      · simp only [zcond, Classical.not_not] at h29
        refine ev_al dK_numberItems_32 rfl (by first | assumption | rfl) ?_
        refine ev_getrP dK_numberItems_33 fK_16 rfl (zq (q := n) hP rfl) ?_
        refine ev_getrP dK_numberItems_36 fK_76 (sh_R hn) (zq hP (pt_tree hn)) ?_
        refine ev_getrP dK_numberItems_39 fK_90 (sh_T hn) (zq hP (pt_numbers hn)) ?_
        refine ev_il dK_numberItems_42 rfl (by first | assumption | rfl) ?_
        refine ev_al dK_numberItems_43 rfl (by first | assumption | rfl) ?_
        refine ev_geti dK_numberItems_44 fK_127 rfl ?_
        rw [mN_6]
        refine ev_iastN dK_numberItems_47 (sh_numbers hn) (by omega) ?_
        refine ev_mem (M' := mN M n (x.1, x.2.1, upd x.2.2 k (nI x.2.1))) mN_su ?_
        refine ev_al dK_numberItems_48 rfl (by first | assumption | rfl) ?_
        refine ev_stk dK_numberItems_49 rfl ?_
        refine ev_geti dK_numberItems_50 fK_127 rfl ?_
        rw [mN_6]
        refine ev_const (v := nI 1) dK_numberItems_53 (by decide) ?_
        first | with_reducible refine ev_addN dK_numberItems_54 ?_ | refine ev_add dK_numberItems_54 ?_
        refine ev_puti dK_numberItems_55 fK_127 fwK_numbersGiven rfl (vp_nar_int _) rfl ?_
        refine ev_mem (M' := mN M n (x.1, x.2.1 + 1, upd x.2.2 k (nI x.2.1))) mN_s6 ?_
        refine ev_goto (tgt := 95) dK_numberItems_58 (by decide) ?_
        try refine ev_mem (M' := mN M n (x.1 + 1, x.2.1, upd x.2.2 k (M.1 (b + 10) j))) mN_s5 ?_
        refine ev_inc1 dK_numberItems_95 (by first | assumption | rfl) ?_
        refine ev_goto (tgt := 7) dK_numberItems_98 (by decide) ?_
        first
        | (refine ih (k + 1) _ _ (by omega) (by first | assumption | rfl) rfl ?_
           rw [nGo, if_pos h29] at hR
           exact hR)
        | (refine ih (k + 1) _ _ (by omega) (by first | assumption | rfl) rfl ?_
           rw [nGo, if_neg h29, hoik, nI_clamp (by omega)] at hR
           exact hR)
set_option maxRecDepth 100000 in
set_option maxHeartbeats 4000000 in
theorem c_numberItems {c1 gi : Nat} {oi : Nat → Int32} (hP : M.2.1 = zP0 n b) (hn : zR n) (hb : zR b) (hnb : n ≠ b) (hc1 : M.1 (n + 2) 5 = nI c1) (hc12 : c1 ≤ 160) (hgi : M.1 0 6 = nI gi) (hoi : ∀ d x k, k < c1 → Pu Lx xs (d + 1) mK_oldItem [.ref 0, .int (nI k)] (mN M n x) (oi k)) (hoi2 : ∀ k, k < c1 → oi k = -1 ∨ ∃ j, j < 160 ∧ oi k = nI j) : Ct Lx xs (d + 2) mK_numberItems [.ref 0] M (fun q M' => q = none ∧ M' = mN M n (nGo oi (M.1 (b + 10)) c1 0 (0, gi, M.1 (n + 10)))) := by
  unfold Ct
  refine ev_al dK_numberItems_0 rfl (by first | assumption | rfl) ?_
  refine ev_const (v := nI 0) dK_numberItems_1 (by decide) ?_
  refine ev_puti dK_numberItems_2 fK_83 fwK_keptItems rfl (vp_nar_int _) rfl ?_
  refine ev_const (v := nI 0) dK_numberItems_5 (by decide) ?_
  refine ev_is dK_numberItems_6 rfl (Nat.le_of_ble_eq_true rfl) ?_
  refine ev_mem (M' := mN M n (0, gi, M.1 (n + 10))) ?_ (l_numberItems hP hn hb hnb hc1 hc12 hoi hoi2 c1 0 _ _ (by omega) rfl rfl ⟨rfl, rfl⟩)
  refine zM_ext (fun a i => ?_) rfl
  rw [zI_at]
  by_cases h : a = n + 10
  · subst h; rw [mN_u, if_neg (by omega)]
  · by_cases h0 : a = 0
    · subst h0
      by_cases h5 : i = 5
      · subst h5; rw [mN_5, if_pos ⟨rfl, rfl⟩]
      · by_cases h6 : i = 6
        · subst h6; rw [mN_6, if_neg (by omega)]; exact hgi
        · rw [mN_0 h5 h6, if_neg (by omega)]
    · rw [mN_o h h0, if_neg (by omega)]
end
end
section
/- KeptItems: the calls that only ask, type and wipe (rows laid by program) -/
section
variable {Lx : Nat} {xs : Nat → Int32} {d : Nat} {M : zM} {n b : Nat}
set_option maxRecDepth 100000 in
set_option maxHeartbeats 4000000 in
theorem k_length (hP : M.2.1 = zP0 n b) (hn : zR n) : Pu Lx xs d mK_length [.ref 0] M (M.1 (n + 1) 1) := by
  unfold Pu Ct
  refine ev_al dK_length_0 rfl (by first | assumption | rfl) ?_
  refine ev_getrP dK_length_1 fK_16 rfl (zq (q := n) hP rfl) ?_
  refine ev_getrP dK_length_4 fK_31 (sh_R hn) (zq hP (pt_source hn)) ?_
  refine ev_geti dK_length_7 fK_35 (sh_S hn) ?_
  refine ev_ret dK_length_10 rfl rfl ?_
  exact ⟨rfl, rfl⟩
set_option maxRecDepth 100000 in
set_option maxHeartbeats 4000000 in
theorem k_tokens (hP : M.2.1 = zP0 n b) (hn : zR n) : Pu Lx xs d mK_tokens [.ref 0] M (M.1 (n + 1) 4) := by
  unfold Pu Ct
  refine ev_al dK_tokens_0 rfl (by first | assumption | rfl) ?_
  refine ev_getrP dK_tokens_1 fK_16 rfl (zq (q := n) hP rfl) ?_
  refine ev_getrP dK_tokens_4 fK_31 (sh_R hn) (zq hP (pt_source hn)) ?_
  refine ev_geti dK_tokens_7 fK_63 (sh_S hn) ?_
  refine ev_ret dK_tokens_10 rfl rfl ?_
  exact ⟨rfl, rfl⟩
set_option maxRecDepth 100000 in
set_option maxHeartbeats 4000000 in
theorem k_items (hP : M.2.1 = zP0 n b) (hn : zR n) : Pu Lx xs d mK_items [.ref 0] M (M.1 (n + 2) 5) := by
  unfold Pu Ct
  refine ev_al dK_items_0 rfl (by first | assumption | rfl) ?_
  refine ev_getrP dK_items_1 fK_16 rfl (zq (q := n) hP rfl) ?_
  refine ev_getrP dK_items_4 fK_76 (sh_R hn) (zq hP (pt_tree hn)) ?_
  refine ev_geti dK_items_7 fK_80 (sh_T hn) ?_
  refine ev_ret dK_items_10 rfl rfl ?_
  exact ⟨rfl, rfl⟩
set_option maxRecDepth 100000 in
set_option maxHeartbeats 4000000 in
theorem k_kept (hP : M.2.1 = zP0 n b) (hn : zR n) : Pu Lx xs d mK_kept [.ref 0] M (M.1 0 5) := by
  unfold Pu Ct
  refine ev_al dK_kept_0 rfl (by first | assumption | rfl) ?_
  refine ev_geti dK_kept_1 fK_83 rfl ?_
  refine ev_ret dK_kept_4 rfl rfl ?_
  exact ⟨rfl, rfl⟩
set_option maxRecDepth 100000 in
set_option maxHeartbeats 4000000 in
theorem k_wipe (hP : M.2.1 = zP0 n b) (hn : zR n) : Ct Lx xs d mK_wipe [.ref 0] M (fun q M' => q = some (M.1 0 1) ∧ M' = zI M 0 1 (nI 0)) := by
  unfold Ct
  refine ev_al dK_wipe_0 rfl (by first | assumption | rfl) ?_
  refine ev_geti dK_wipe_1 fK_27 rfl ?_
  refine ev_is dK_wipe_4 rfl (Nat.le_of_ble_eq_true rfl) ?_
  refine ev_al dK_wipe_5 rfl (by first | assumption | rfl) ?_
  refine ev_const (v := nI 0) dK_wipe_6 (by decide) ?_
  refine ev_puti dK_wipe_7 fK_27 fwK_rowSize rfl (vp_nar_int _) rfl ?_
  refine ev_il dK_wipe_10 rfl (by first | assumption | rfl) ?_
  refine ev_ret dK_wipe_11 rfl rfl ?_
  exact ⟨rfl, rfl⟩
def tyOk (c : Nat) : Bool := decide (c = 10 ∨ (32 ≤ c ∧ c ≤ 126))
set_option maxRecDepth 100000 in
set_option maxHeartbeats 4000000 in
theorem k_type {c w : Nat} (hP : M.2.1 = zP0 n b) (hn : zR n) (hc : c < 65536) (hw : M.1 0 1 = nI w) (hw2 : w ≤ 40) : Ct Lx xs d mK_type [.ref 0, .int (nI c)] M (fun q M' => (q, M') = if tyOk c = true ∧ w < 40 then (some (nI 1), zI (zI M 1 w (nI c)) 0 1 (nI (w + 1))) else (some (nI 0), M)) := by
  unfold Ct
  refine ev_il dK_type_0 rfl (by first | assumption | rfl) ?_
  refine ev_const (v := nI 10) dK_type_1 (by decide) ?_
  refine ev_icmp (tgt := 18) dK_type_3 (by decide) (fun h3 => ?_) (fun h3 => ?_)
  · try simp (disch := omega) only [zcond, nI_ltI, nI_leI, nI_eq, zb0, Classical.not_not, Bool.not_eq_false, Bool.not_eq_true, Nat.not_lt, Nat.not_le] at h3
    refine ev_const (v := nI 1) dK_type_18 (by decide) ?_
    refine ev_goto (tgt := 23) dK_type_19 (by decide) ?_
    refine ev_is dK_type_23 rfl (Nat.le_of_ble_eq_true rfl) ?_
    refine ev_il dK_type_24 rfl (by first | assumption | rfl) ?_
    refine ev_if0 (tgt := 37) dK_type_25 (by decide) (fun h25 => ?_) (fun h25 => ?_)
    · simp only [zcond] at h25
      refine ev_const (v := nI 0) dK_type_37 (by decide) ?_
      refine ev_ret dK_type_38 rfl rfl ?_
      first
      | (rw [if_neg (by simp [tyOk]; omega)])
      | (exfalso; exact h25 rfl)
      | (exfalso; exact h25 trivial)
      | (exfalso; exact absurd h25 (show ¬ nI 1 = nI 0 by decide))
    · simp only [zcond] at h25
      refine ev_al dK_type_28 rfl (by first | assumption | rfl) ?_
      refine ev_geti dK_type_29 fK_27 rfl ?_
      rw [hw]
      refine ev_const (v := nI 40) dK_type_32 (by decide) ?_
      refine ev_icmp (tgt := 39) dK_type_34 (by decide) (fun h34 => ?_) (fun h34 => ?_)
      · try simp (disch := omega) only [zcond, nI_ltI, nI_leI, nI_eq, zb0, Classical.not_not, Bool.not_eq_false, Bool.not_eq_true, Nat.not_lt, Nat.not_le] at h34
        refine ev_al dK_type_39 rfl (by first | assumption | rfl) ?_
        refine ev_getrP dK_type_40 fK_9 rfl (zq (q := 1) hP rfl) ?_
        refine ev_al dK_type_43 rfl (by first | assumption | rfl) ?_
        refine ev_geti dK_type_44 fK_27 rfl ?_
        rw [hw]
        refine ev_il dK_type_47 rfl (by first | assumption | rfl) ?_
        refine ev_castN dK_type_48 rfl (by omega) (by omega) ?_
        refine ev_al dK_type_49 rfl (by first | assumption | rfl) ?_
        refine ev_stk dK_type_50 rfl ?_
        refine ev_geti dK_type_51 fK_27 rfl ?_
        rw [show (zI M 1 w (nI c)).1 0 1 = nI w from (zI_o (by omega)).trans hw]
        refine ev_const (v := nI 1) dK_type_54 (by decide) ?_
        first | with_reducible refine ev_addN dK_type_55 ?_ | refine ev_add dK_type_55 ?_
        refine ev_puti dK_type_56 fK_27 fwK_rowSize rfl (vp_nar_int _) rfl ?_
        refine ev_const (v := nI 1) dK_type_59 (by decide) ?_
        refine ev_ret dK_type_60 rfl rfl ?_
        first
        | (rw [if_pos (by simp [tyOk]; omega)])
        | (exfalso; exact h25 rfl)
        | (exfalso; exact h25 trivial)
      · try simp (disch := omega) only [zcond, nI_ltI, nI_leI, nI_eq, zb0, Classical.not_not, Bool.not_eq_false, Bool.not_eq_true, Nat.not_lt, Nat.not_le] at h34
        refine ev_const (v := nI 0) dK_type_37 (by decide) ?_
        refine ev_ret dK_type_38 rfl rfl ?_
        first
        | (rw [if_neg (by simp [tyOk]; omega)])
        | (exfalso; exact h25 rfl)
        | (exfalso; exact h25 trivial)
        | (exfalso; exact absurd h25 (show ¬ nI 1 = nI 0 by decide))
  · try simp (disch := omega) only [zcond, nI_ltI, nI_leI, nI_eq, zb0, Classical.not_not, Bool.not_eq_false, Bool.not_eq_true, Nat.not_lt, Nat.not_le] at h3
    refine ev_il dK_type_6 rfl (by first | assumption | rfl) ?_
    refine ev_const (v := nI 32) dK_type_7 (by decide) ?_
    refine ev_icmp (tgt := 22) dK_type_9 (by decide) (fun h9 => ?_) (fun h9 => ?_)
    · try simp (disch := omega) only [zcond, nI_ltI, nI_leI, nI_eq, zb0, Classical.not_not, Bool.not_eq_false, Bool.not_eq_true, Nat.not_lt, Nat.not_le] at h9
      refine ev_const (v := nI 0) dK_type_22 (by decide) ?_
      refine ev_is dK_type_23 rfl (Nat.le_of_ble_eq_true rfl) ?_
      refine ev_il dK_type_24 rfl (by first | assumption | rfl) ?_
      refine ev_if0 (tgt := 37) dK_type_25 (by decide) (fun h25 => ?_) (fun h25 => ?_)
      · simp only [zcond] at h25
        refine ev_const (v := nI 0) dK_type_37 (by decide) ?_
        refine ev_ret dK_type_38 rfl rfl ?_
        first
        | (rw [if_neg (by simp [tyOk]; omega)])
        | (exfalso; exact h25 rfl)
        | (exfalso; exact h25 trivial)
        | (exfalso; exact absurd h25 (show ¬ nI 1 = nI 0 by decide))
      · simp only [zcond] at h25
        refine ev_al dK_type_28 rfl (by first | assumption | rfl) ?_
        refine ev_geti dK_type_29 fK_27 rfl ?_
        rw [hw]
        refine ev_const (v := nI 40) dK_type_32 (by decide) ?_
        refine ev_icmp (tgt := 39) dK_type_34 (by decide) (fun h34 => ?_) (fun h34 => ?_)
        · try simp (disch := omega) only [zcond, nI_ltI, nI_leI, nI_eq, zb0, Classical.not_not, Bool.not_eq_false, Bool.not_eq_true, Nat.not_lt, Nat.not_le] at h34
          refine ev_al dK_type_39 rfl (by first | assumption | rfl) ?_
          refine ev_getrP dK_type_40 fK_9 rfl (zq (q := 1) hP rfl) ?_
          refine ev_al dK_type_43 rfl (by first | assumption | rfl) ?_
          refine ev_geti dK_type_44 fK_27 rfl ?_
          rw [hw]
          refine ev_il dK_type_47 rfl (by first | assumption | rfl) ?_
          refine ev_castN dK_type_48 rfl (by omega) (by omega) ?_
          refine ev_al dK_type_49 rfl (by first | assumption | rfl) ?_
          refine ev_stk dK_type_50 rfl ?_
          refine ev_geti dK_type_51 fK_27 rfl ?_
          rw [show (zI M 1 w (nI c)).1 0 1 = nI w from (zI_o (by omega)).trans hw]
          refine ev_const (v := nI 1) dK_type_54 (by decide) ?_
          first | with_reducible refine ev_addN dK_type_55 ?_ | refine ev_add dK_type_55 ?_
          refine ev_puti dK_type_56 fK_27 fwK_rowSize rfl (vp_nar_int _) rfl ?_
          refine ev_const (v := nI 1) dK_type_59 (by decide) ?_
          refine ev_ret dK_type_60 rfl rfl ?_
          first
          | (rw [if_pos (by simp [tyOk]; omega)])
          | (exfalso; exact h25 rfl)
          | (exfalso; exact h25 trivial)
        · try simp (disch := omega) only [zcond, nI_ltI, nI_leI, nI_eq, zb0, Classical.not_not, Bool.not_eq_false, Bool.not_eq_true, Nat.not_lt, Nat.not_le] at h34
          refine ev_const (v := nI 0) dK_type_37 (by decide) ?_
          refine ev_ret dK_type_38 rfl rfl ?_
          first
          | (rw [if_neg (by simp [tyOk]; omega)])
          | (exfalso; exact h25 rfl)
          | (exfalso; exact h25 trivial)
          | (exfalso; exact absurd h25 (show ¬ nI 1 = nI 0 by decide))
    · try simp (disch := omega) only [zcond, nI_ltI, nI_leI, nI_eq, zb0, Classical.not_not, Bool.not_eq_false, Bool.not_eq_true, Nat.not_lt, Nat.not_le] at h9
      refine ev_il dK_type_12 rfl (by first | assumption | rfl) ?_
      refine ev_const (v := nI 126) dK_type_13 (by decide) ?_
      refine ev_icmp (tgt := 22) dK_type_15 (by decide) (fun h15 => ?_) (fun h15 => ?_)
      · try simp (disch := omega) only [zcond, nI_ltI, nI_leI, nI_eq, zb0, Classical.not_not, Bool.not_eq_false, Bool.not_eq_true, Nat.not_lt, Nat.not_le] at h15
        refine ev_const (v := nI 0) dK_type_22 (by decide) ?_
        refine ev_is dK_type_23 rfl (Nat.le_of_ble_eq_true rfl) ?_
        refine ev_il dK_type_24 rfl (by first | assumption | rfl) ?_
        refine ev_if0 (tgt := 37) dK_type_25 (by decide) (fun h25 => ?_) (fun h25 => ?_)
        · simp only [zcond] at h25
          refine ev_const (v := nI 0) dK_type_37 (by decide) ?_
          refine ev_ret dK_type_38 rfl rfl ?_
          first
          | (rw [if_neg (by simp [tyOk]; omega)])
          | (exfalso; exact h25 rfl)
          | (exfalso; exact h25 trivial)
          | (exfalso; exact absurd h25 (show ¬ nI 1 = nI 0 by decide))
        · simp only [zcond] at h25
          refine ev_al dK_type_28 rfl (by first | assumption | rfl) ?_
          refine ev_geti dK_type_29 fK_27 rfl ?_
          rw [hw]
          refine ev_const (v := nI 40) dK_type_32 (by decide) ?_
          refine ev_icmp (tgt := 39) dK_type_34 (by decide) (fun h34 => ?_) (fun h34 => ?_)
          · try simp (disch := omega) only [zcond, nI_ltI, nI_leI, nI_eq, zb0, Classical.not_not, Bool.not_eq_false, Bool.not_eq_true, Nat.not_lt, Nat.not_le] at h34
            refine ev_al dK_type_39 rfl (by first | assumption | rfl) ?_
            refine ev_getrP dK_type_40 fK_9 rfl (zq (q := 1) hP rfl) ?_
            refine ev_al dK_type_43 rfl (by first | assumption | rfl) ?_
            refine ev_geti dK_type_44 fK_27 rfl ?_
            rw [hw]
            refine ev_il dK_type_47 rfl (by first | assumption | rfl) ?_
            refine ev_castN dK_type_48 rfl (by omega) (by omega) ?_
            refine ev_al dK_type_49 rfl (by first | assumption | rfl) ?_
            refine ev_stk dK_type_50 rfl ?_
            refine ev_geti dK_type_51 fK_27 rfl ?_
            rw [show (zI M 1 w (nI c)).1 0 1 = nI w from (zI_o (by omega)).trans hw]
            refine ev_const (v := nI 1) dK_type_54 (by decide) ?_
            first | with_reducible refine ev_addN dK_type_55 ?_ | refine ev_add dK_type_55 ?_
            refine ev_puti dK_type_56 fK_27 fwK_rowSize rfl (vp_nar_int _) rfl ?_
            refine ev_const (v := nI 1) dK_type_59 (by decide) ?_
            refine ev_ret dK_type_60 rfl rfl ?_
            first
            | (rw [if_pos (by simp [tyOk]; omega)])
            | (exfalso; exact h25 rfl)
            | (exfalso; exact h25 trivial)
          · try simp (disch := omega) only [zcond, nI_ltI, nI_leI, nI_eq, zb0, Classical.not_not, Bool.not_eq_false, Bool.not_eq_true, Nat.not_lt, Nat.not_le] at h34
            refine ev_const (v := nI 0) dK_type_37 (by decide) ?_
            refine ev_ret dK_type_38 rfl rfl ?_
            first
            | (rw [if_neg (by simp [tyOk]; omega)])
            | (exfalso; exact h25 rfl)
            | (exfalso; exact h25 trivial)
            | (exfalso; exact absurd h25 (show ¬ nI 1 = nI 0 by decide))
      · try simp (disch := omega) only [zcond, nI_ltI, nI_leI, nI_eq, zb0, Classical.not_not, Bool.not_eq_false, Bool.not_eq_true, Nat.not_lt, Nat.not_le] at h15
        refine ev_const (v := nI 1) dK_type_18 (by decide) ?_
        refine ev_goto (tgt := 23) dK_type_19 (by decide) ?_
        refine ev_is dK_type_23 rfl (Nat.le_of_ble_eq_true rfl) ?_
        refine ev_il dK_type_24 rfl (by first | assumption | rfl) ?_
        refine ev_if0 (tgt := 37) dK_type_25 (by decide) (fun h25 => ?_) (fun h25 => ?_)
        · simp only [zcond] at h25
          refine ev_const (v := nI 0) dK_type_37 (by decide) ?_
          refine ev_ret dK_type_38 rfl rfl ?_
          first
          | (rw [if_neg (by simp [tyOk]; omega)])
          | (exfalso; exact h25 rfl)
          | (exfalso; exact h25 trivial)
          | (exfalso; exact absurd h25 (show ¬ nI 1 = nI 0 by decide))
        · simp only [zcond] at h25
          refine ev_al dK_type_28 rfl (by first | assumption | rfl) ?_
          refine ev_geti dK_type_29 fK_27 rfl ?_
          rw [hw]
          refine ev_const (v := nI 40) dK_type_32 (by decide) ?_
          refine ev_icmp (tgt := 39) dK_type_34 (by decide) (fun h34 => ?_) (fun h34 => ?_)
          · try simp (disch := omega) only [zcond, nI_ltI, nI_leI, nI_eq, zb0, Classical.not_not, Bool.not_eq_false, Bool.not_eq_true, Nat.not_lt, Nat.not_le] at h34
            refine ev_al dK_type_39 rfl (by first | assumption | rfl) ?_
            refine ev_getrP dK_type_40 fK_9 rfl (zq (q := 1) hP rfl) ?_
            refine ev_al dK_type_43 rfl (by first | assumption | rfl) ?_
            refine ev_geti dK_type_44 fK_27 rfl ?_
            rw [hw]
            refine ev_il dK_type_47 rfl (by first | assumption | rfl) ?_
            refine ev_castN dK_type_48 rfl (by omega) (by omega) ?_
            refine ev_al dK_type_49 rfl (by first | assumption | rfl) ?_
            refine ev_stk dK_type_50 rfl ?_
            refine ev_geti dK_type_51 fK_27 rfl ?_
            rw [show (zI M 1 w (nI c)).1 0 1 = nI w from (zI_o (by omega)).trans hw]
            refine ev_const (v := nI 1) dK_type_54 (by decide) ?_
            first | with_reducible refine ev_addN dK_type_55 ?_ | refine ev_add dK_type_55 ?_
            refine ev_puti dK_type_56 fK_27 fwK_rowSize rfl (vp_nar_int _) rfl ?_
            refine ev_const (v := nI 1) dK_type_59 (by decide) ?_
            refine ev_ret dK_type_60 rfl rfl ?_
            first
            | (rw [if_pos (by simp [tyOk]; omega)])
            | (exfalso; exact h25 rfl)
            | (exfalso; exact h25 trivial)
          · try simp (disch := omega) only [zcond, nI_ltI, nI_leI, nI_eq, zb0, Classical.not_not, Bool.not_eq_false, Bool.not_eq_true, Nat.not_lt, Nat.not_le] at h34
            refine ev_const (v := nI 0) dK_type_37 (by decide) ?_
            refine ev_ret dK_type_38 rfl rfl ?_
            first
            | (rw [if_neg (by simp [tyOk]; omega)])
            | (exfalso; exact h25 rfl)
            | (exfalso; exact h25 trivial)
            | (exfalso; exact absurd h25 (show ¬ nI 1 = nI 0 by decide))
set_option maxRecDepth 100000 in
set_option maxHeartbeats 4000000 in
theorem k_at_in {e k c : Nat} (hP : M.2.1 = zP0 n b) (hn : zR n) (he : M.1 (n + 1) 1 = nI e) (he2 : e ≤ 160) (hk : k < e) (hc : M.1 (n + 3) k = nI c) (hc2 : c < 65536) : Pu Lx xs d mK_at [.ref 0, .int (nI k)] M (nI c) := by
  unfold Pu Ct
  refine ev_il dK_at_0 rfl (by first | assumption | rfl) ?_
  refine ev_if0 (tgt := 33) dK_at_1 (by decide) (fun h1 => ?_) (fun h1 => ?_)
  · first | omega | (simp (disch := omega) only [zcond, nI_ltI, nI_leI, nI_eq] at h1; omega)
  · try simp (disch := omega) only [zcond, nI_ltI, nI_leI, nI_eq, zb0, Classical.not_not, Bool.not_eq_false, Bool.not_eq_true, Nat.not_lt, Nat.not_le] at h1
    refine ev_il dK_at_4 rfl (by first | assumption | rfl) ?_
    refine ev_al dK_at_5 rfl (by first | assumption | rfl) ?_
    refine ev_getrP dK_at_6 fK_16 rfl (zq (q := n) hP rfl) ?_
    refine ev_getrP dK_at_9 fK_31 (sh_R hn) (zq hP (pt_source hn)) ?_
    refine ev_geti dK_at_12 fK_35 (sh_S hn) ?_
    rw [he]
    refine ev_icmp (tgt := 33) dK_at_15 (by decide) (fun h15 => ?_) (fun h15 => ?_)
    · first | omega | (simp (disch := omega) only [zcond, nI_ltI, nI_leI, nI_eq] at h15; omega)
    · try simp (disch := omega) only [zcond, nI_ltI, nI_leI, nI_eq, zb0, Classical.not_not, Bool.not_eq_false, Bool.not_eq_true, Nat.not_lt, Nat.not_le] at h15
      refine ev_al dK_at_18 rfl (by first | assumption | rfl) ?_
      refine ev_getrP dK_at_19 fK_16 rfl (zq (q := n) hP rfl) ?_
      refine ev_getrP dK_at_22 fK_31 (sh_R hn) (zq hP (pt_source hn)) ?_
      refine ev_getrP dK_at_25 fK_66 (sh_S hn) (zq hP (pt_chars hn)) ?_
      refine ev_il dK_at_28 rfl (by first | assumption | rfl) ?_
      refine ev_aldN dK_at_29 rfl (sh_chars hn) (by omega) ?_
      rw [hc]
      refine ev_goto (tgt := 34) dK_at_30 (by decide) ?_
      refine ev_ret dK_at_34 rfl (zchr (by omega)) ?_
      exact ⟨rfl, rfl⟩
set_option maxRecDepth 100000 in
set_option maxHeartbeats 4000000 in
theorem k_at_out {e : Nat} {x : Int32} (hP : M.2.1 = zP0 n b) (hn : zR n) (he : M.1 (n + 1) 1 = nI e) (h : x < nI 0 ∨ nI e ≤ x) : Pu Lx xs d mK_at [.ref 0, .int x] M (nI 0) := by
  unfold Pu Ct
  refine ev_il dK_at_0 rfl (by first | assumption | rfl) ?_
  refine ev_if0 (tgt := 33) dK_at_1 (by decide) (fun h1 => ?_) (fun h1 => ?_)
  · refine ev_const (v := nI 0) dK_at_33 (by decide) ?_
    refine ev_ret dK_at_34 rfl rfl ?_
    exact ⟨rfl, rfl⟩
  · refine ev_il dK_at_4 rfl (by first | assumption | rfl) ?_
    refine ev_al dK_at_5 rfl (by first | assumption | rfl) ?_
    refine ev_getrP dK_at_6 fK_16 rfl (zq (q := n) hP rfl) ?_
    refine ev_getrP dK_at_9 fK_31 (sh_R hn) (zq hP (pt_source hn)) ?_
    refine ev_geti dK_at_12 fK_35 (sh_S hn) ?_
    rw [he]
    refine ev_icmp (tgt := 33) dK_at_15 (by decide) (fun h15 => ?_) (fun h15 => ?_)
    · refine ev_const (v := nI 0) dK_at_33 (by decide) ?_
      refine ev_ret dK_at_34 rfl rfl ?_
      exact ⟨rfl, rfl⟩
    · exact (h.elim h1 h15).elim
set_option maxRecDepth 100000 in
set_option maxHeartbeats 4000000 in
theorem k_token_in {c k : Nat} (hP : M.2.1 = zP0 n b) (hn : zR n) (hc : M.1 (n + 1) 4 = nI c) (hc2 : c ≤ 160) (hk : k < c) : Pu Lx xs d mK_token [.ref 0, .int (nI k)] M (M.1 (n + 4) k) := by
  unfold Pu Ct
  refine ev_il dK_token_0 rfl (by first | assumption | rfl) ?_
  refine ev_if0 (tgt := 18) dK_token_1 (by decide) (fun h1 => ?_) (fun h1 => ?_)
  · first | omega | (simp (disch := omega) only [zcond, nI_ltI, nI_leI, nI_eq] at h1; omega)
  · try simp (disch := omega) only [zcond, nI_ltI, nI_leI, nI_eq, zb0, Classical.not_not, Bool.not_eq_false, Bool.not_eq_true, Nat.not_lt, Nat.not_le] at h1
    refine ev_il dK_token_4 rfl (by first | assumption | rfl) ?_
    refine ev_al dK_token_5 rfl (by first | assumption | rfl) ?_
    refine ev_getrP dK_token_6 fK_16 rfl (zq (q := n) hP rfl) ?_
    refine ev_getrP dK_token_9 fK_31 (sh_R hn) (zq hP (pt_source hn)) ?_
    refine ev_geti dK_token_12 fK_63 (sh_S hn) ?_
    rw [hc]
    refine ev_icmp (tgt := 26) dK_token_15 (by decide) (fun h15 => ?_) (fun h15 => ?_)
    · try simp (disch := omega) only [zcond, nI_ltI, nI_leI, nI_eq, zb0, Classical.not_not, Bool.not_eq_false, Bool.not_eq_true, Nat.not_lt, Nat.not_le] at h15
      refine ev_al dK_token_26 rfl (by first | assumption | rfl) ?_
      refine ev_getrP dK_token_27 fK_16 rfl (zq (q := n) hP rfl) ?_
      refine ev_getrP dK_token_30 fK_31 (sh_R hn) (zq hP (pt_source hn)) ?_
      refine ev_getrP dK_token_33 fK_69 (sh_S hn) (zq hP (pt_found hn)) ?_
      refine ev_il dK_token_36 rfl (by first | assumption | rfl) ?_
      refine ev_aldN dK_token_37 rfl (sh_found hn) (by omega) ?_
      refine ev_ret dK_token_38 rfl rfl ?_
      exact ⟨rfl, rfl⟩
    · first | omega | (simp (disch := omega) only [zcond, nI_ltI, nI_leI, nI_eq] at h15; omega)
set_option maxRecDepth 100000 in
set_option maxHeartbeats 4000000 in
theorem k_token_out {c : Nat} {x : Int32} (hP : M.2.1 = zP0 n b) (hn : zR n) (hc : M.1 (n + 1) 4 = nI c) (h : x < nI 0 ∨ nI c ≤ x) : Ev Lx xs d mK_token 0 (zarg [.ref 0, .int x]) [] M (fun pc' _ st' M' => pc' = 18 ∧ st' = [] ∧ M' = M) := by
  refine ev_il dK_token_0 rfl (by first | assumption | rfl) ?_
  refine ev_if0 (tgt := 18) dK_token_1 (by decide) (fun h1 => ?_) (fun h1 => ?_)
  · exact ev_done ⟨rfl, rfl, rfl⟩
  · refine ev_il dK_token_4 rfl (by first | assumption | rfl) ?_
    refine ev_al dK_token_5 rfl (by first | assumption | rfl) ?_
    refine ev_getrP dK_token_6 fK_16 rfl (zq (q := n) hP rfl) ?_
    refine ev_getrP dK_token_9 fK_31 (sh_R hn) (zq hP (pt_source hn)) ?_
    refine ev_geti dK_token_12 fK_63 (sh_S hn) ?_
    rw [hc]
    refine ev_icmp (tgt := 26) dK_token_15 (by decide) (fun h15 => ?_) (fun h15 => ?_)
    · exact (h.elim h1 (Int32.not_le.mpr h15)).elim
    · exact ev_done ⟨rfl, rfl, rfl⟩
set_option maxRecDepth 100000 in
set_option maxHeartbeats 4000000 in
theorem k_number_in {c k : Nat} (hP : M.2.1 = zP0 n b) (hn : zR n) (hc : M.1 (n + 2) 5 = nI c) (hc2 : c ≤ 160) (hk : k < c) : Pu Lx xs (d + 1) mK_number [.ref 0, .int (nI k)] M (M.1 (n + 10) k) := by
  unfold Pu Ct
  refine ev_al dK_number_0 rfl (by first | assumption | rfl) ?_
  refine ev_getrP dK_number_1 fK_16 rfl (zq (q := n) hP rfl) ?_
  refine ev_getrP dK_number_4 fK_76 (sh_R hn) (zq hP (pt_tree hn)) ?_
  refine ev_il dK_number_7 rfl (by first | assumption | rfl) ?_
  refine ev_pV dK_number_8 (c_has_in hP hn hc hc2 hk) lK_86 (rec_T hn) rfl (Nat.le_of_ble_eq_true rfl) rfl (Nat.le_of_ble_eq_true rfl) ?_
  refine ev_if0 (tgt := 29) dK_number_11 (by decide) (fun h11 => ?_) (fun h11 => ?_)
  · exact absurd h11 (show ¬ nI 1 = nI 0 by decide)
  · refine ev_al dK_number_14 rfl (by first | assumption | rfl) ?_
    refine ev_getrP dK_number_15 fK_16 rfl (zq (q := n) hP rfl) ?_
    refine ev_getrP dK_number_18 fK_76 (sh_R hn) (zq hP (pt_tree hn)) ?_
    refine ev_getrP dK_number_21 fK_90 (sh_T hn) (zq hP (pt_numbers hn)) ?_
    refine ev_il dK_number_24 rfl (by first | assumption | rfl) ?_
    refine ev_aldN dK_number_25 rfl (sh_numbers hn) (by omega) ?_
    refine ev_goto (tgt := 30) dK_number_26 (by decide) ?_
    refine ev_ret dK_number_30 rfl rfl ?_
    exact ⟨rfl, rfl⟩
set_option maxRecDepth 100000 in
set_option maxHeartbeats 4000000 in
theorem k_number_out {c : Nat} {x : Int32} (hP : M.2.1 = zP0 n b) (hn : zR n) (hc : M.1 (n + 2) 5 = nI c) (h : x < nI 0 ∨ nI c ≤ x) : Pu Lx xs (d + 1) mK_number [.ref 0, .int x] M (-1) := by
  unfold Pu Ct
  refine ev_al dK_number_0 rfl (by first | assumption | rfl) ?_
  refine ev_getrP dK_number_1 fK_16 rfl (zq (q := n) hP rfl) ?_
  refine ev_getrP dK_number_4 fK_76 (sh_R hn) (zq hP (pt_tree hn)) ?_
  refine ev_il dK_number_7 rfl (by first | assumption | rfl) ?_
  refine ev_pV dK_number_8 (c_has_out hP hn hc h) lK_86 (rec_T hn) rfl (Nat.le_of_ble_eq_true rfl) rfl (Nat.le_of_ble_eq_true rfl) ?_
  refine ev_if0 (tgt := 29) dK_number_11 (by decide) (fun h11 => ?_) (fun h11 => ?_)
  · refine ev_const (v := -1) dK_number_29 (by decide) ?_
    refine ev_ret dK_number_30 rfl rfl ?_
    exact ⟨rfl, rfl⟩
  · exact (h11 rfl).elim
set_option maxRecDepth 100000 in
set_option maxHeartbeats 4000000 in
theorem k_level_in {c k : Nat} (hP : M.2.1 = zP0 n b) (hn : zR n) (hc : M.1 (n + 2) 5 = nI c) (hc2 : c ≤ 160) (hk : k < c) : Pu Lx xs (d + 1) mK_level [.ref 0, .int (nI k)] M (M.1 (n + 8) k) := by
  unfold Pu Ct
  refine ev_al dK_level_0 rfl (by first | assumption | rfl) ?_
  refine ev_getrP dK_level_1 fK_16 rfl (zq (q := n) hP rfl) ?_
  refine ev_getrP dK_level_4 fK_76 (sh_R hn) (zq hP (pt_tree hn)) ?_
  refine ev_il dK_level_7 rfl (by first | assumption | rfl) ?_
  refine ev_pV dK_level_8 (c_has_in hP hn hc hc2 hk) lK_86 (rec_T hn) rfl (Nat.le_of_ble_eq_true rfl) rfl (Nat.le_of_ble_eq_true rfl) ?_
  refine ev_if0 (tgt := 29) dK_level_11 (by decide) (fun h11 => ?_) (fun h11 => ?_)
  · exact absurd h11 (show ¬ nI 1 = nI 0 by decide)
  · refine ev_al dK_level_14 rfl (by first | assumption | rfl) ?_
    refine ev_getrP dK_level_15 fK_16 rfl (zq (q := n) hP rfl) ?_
    refine ev_getrP dK_level_18 fK_76 (sh_R hn) (zq hP (pt_tree hn)) ?_
    refine ev_getrP dK_level_21 fK_109 (sh_T hn) (zq hP (pt_levels hn)) ?_
    refine ev_il dK_level_24 rfl (by first | assumption | rfl) ?_
    refine ev_aldN dK_level_25 rfl (sh_levels hn) (by omega) ?_
    refine ev_goto (tgt := 30) dK_level_26 (by decide) ?_
    refine ev_ret dK_level_30 rfl rfl ?_
    exact ⟨rfl, rfl⟩
set_option maxRecDepth 100000 in
set_option maxHeartbeats 4000000 in
theorem k_level_out {c : Nat} {x : Int32} (hP : M.2.1 = zP0 n b) (hn : zR n) (hc : M.1 (n + 2) 5 = nI c) (h : x < nI 0 ∨ nI c ≤ x) : Pu Lx xs (d + 1) mK_level [.ref 0, .int x] M (-1) := by
  unfold Pu Ct
  refine ev_al dK_level_0 rfl (by first | assumption | rfl) ?_
  refine ev_getrP dK_level_1 fK_16 rfl (zq (q := n) hP rfl) ?_
  refine ev_getrP dK_level_4 fK_76 (sh_R hn) (zq hP (pt_tree hn)) ?_
  refine ev_il dK_level_7 rfl (by first | assumption | rfl) ?_
  refine ev_pV dK_level_8 (c_has_out hP hn hc h) lK_86 (rec_T hn) rfl (Nat.le_of_ble_eq_true rfl) rfl (Nat.le_of_ble_eq_true rfl) ?_
  refine ev_if0 (tgt := 29) dK_level_11 (by decide) (fun h11 => ?_) (fun h11 => ?_)
  · refine ev_const (v := -1) dK_level_29 (by decide) ?_
    refine ev_ret dK_level_30 rfl rfl ?_
    exact ⟨rfl, rfl⟩
  · exact (h11 rfl).elim
set_option maxRecDepth 100000 in
set_option maxHeartbeats 4000000 in
theorem k_begin_out {c : Nat} {x : Int32} (hP : M.2.1 = zP0 n b) (hn : zR n) (hc : M.1 (n + 2) 5 = nI c) (h : x < nI 0 ∨ nI c ≤ x) : Ev Lx xs (d + 1) mK_begin 0 (zarg [.ref 0, .int x]) [] M (fun pc' _ st' M' => pc' = 14 ∧ st' = [] ∧ M' = M) := by
  refine ev_al dK_begin_0 rfl (by first | assumption | rfl) ?_
  refine ev_getrP dK_begin_1 fK_16 rfl (zq (q := n) hP rfl) ?_
  refine ev_getrP dK_begin_4 fK_76 (sh_R hn) (zq hP (pt_tree hn)) ?_
  refine ev_il dK_begin_7 rfl (by first | assumption | rfl) ?_
  refine ev_pV dK_begin_8 (c_has_out hP hn hc h) lK_86 (rec_T hn) rfl (Nat.le_of_ble_eq_true rfl) rfl (Nat.le_of_ble_eq_true rfl) ?_
  refine ev_if0 (tgt := 22) dK_begin_11 (by decide) (fun h11 => ?_) (fun h11 => ?_)
  · exact absurd rfl h11
  · exact ev_done ⟨rfl, rfl, rfl⟩
set_option maxRecDepth 100000 in
set_option maxHeartbeats 4000000 in
theorem k_end_out {c : Nat} {x : Int32} (hP : M.2.1 = zP0 n b) (hn : zR n) (hc : M.1 (n + 2) 5 = nI c) (h : x < nI 0 ∨ nI c ≤ x) : Ev Lx xs (d + 1) mK_end 0 (zarg [.ref 0, .int x]) [] M (fun pc' _ st' M' => pc' = 14 ∧ st' = [] ∧ M' = M) := by
  refine ev_al dK_end_0 rfl (by first | assumption | rfl) ?_
  refine ev_getrP dK_end_1 fK_16 rfl (zq (q := n) hP rfl) ?_
  refine ev_getrP dK_end_4 fK_76 (sh_R hn) (zq hP (pt_tree hn)) ?_
  refine ev_il dK_end_7 rfl (by first | assumption | rfl) ?_
  refine ev_pV dK_end_8 (c_has_out hP hn hc h) lK_86 (rec_T hn) rfl (Nat.le_of_ble_eq_true rfl) rfl (Nat.le_of_ble_eq_true rfl) ?_
  refine ev_if0 (tgt := 22) dK_end_11 (by decide) (fun h11 => ?_) (fun h11 => ?_)
  · exact absurd rfl h11
  · exact ev_done ⟨rfl, rfl, rfl⟩
set_option maxRecDepth 100000 in
set_option maxHeartbeats 4000000 in
theorem k_value_out {c : Nat} {x : Int32} (hP : M.2.1 = zP0 n b) (hn : zR n) (hc : M.1 (n + 2) 5 = nI c) (h : x < nI 0 ∨ nI c ≤ x) : Ev Lx xs (d + 1) mK_value 0 (zarg [.ref 0, .int x]) [] M (fun pc' _ st' M' => pc' = 14 ∧ st' = [] ∧ M' = M) := by
  refine ev_al dK_value_0 rfl (by first | assumption | rfl) ?_
  refine ev_getrP dK_value_1 fK_16 rfl (zq (q := n) hP rfl) ?_
  refine ev_getrP dK_value_4 fK_76 (sh_R hn) (zq hP (pt_tree hn)) ?_
  refine ev_il dK_value_7 rfl (by first | assumption | rfl) ?_
  refine ev_pV dK_value_8 (c_has_out hP hn hc h) lK_86 (rec_T hn) rfl (Nat.le_of_ble_eq_true rfl) rfl (Nat.le_of_ble_eq_true rfl) ?_
  refine ev_if0 (tgt := 22) dK_value_11 (by decide) (fun h11 => ?_) (fun h11 => ?_)
  · exact absurd rfl h11
  · exact ev_done ⟨rfl, rfl, rfl⟩
set_option maxRecDepth 100000 in
set_option maxHeartbeats 4000000 in
theorem k_value_in {c k : Nat} (hP : M.2.1 = zP0 n b) (hn : zR n) (hc : M.1 (n + 2) 5 = nI c) (hc2 : c ≤ 160) (hk : k < c) : Pu Lx xs (d + 1) mK_value [.ref 0, .int (nI k)] M (M.1 (n + 9) k) := by
  unfold Pu Ct
  refine ev_al dK_value_0 rfl (by first | assumption | rfl) ?_
  refine ev_getrP dK_value_1 fK_16 rfl (zq (q := n) hP rfl) ?_
  refine ev_getrP dK_value_4 fK_76 (sh_R hn) (zq hP (pt_tree hn)) ?_
  refine ev_il dK_value_7 rfl (by first | assumption | rfl) ?_
  refine ev_pV dK_value_8 (c_has_in hP hn hc hc2 hk) lK_86 (rec_T hn) rfl (Nat.le_of_ble_eq_true rfl) rfl (Nat.le_of_ble_eq_true rfl) ?_
  refine ev_if0 (tgt := 22) dK_value_11 (by decide) (fun h11 => ?_) (fun h11 => ?_)
  · refine ev_al dK_value_22 rfl (by first | assumption | rfl) ?_
    refine ev_getrP dK_value_23 fK_16 rfl (zq (q := n) hP rfl) ?_
    refine ev_getrP dK_value_26 fK_76 (sh_R hn) (zq hP (pt_tree hn)) ?_
    refine ev_getrP dK_value_29 fK_112 (sh_T hn) (zq hP (pt_values hn)) ?_
    refine ev_il dK_value_32 rfl (by first | assumption | rfl) ?_
    refine ev_aldN dK_value_33 rfl (sh_values hn) (by omega) ?_
    refine ev_ret dK_value_34 rfl rfl ?_
    exact ⟨rfl, rfl⟩
  · exact absurd h11 (show ¬ ¬ ¬ nI 1 = nI 0 by decide)
set_option maxRecDepth 100000 in
set_option maxHeartbeats 4000000 in
theorem k_begin_in {c k a v : Nat} (hP : M.2.1 = zP0 n b) (hn : zR n) (hc : M.1 (n + 2) 5 = nI c) (hc2 : c ≤ 160) (hk : k < c) (ha : M.1 (n + 6) k = nI a) (ha2 : a < 160) (hv : M.1 (n + 4) a = nI v) (hv2 : v < 2 ^ 31) : Pu Lx xs (d + 1) mK_begin [.ref 0, .int (nI k)] M (nI (v / 2048)) := by
  unfold Pu Ct
  refine ev_al dK_begin_0 rfl (by first | assumption | rfl) ?_
  refine ev_getrP dK_begin_1 fK_16 rfl (zq (q := n) hP rfl) ?_
  refine ev_getrP dK_begin_4 fK_76 (sh_R hn) (zq hP (pt_tree hn)) ?_
  refine ev_il dK_begin_7 rfl (by first | assumption | rfl) ?_
  refine ev_pV dK_begin_8 (c_has_in hP hn hc hc2 hk) lK_86 (rec_T hn) rfl (Nat.le_of_ble_eq_true rfl) rfl (Nat.le_of_ble_eq_true rfl) ?_
  refine ev_if0 (tgt := 22) dK_begin_11 (by decide) (fun h11 => ?_) (fun h11 => ?_)
  · refine ev_al dK_begin_22 rfl (by first | assumption | rfl) ?_
    refine ev_getrP dK_begin_23 fK_16 rfl (zq (q := n) hP rfl) ?_
    refine ev_getrP dK_begin_26 fK_31 (sh_R hn) (zq hP (pt_source hn)) ?_
    refine ev_al dK_begin_29 rfl (by first | assumption | rfl) ?_
    refine ev_getrP dK_begin_30 fK_16 rfl (zq (q := n) hP rfl) ?_
    refine ev_getrP dK_begin_33 fK_76 (sh_R hn) (zq hP (pt_tree hn)) ?_
    refine ev_getrP dK_begin_36 fK_97 (sh_T hn) (zq hP (pt_firsts hn)) ?_
    refine ev_il dK_begin_39 rfl (by first | assumption | rfl) ?_
    refine ev_aldN dK_begin_40 rfl (sh_firsts hn) (by omega) ?_
    rw [ha]
    refine ev_pV dK_begin_41 (c_placeOf hP hn ha2 hv hv2) lK_100 (rec_S hn) rfl (Nat.le_of_ble_eq_true rfl) rfl (Nat.le_of_ble_eq_true rfl) ?_
    refine ev_ret dK_begin_44 rfl rfl ?_
    exact ⟨rfl, rfl⟩
  · exact absurd h11 (show ¬ ¬ ¬ nI 1 = nI 0 by decide)
set_option maxRecDepth 100000 in
set_option maxHeartbeats 4000000 in
theorem k_end_in {c k a v : Nat} (hP : M.2.1 = zP0 n b) (hn : zR n) (hc : M.1 (n + 2) 5 = nI c) (hc2 : c ≤ 160) (hk : k < c) (ha : M.1 (n + 7) k = nI a) (ha2 : a < 160) (hv : M.1 (n + 4) a = nI v) (hv2 : v < 2 ^ 31) : Pu Lx xs (d + 2) mK_end [.ref 0, .int (nI k)] M (nI (v / 2048 + v % 2048 / 8)) := by
  unfold Pu Ct
  refine ev_al dK_end_0 rfl (by first | assumption | rfl) ?_
  refine ev_getrP dK_end_1 fK_16 rfl (zq (q := n) hP rfl) ?_
  refine ev_getrP dK_end_4 fK_76 (sh_R hn) (zq hP (pt_tree hn)) ?_
  refine ev_il dK_end_7 rfl (by first | assumption | rfl) ?_
  refine ev_pV dK_end_8 (c_has_in hP hn hc hc2 hk) lK_86 (rec_T hn) rfl (Nat.le_of_ble_eq_true rfl) rfl (Nat.le_of_ble_eq_true rfl) ?_
  refine ev_if0 (tgt := 22) dK_end_11 (by decide) (fun h11 => ?_) (fun h11 => ?_)
  · refine ev_al dK_end_22 rfl (by first | assumption | rfl) ?_
    refine ev_getrP dK_end_23 fK_16 rfl (zq (q := n) hP rfl) ?_
    refine ev_getrP dK_end_26 fK_31 (sh_R hn) (zq hP (pt_source hn)) ?_
    refine ev_al dK_end_29 rfl (by first | assumption | rfl) ?_
    refine ev_getrP dK_end_30 fK_16 rfl (zq (q := n) hP rfl) ?_
    refine ev_getrP dK_end_33 fK_76 (sh_R hn) (zq hP (pt_tree hn)) ?_
    refine ev_getrP dK_end_36 fK_103 (sh_T hn) (zq hP (pt_lasts hn)) ?_
    refine ev_il dK_end_39 rfl (by first | assumption | rfl) ?_
    refine ev_aldN dK_end_40 rfl (sh_lasts hn) (by omega) ?_
    rw [ha]
    refine ev_pV dK_end_41 (c_placeBehind hP hn ha2 hv hv2) lK_106 (rec_S hn) rfl (Nat.le_of_ble_eq_true rfl) rfl (Nat.le_of_ble_eq_true rfl) ?_
    refine ev_ret dK_end_44 rfl rfl ?_
    exact ⟨rfl, rfl⟩
  · exact absurd h11 (show ¬ ¬ ¬ nI 1 = nI 0 by decide)
set_option maxRecDepth 100000 in
set_option maxHeartbeats 4000000 in
theorem k_which {c : Nat} {x : Int32} (hP : M.2.1 = zP0 n b) (hn : zR n) (hc : M.1 (n + 2) 5 = nI c) (hc2 : c ≤ 160) : Pu Lx xs (d + 1) mK_which [.ref 0, .int x] M (tNu (M.1 (n + 10)) x c 0) := by
  unfold Pu Ct
  refine ev_al dK_which_0 rfl (by first | assumption | rfl) ?_
  refine ev_getrP dK_which_1 fK_16 rfl (zq (q := n) hP rfl) ?_
  refine ev_getrP dK_which_4 fK_76 (sh_R hn) (zq hP (pt_tree hn)) ?_
  refine ev_il dK_which_7 rfl (by first | assumption | rfl) ?_
  refine ev_pV dK_which_8 (c_itemNumbered hP hn hc hc2) lK_93 (rec_T hn) rfl (Nat.le_of_ble_eq_true rfl) rfl (Nat.le_of_ble_eq_true rfl) ?_
  refine ev_ret dK_which_11 rfl rfl ?_
  exact ⟨rfl, rfl⟩
set_option maxRecDepth 100000 in
set_option maxHeartbeats 4000000 in
theorem c_faultPlace {r nT e : Nat} {s : pE} {V : Nat → Nat} (hP : M.2.1 = zP0 n b) (hr : zR r) (h1 : M.1 r 2 = nI s.1) (h2 : M.1 r 3 = nI s.2.toNat) (hs : s.1 < 2 ^ 31) (hV : Pkd M r nT V) (he : M.1 (r + 1) 1 = nI e) : Pu Lx xs (d + 1) mR_faultPlace [.ref r] M (if s.2 = true then (if s.1 < nT then nI (V s.1 / 2048) else nI e) else -1) := by
  unfold Pu Ct
  have hnT := hV.2.1
  refine ev_al dR_faultPlace_0 rfl (by first | assumption | rfl) ?_
  refine ev_geti dR_faultPlace_1 fR_29 (sh_R hr) ?_
  rw [h2]
  refine ev_if0 (tgt := 9) dR_faultPlace_4 (by decide) (fun h4 => ?_) (fun h4 => ?_)
  · try simp (disch := omega) only [zcond, nI_ltI, nI_leI, nI_eq, zb0, Classical.not_not, Bool.not_eq_false, Bool.not_eq_true, Nat.not_lt, Nat.not_le] at h4
    refine ev_al dR_faultPlace_9 rfl (by first | assumption | rfl) ?_
    refine ev_geti dR_faultPlace_10 fR_25 (sh_R hr) ?_
    rw [h1]
    refine ev_al dR_faultPlace_13 rfl (by first | assumption | rfl) ?_
    refine ev_getrP dR_faultPlace_14 fR_12 (sh_R hr) (zq hP (pt_source hr)) ?_
    refine ev_geti dR_faultPlace_17 fR_36 (sh_S hr) ?_
    rw [hV.1]
    refine ev_icmp (tgt := 37) dR_faultPlace_20 (by decide) (fun h20 => ?_) (fun h20 => ?_)
    · try simp (disch := omega) only [zcond, nI_ltI, nI_leI, nI_eq, zb0, Classical.not_not, Bool.not_eq_false, Bool.not_eq_true, Nat.not_lt, Nat.not_le] at h20
      refine ev_al dR_faultPlace_37 rfl (by first | assumption | rfl) ?_
      refine ev_getrP dR_faultPlace_38 fR_12 (sh_R hr) (zq hP (pt_source hr)) ?_
      refine ev_geti dR_faultPlace_41 fR_45 (sh_S hr) ?_
      try rw [he]
      refine ev_ret dR_faultPlace_44 rfl rfl ?_
      rw [if_pos h4]
      first | (rw [if_pos h20]; exact ⟨rfl, rfl⟩) | (rw [if_neg (by omega)]; exact ⟨rfl, rfl⟩)
    · try simp (disch := omega) only [zcond, nI_ltI, nI_leI, nI_eq, zb0, Classical.not_not, Bool.not_eq_false, Bool.not_eq_true, Nat.not_lt, Nat.not_le] at h20
      refine ev_al dR_faultPlace_23 rfl (by first | assumption | rfl) ?_
      refine ev_getrP dR_faultPlace_24 fR_12 (sh_R hr) (zq hP (pt_source hr)) ?_
      refine ev_al dR_faultPlace_27 rfl (by first | assumption | rfl) ?_
      refine ev_geti dR_faultPlace_28 fR_25 (sh_R hr) ?_
      rw [h1]
      refine ev_pV dR_faultPlace_31 (c_placeOf hP hr (by omega) (hV.2.2.1 s.1 h20).1 (Nat.lt_trans (hV.2.2.1 s.1 h20).2 (by decide))) lR_41 (rec_S hr) rfl (Nat.le_of_ble_eq_true rfl) rfl (Nat.le_of_ble_eq_true rfl) ?_
      refine ev_goto (tgt := 44) dR_faultPlace_34 (by decide) ?_
      try rw [he]
      refine ev_ret dR_faultPlace_44 rfl rfl ?_
      rw [if_pos h4]
      first | (rw [if_pos h20]; exact ⟨rfl, rfl⟩) | (rw [if_neg (by omega)]; exact ⟨rfl, rfl⟩)
  · try simp (disch := omega) only [zcond, nI_ltI, nI_leI, nI_eq, zb0, Classical.not_not, Bool.not_eq_false, Bool.not_eq_true, Nat.not_lt, Nat.not_le] at h4
    refine ev_const (v := -1) dR_faultPlace_7 (by decide) ?_
    refine ev_ret dR_faultPlace_8 rfl rfl ?_
    rw [if_neg (by rw [h4]; decide)]; exact ⟨rfl, rfl⟩
set_option maxRecDepth 100000 in
set_option maxHeartbeats 4000000 in
theorem k_fault {nT e : Nat} {s : pE} {V : Nat → Nat} (hP : M.2.1 = zP0 n b) (hn : zR n) (h1 : M.1 n 2 = nI s.1) (h2 : M.1 n 3 = nI s.2.toNat) (hs : s.1 < 2 ^ 31) (hV : Pkd M n nT V) (he : M.1 (n + 1) 1 = nI e) : Pu Lx xs (d + 2) mK_fault [.ref 0] M (if s.2 = true then (if s.1 < nT then nI (V s.1 / 2048) else nI e) else -1) := by
  unfold Pu Ct
  refine ev_al dK_fault_0 rfl (by first | assumption | rfl) ?_
  refine ev_getrP dK_fault_1 fK_16 rfl (zq (q := n) hP rfl) ?_
  refine ev_pV dK_fault_4 (c_faultPlace hP hn h1 h2 hs hV he) lK_72 (rec_R hn) rfl (Nat.le_of_ble_eq_true rfl) rfl (Nat.le_of_ble_eq_true rfl) ?_
  refine ev_ret dK_fault_7 rfl rfl ?_
  exact ⟨rfl, rfl⟩
end
end
section
/- tokens as functions of their number; what reading leaves -/
theorem lTok_ord (t : Nat → Nat) (n : Nat) : ∀ (f p k j : Nat) (q q' : Nat × Nat × Nat), k < j → (lTok t n f p)[k]? = some q → (lTok t n f p)[j]? = some q' → q.1 + q.2.1 ≤ q'.1
  | 0, p, k, j, q, q', _, h, _ => by simp [lTok] at h
  | f + 1, p, k, j, q, q', hkj, h, h' => by
    unfold lTok at h h'
    split at h
    · rename_i hp
      rw [if_pos hp] at h'
      obtain ⟨j, rfl⟩ : ∃ j', j = j' + 1 := ⟨j - 1, by omega⟩
      rw [List.getElem?_cons_succ] at h'
      cases k with
      | zero =>
        simp at h
        subst h
        have h1 := lTok_in t n f _ j q' h'
        have h2 := lBl_in t (n - lEnd t n p) (lEnd t n p) false
        have h3 := lEnd_in t hp
        show p + (lEnd t n p - p) ≤ q'.1
        omega
      | succ k =>
        rw [List.getElem?_cons_succ] at h
        exact lTok_ord t n f _ k j q q' (by omega) h h'
    · simp at h
/-- tokens in order, within e characters -/
def tsOk (e : Nat) (ts : List (Nat × Nat × Nat)) : Prop := e ≤ 160 ∧ ts.length ≤ e ∧ (∀ (k : Nat) (q : Nat × Nat × Nat), ts[k]? = some q → 0 < q.2.1 ∧ q.1 + q.2.1 ≤ e ∧ q.2.2 < 5) ∧ ∀ (k j : Nat) (q q' : Nat × Nat × Nat), k < j → ts[k]? = some q → ts[j]? = some q' → q.1 + q.2.1 ≤ q'.1
theorem tsOk_all {t : Nat → Nat} {e : Nat} (he : e ≤ 160) : tsOk e (lAll t e) :=
  ⟨he, lTok_len t e 161 _, fun k q h => (lTok_in t e 161 _ k q h).2, fun k j q q' hkj h h' => lTok_ord t e 161 _ k j q q' hkj h h'⟩
def tk (ts : List (Nat × Nat × Nat)) (k : Nat) : Nat × Nat × Nat := ts.getD k (0, 0, 0)
def tV (ts : List (Nat × Nat × Nat)) (k : Nat) : Nat := (tk ts k).1 * 2048 + (tk ts k).2.1 * 8 + (tk ts k).2.2
def tMk (t : Nat → Nat) (ts : List (Nat × Nat × Nat)) (k : Nat) : Nat := lMk (tk ts k).2.2 (t (tk ts k).1)
def tSl (ts : List (Nat × Nat × Nat)) (k : Nat) : Nat := (tk ts k).2.1
def tTv (t : Nat → Nat) (ts : List (Nat × Nat × Nat)) (k : Nat) : Int32 := lDv t (tk ts k).1 (tk ts k).2.1
def tSm (t : Nat → Nat) (ts : List (Nat × Nat × Nat)) (a z : Nat) : Bool := if tV ts a % 2048 = tV ts z % 2048 then lSame t (tV ts a % 2048 / 8) (tV ts a / 2048) (tV ts z / 2048) else false
theorem tk_at {ts : List (Nat × Nat × Nat)} {k : Nat} (h : k < ts.length) : ts[k]? = some (tk ts k) := by
  unfold tk; rw [List.getD_eq_getElem?_getD, List.getElem?_eq_getElem h]; rfl
theorem tV_in {e : Nat} {ts : List (Nat × Nat × Nat)} (h : tsOk e ts) {k : Nat} (hk : k < ts.length) : tV ts k < 2 ^ 24 ∧ tV ts k / 2048 = (tk ts k).1 ∧ tV ts k % 2048 / 8 = (tk ts k).2.1 ∧ tV ts k % 8 = (tk ts k).2.2 ∧ (tk ts k).1 + (tk ts k).2.1 ≤ e ∧ 0 < (tk ts k).2.1 := by
  have h1 := h.2.2.1 k _ (tk_at hk)
  have h0 := h.1
  unfold tV
  generalize tk ts k = q at h1
  obtain ⟨a, l, c⟩ := q
  simp only at h1 ⊢
  omega
theorem tV_lt {e : Nat} {ts : List (Nat × Nat × Nat)} (h : tsOk e ts) {k j : Nat} (hkj : k < j) (hj : j < ts.length) : tV ts k < tV ts j := by
  have h1 := h.2.2.2 k j _ _ hkj (tk_at (by omega)) (tk_at hj)
  have h2 := h.2.2.1 k _ (tk_at (show k < ts.length by omega))
  have h3 := h.1
  unfold tV
  generalize tk ts k = q at h1 h2
  generalize tk ts j = q' at h1
  obtain ⟨a, l, c⟩ := q
  obtain ⟨a', l', c'⟩ := q'
  simp only at h1 h2 ⊢
  omega
theorem Pkd_of {M : zM} {r e : Nat} {t : Nat → Nat} {ts : List (Nat × Nat × Nat)} (h : Toks M r t ts) (ho : tsOk e ts) : Pkd M r ts.length (tV ts) :=
  ⟨h.1, Nat.le_trans ho.2.1 ho.1, fun k hk => ⟨(h.2 k _ (tk_at hk)).1, (tV_in ho hk).1⟩, fun k j hkj hj => tV_lt ho hkj hj⟩
theorem Mks_of {M : zM} {r e : Nat} {t : Nat → Nat} {ts : List (Nat × Nat × Nat)} (hT : Txt M r t e) (h : Toks M r t ts) (ho : tsOk e ts) : Mks M r ts.length (tMk t ts) :=
  ⟨h.1, Nat.le_trans ho.2.1 ho.1, fun k hk => ⟨(h.2 k _ (tk_at hk)).2, lMk_lt (hT.2.2 _ (by have := tV_in ho hk; omega)).2⟩⟩
theorem iOk_of {Lx : Nat} {xs : Nat → Int32} {M : zM} {n b r e : Nat} {t : Nat → Nat} {ts : List (Nat × Nat × Nat)} (hP : M.2.1 = zP0 n b) (hr : zR r) (hT : Txt M r t e) (h : Toks M r t ts) (ho : tsOk e ts) : iOk Lx xs M n b r ts.length (tMk t ts) (tTv t ts) (tSl ts) (tSm t ts) := by
  refine ⟨hP, hr, Mks_of hT h ho, fun MM hs => ?_⟩
  have hn : ts.length ≤ 160 := Nat.le_trans ho.2.1 ho.1
  have hP' : MM.2.1 = zP0 n b := hs.1.trans hP
  have hT' : Txt MM r t e := ⟨(hs.2 _ _ (by omega)).trans hT.1, hT.2.1, fun i hi => ⟨(hs.2 _ _ (by omega)).trans (hT.2.2 i hi).1, (hT.2.2 i hi).2⟩⟩
  have hv : ∀ k, k < ts.length → MM.1 (r + 4) k = nI (tV ts k) := fun k hk => (hs.2 _ _ (by omega)).trans (h.2 k _ (tk_at hk)).1
  have hv2 : ∀ k, k < ts.length → tV ts k < 2 ^ 31 := fun k hk => Nat.lt_trans (tV_in ho hk).1 (by decide)
  have hl : ∀ k, k < ts.length → tV ts k / 2048 + tV ts k % 2048 / 8 ≤ e := fun k hk => by have := tV_in ho hk; omega
  refine ⟨fun d k hk => ?_, fun d k hk hm => ?_, fun d a z ha hz => ?_⟩
  · have h1 := c_lengthOf (Lx := Lx) (xs := xs) (d := d) hP' hr (show k < 160 by omega) (hv k hk) (hv2 k hk)
    rw [(tV_in ho hk).2.2.1] at h1
    exact h1
  · have h1 := c_digitsValue (Lx := Lx) (xs := xs) (d := d) hP' hr hT' (show k < 160 by omega) (hv k hk) (hv2 k hk) (hl k hk)
    rw [(tV_in ho hk).2.2.1, (tV_in ho hk).2.1] at h1
    exact h1
  · exact c_areSame hP' hr hT' (by omega) (by omega) (hv a ha) (hv z hz) (hv2 a ha) (hv2 z hz) (hl a ha) (hl z hz)
section
variable {nT : Nat} {mk : Nat → Nat} {tv : Nat → Int32} {sl : Nat → Nat} {same : Nat → Nat → Bool}
/-- the items below k are as they were -/
def tFr (c : Nat) (T T' : pTr) : Prop := ∀ k, k < c → T'.2.1 k = T.2.1 k ∧ T'.2.2.1 k = T.2.2.1 k ∧ T'.2.2.2.1 k = T.2.2.2.1 k ∧ T'.2.2.2.2 k = T.2.2.2.2 k
theorem tFr.rf (c : Nat) (T : pTr) : tFr c T T := fun _ _ => ⟨rfl, rfl, rfl, rfl⟩
theorem tFr.tr {c c' : Nat} {T T1 T2 : pTr} (h : tFr c T T1) (h' : tFr c' T1 T2) (hc : c ≤ c') : tFr c T T2 := fun k hk => by
  obtain ⟨a1, a2, a3, a4⟩ := h k hk
  obtain ⟨b1, b2, b3, b4⟩ := h' k (by omega)
  exact ⟨b1.trans a1, b2.trans a2, b3.trans a3, b4.trans a4⟩
theorem tFr.bg (T : pTr) (p dp : Nat) : tFr T.1 T (pBg T p dp) := fun k hk => by
  have hk : k ≠ T.1 := by omega
  simp [pBg, upd, hk]
theorem tFr.va {c : Nat} {T T' : pTr} {k : Nat} {x : Int32} (h : tFr c T T') (hk : c ≤ k) : tFr c T (pVa T' k x) := fun j hj => by
  obtain ⟨a1, a2, a3, a4⟩ := h j hj
  have hj : j ≠ k := by omega
  simp [pVa, upd, hj, a1, a2, a3, a4]
theorem tFr.la {c : Nat} {T T' : pTr} {k : Nat} {x : Int32} (h : tFr c T T') (hk : c ≤ k) : tFr c T (pLa T' k x) := fun j hj => by
  obtain ⟨a1, a2, a3, a4⟩ := h j hj
  have hj : j ≠ k := by omega
  simp [pLa, upd, hj, a1, a2, a3, a4]
theorem pi_fr : ∀ (f tag dp i : Nat) (s : pE) (T : pTr), tFr T.1 T (pi nT mk tv sl same f tag dp i s T).1.2
  | 0, tag, dp, i, s, T => by rw [pi]; exact tFr.rf _ _
  | f + 1, 0, dp, i, s, T => by
    rw [pi]
    split
    · exact tFr.rf _ _
    split
    · split
      · have h1 := pi_fr f 1 dp 0 (s.1 + 1, s.2) (pBg T s.1 dp)
        exact (((tFr.bg T s.1 dp).tr h1 (Nat.le_succ _)).va (Nat.le_refl _)).la (Nat.le_refl _)
      · exact ((tFr.bg T s.1 dp).va (Nat.le_refl _)).la (Nat.le_refl _)
    · exact ((tFr.bg T s.1 dp).va (Nat.le_refl _)).la (Nat.le_refl _)
  | f + 1, tag + 1, dp, i, s, T => by
    rw [pi]
    · split
      · exact tFr.rf _ _
      · exact (pi_fr f 0 (dp + 1) 0 s T).tr (pi_fr f 1 dp (i + 1) _ _) (pi_ok f 0 (dp + 1) 0 s T).2.2
    all_goals omega
/-- the items from lo on are whole: a first and a last token -/
def tDn (nT lo : Nat) (T : pTr) : Prop := ∀ k, lo ≤ k → k < T.1 → ∃ a z, a ≤ z ∧ z < nT ∧ T.2.1 k = nI a ∧ T.2.2.1 k = nI z
theorem pi_dn : ∀ (f tag dp i : Nat) (s : pE) (T : pTr), s.1 ≤ nT → s.2 = false → (tag = 0 → 0 < f) → (pi nT mk tv sl same f tag dp i s T).1.1.2 = false → tDn nT T.1 (pi nT mk tv sl same f tag dp i s T).1.2
  | 0, tag, dp, i, s, T, _, _, _, _ => by rw [pi]; intro k h1 h2; exact absurd h1 (Nat.not_le_of_lt h2)
  | f + 1, 0, dp, i, s, T, hs, hu, _, he => by
    have hone := pi_one (f := f) (dp := dp) (i := i) (s := s) (T := T) he
    have hle := (pi_ok (nT := nT) (mk := mk) (tv := tv) (sl := sl) (same := same) (f + 1) 0 dp i s T).1.2.1 hs
    have hfr := pi_fr (nT := nT) (mk := mk) (tv := tv) (sl := sl) (same := same) (f + 1) 0 dp i s T
    have hown : ∀ X : (pE × pTr) × Nat, pi nT mk tv sl same (f + 1) 0 dp i s T = X → X.1.2.2.1 T.1 = nI s.1 → X.1.2.2.2.1 T.1 = nI X.1.1.1 - nI 1 → ∃ a z, a ≤ z ∧ z < nT ∧ X.1.2.2.1 T.1 = nI a ∧ X.1.2.2.2.1 T.1 = nI z := by
      intro X hX h1 h2
      rw [hX] at hone hle
      refine ⟨s.1, X.1.1.1 - 1, by omega, by omega, h1, ?_⟩
      rw [h2, pk_sub (by omega)]
    rw [pi] at he hown ⊢
    split at he
    · cases he
    rename_i hc
    rw [if_neg hc] at hown ⊢
    split at he
    · rename_i h123
      rw [if_pos h123] at hown ⊢
      split at he
      · rename_i ho
        rw [if_pos ho] at hown ⊢
        have hu9 := pS_iff.mp h123
        have hend : (pi nT mk tv sl same f 1 dp 0 (s.1 + 1, s.2) (pBg T s.1 dp)).1.1.2 = false := by
          cases hq : (pi nT mk tv sl same f 1 dp 0 (s.1 + 1, s.2) (pBg T s.1 dp)).1.1.2 with
          | false => rfl
          | true =>
            have := (pN_ok (nT := nT) (mk := mk) (pi nT mk tv sl same f 1 dp 0 (s.1 + 1, s.2) (pBg T s.1 dp)).1.1 125).2.2 hq
            rw [this, hq] at he
            cases he
        have hin := pi_dn f 1 dp 0 (s.1 + 1, s.2) (pBg T s.1 dp) hu9.2.1 hu9.1 (fun h => absurd h (by decide)) hend
        have hf1 := pi_fr (nT := nT) (mk := mk) (tv := tv) (sl := sl) (same := same) f 1 dp 0 (s.1 + 1, s.2) (pBg T s.1 dp)
        intro k hk1 hk2
        by_cases hkT : k = T.1
        · subst hkT
          refine hown _ rfl ?_ ?_
          · show (pi nT mk tv sl same f 1 dp 0 (s.1 + 1, s.2) (pBg T s.1 dp)).1.2.2.1 T.1 = nI s.1
            rw [(hf1 T.1 (Nat.lt_succ_self _)).1]
            simp [pBg, upd]
          · simp [pLa, upd]
        · obtain ⟨a, z, h1, h2, h3, h4⟩ := hin k (show T.1 + 1 ≤ k by omega) hk2
          exact ⟨a, z, h1, h2, h3, by simp [pLa, pVa, upd, hkT, h4]⟩
      · rename_i ho
        rcases pOb_f (Bool.eq_false_iff.mpr ho) with h1 | h1
        · rw [h123] at h1; cases h1
        · unfold pOs at he
          rw [if_pos h123, if_pos h1] at he
          cases he
    · rename_i h123
      rw [if_neg h123] at hown ⊢
      intro k hk1 hk2
      have hkT : k = T.1 := by
        have : k < T.1 + 1 := hk2
        omega
      subst hkT
      refine hown _ rfl ?_ ?_
      · simp [pLa, pVa, pBg, upd]
      · simp [pLa, upd]
  | f + 1, tag + 1, dp, i, s, T, hs, hu, _, he => by
    rw [pi] at he ⊢
    · split at he
      · rename_i hc
        rw [if_pos hc]
        intro k h1 h2; exact absurd h1 (Nat.not_le_of_lt h2)
      · rename_i hc
        rw [if_neg hc]
        cases f with
        | zero =>
          rw [pi, pi]
          intro k h1 h2; exact absurd h1 (Nat.not_le_of_lt h2)
        | succ f =>
          have hok := pi_ok (nT := nT) (mk := mk) (tv := tv) (sl := sl) (same := same) (f + 1) 0 (dp + 1) 0 s T
          have hu1 : (pi nT mk tv sl same (f + 1) 0 (dp + 1) 0 s T).1.1.2 = false := by
            cases hq : (pi nT mk tv sl same (f + 1) 0 (dp + 1) 0 s T).1.1.2 with
            | false => rfl
            | true =>
              have := (pi_ok (nT := nT) (mk := mk) (tv := tv) (sl := sl) (same := same) (f + 1) 1 dp (i + 1) (pi nT mk tv sl same (f + 1) 0 (dp + 1) 0 s T).1.1 (pi nT mk tv sl same (f + 1) 0 (dp + 1) 0 s T).1.2).1.2.2 hq
              rw [this, hq] at he
              cases he
          have h1 := pi_dn (f + 1) 0 (dp + 1) 0 s T hs hu (fun _ => Nat.succ_pos _) hu1
          have h2 := pi_dn (f + 1) 1 dp (i + 1) _ _ (hok.1.2.1 hs) hu1 (fun h => absurd h (by decide)) he
          have h3 := pi_fr (nT := nT) (mk := mk) (tv := tv) (sl := sl) (same := same) (f + 1) 1 dp (i + 1) (pi nT mk tv sl same (f + 1) 0 (dp + 1) 0 s T).1.1 (pi nT mk tv sl same (f + 1) 0 (dp + 1) 0 s T).1.2
          intro k hk1 hk2
          by_cases hk : k < (pi nT mk tv sl same (f + 1) 0 (dp + 1) 0 s T).1.2.1
          · obtain ⟨a, z, g1, g2, g3, g4⟩ := h1 k hk1 hk
            exact ⟨a, z, g1, g2, (h3 k hk).1.trans g3, (h3 k hk).2.1.trans g4⟩
          · exact h2 k (by omega) hk2
    all_goals omega
theorem pA_dn : ∀ (f i : Nat) (s : pE) (T : pTr), s.1 ≤ nT → tDn nT 0 T → tOk nT T → (pA nT mk tv sl same f i s T).1.1 ≤ nT ∧ tDn nT 0 (pA nT mk tv sl same f i s T).2 ∧ tOk nT (pA nT mk tv sl same f i s T).2
  | 0, i, s, T, hs, h, ho => by rw [pA]; exact ⟨hs, h, ho⟩
  | f + 1, i, s, T, hs, h, ho => by
    rw [pA]
    split
    · exact ⟨hs, h, ho⟩
    · rename_i hc
      have hu : s.2 = false := by
        cases hq : s.2 with
        | false => rfl
        | true => exact absurd (Or.inr (Or.inr hq)) hc
      obtain ⟨h1, h2, h3⟩ := pi_ok (nT := nT) (mk := mk) (tv := tv) (sl := sl) (same := same) 330 0 0 0 s T
      have hfr := pi_fr (nT := nT) (mk := mk) (tv := tv) (sl := sl) (same := same) 330 0 0 0 s T
      refine pA_dn f (i + 1) _ _ (h1.2.1 hs) ?_ ?_
      · split
        · intro k hk1 hk2
          obtain ⟨a, z, g1, g2, g3, g4⟩ := h k hk1 hk2
          exact ⟨a, z, g1, g2, (hfr k hk2).1.trans g3, (hfr k hk2).2.1.trans g4⟩
        · rename_i hz
          have hd := pi_dn (nT := nT) (mk := mk) (tv := tv) (sl := sl) (same := same) 330 0 0 0 s T hs hu (fun _ => by decide) (Bool.eq_false_iff.mpr hz)
          intro k hk1 hk2
          by_cases hk : k < T.1
          · obtain ⟨a, z, g1, g2, g3, g4⟩ := h k hk1 hk
            exact ⟨a, z, g1, g2, (hfr k hk).1.trans g3, (hfr k hk).2.1.trans g4⟩
          · exact hd k (by omega) hk2
      · split
        · exact ⟨ho.1, fun k hk => (h2 ho).2 k (Nat.lt_of_lt_of_le hk h3)⟩
        · exact h2 ho
end
end
section
/- KeptItems: edit (rows laid by program) -/
theorem due_mono {e p g w : Nat} {ts : List (Nat × Nat × Nat)} (h : tsOk e ts) : ∀ i i', i < i' → i' < ts.length → ∀ x y, dueV p g w (tV ts i) = some x → dueV p g w (tV ts i') = some y → x < y := by
  intro i i' hii hi x y hx hy
  have h1 := tV_in h (show i < ts.length by omega)
  have h2 := tV_in h hi
  have h3 := tV_lt h hii hi
  have h4 := h.2.2.2 i i' _ _ hii (tk_at (by omega)) (tk_at hi)
  have h0 := h.1
  unfold dueV at hx hy
  split at hx
  · cases hx
    split at hy
    · cases hy; exact h3
    · split at hy
      · cases hy; omega
      · cases hy
  · split at hx
    · cases hx
      split at hy
      · cases hy; omega
      · split at hy
        · cases hy; omega
        · cases hy
    · cases hx
theorem oO_lt {p g w : Nat} {V0 V1 : Nat → Nat} {k : Nat} : ∀ (m i : Nat), oO p g w V0 V1 k m = some i → i < m
  | 0, i, h => by simp [oO] at h
  | m + 1, i, h => by
    unfold oO at h
    split at h
    · cases h; exact Nat.lt_succ_self _
    · exact Nat.lt_succ_of_lt (oO_lt m i h)
theorem tFi_in {fi la : Nat → Nat} {a z : Nat} : ∀ (f k : Nat), tFi fi la a z f k = -1 ∨ ∃ j, j < k + f ∧ tFi fi la a z f k = nI j
  | 0, k => Or.inl rfl
  | f + 1, k => by
    unfold tFi
    split
    · exact Or.inr ⟨k, by omega, rfl⟩
    · rcases tFi_in f (k + 1) with h | ⟨j, h1, h2⟩
      · exact Or.inl h
      · exact Or.inr ⟨j, by omega, h2⟩
theorem oItem_in {O : Nat → Option Nat} {fi0 la0 : Nat → Nat} {c0 a z : Nat} : oItem O fi0 la0 c0 a z = -1 ∨ ∃ j, j < c0 ∧ oItem O fi0 la0 c0 a z = nI j := by
  unfold oItem
  split
  · exact Or.inl rfl
  · split
    · rcases tFi_in (fi := fi0) (la := la0) (a := _) (z := _) c0 0 with h | ⟨j, h1, h2⟩
      · exact Or.inl h
      · exact Or.inr ⟨j, by omega, h2⟩
    · exact Or.inl rfl
/-- a reading's text, tokens and items, as an edit uses them -/
def Old (M : zM) (r e : Nat) (t : Nat → Nat) (ts : List (Nat × Nat × Nat)) (c0 : Nat) (fi0 la0 : Nat → Nat) : Prop := Txt M r t e ∧ Toks M r t ts ∧ tsOk e ts ∧ M.1 (r + 2) 5 = nI c0 ∧ c0 ≤ 160 ∧ ∀ k, k < c0 → M.1 (r + 6) k = nI (fi0 k) ∧ M.1 (r + 7) k = nI (la0 k) ∧ fi0 k < 2 ^ 31 ∧ la0 k < 2 ^ 31
def eA (t' : Nat → Nat) (ts' : List (Nat × Nat × Nat)) (T0 : pTr) : pE × pTr := pA ts'.length (tMk t' ts') (tTv t' ts') (tSl ts') (tSm t' ts') 160 0 (0, false) T0
def eO (p g w : Nat) (ts ts' : List (Nat × Nat × Nat)) (j : Nat) : Option Nat := oO p g w (tV ts) (tV ts') j ts.length
def eI (p g w : Nat) (ts ts' : List (Nat × Nat × Nat)) (c0 : Nat) (fi0 la0 : Nat → Nat) (T : pTr) (k : Nat) : Int32 := oItem (eO p g w ts ts') fi0 la0 c0 (T.2.1 k).toNatClampNeg (T.2.2.1 k).toNatClampNeg
/-- what an edit leaves: the reading n is the new one; b the old one; num0 the old numbers -/
def EdR (M M' : zM) (n b e' : Nat) (t' : Nat → Nat) (ts' : List (Nat × Nat × Nat)) (A : pE × pTr) (x : Nat × Nat × (Nat → Int32)) : Prop :=
  M'.2.1 = zP0 n b ∧ M'.2.2 = M.2.2 ∧ Txt M' n t' e' ∧ Toks M' n t' ts' ∧ M'.1 n 2 = nI A.1.1 ∧ M'.1 n 3 = nI A.1.2.toNat ∧ M'.1 (n + 2) 5 = nI A.2.1 ∧ (∀ k, M'.1 (n + 6) k = A.2.2.1 k ∧ M'.1 (n + 7) k = A.2.2.2.1 k ∧ M'.1 (n + 8) k = A.2.2.2.2.1 k ∧ M'.1 (n + 9) k = A.2.2.2.2.2 k ∧ M'.1 (n + 10) k = x.2.2 k) ∧ M'.1 0 5 = nI x.1 ∧ M'.1 0 6 = nI x.2.1 ∧ M'.1 0 1 = nI 0 ∧ ∀ o i, 25 ≤ o → M'.1 o i = M.1 o i
section
variable {Lx : Nat} {xs : Nat → Int32} {D0 : Nat} {M : zM} {n b : Nat}
set_option maxRecDepth 100000 in
set_option maxHeartbeats 4000000 in
theorem l_edit {w e p g gi c0 : Nat} {row t fi0 la0 : Nat → Nat} {ts : List (Nat × Nat × Nat)} (hP : M.2.1 = zP0 n b) (hnb : (n = 2 ∧ b = 13) ∨ (n = 13 ∧ b = 2)) (hw : M.1 0 1 = nI w) (hw40 : w ≤ 40) (hrow : ∀ i, i < w → M.1 1 i = nI (row i) ∧ row i < 128) (hOl : Old M b e t ts c0 fi0 la0) (hpg : p + g ≤ e) (hfit : e - g + w ≤ 160) (hgi : M.1 0 6 = nI gi) {R : Option Int32 → zM → Prop} (hR : ∀ (M' : zM) (T0 : pTr) (N0 : Nat → Int32), T0.1 = 0 → EdR M M' n b (e - g + w) (eT t row p g w) (lAll (eT t row p g w) (e - g + w)) (eA (eT t row p g w) (lAll (eT t row p g w) (e - g + w)) T0) (nGo (eI p g w ts (lAll (eT t row p g w) (e - g + w)) c0 fi0 la0 (eA (eT t row p g w) (lAll (eT t row p g w) (e - g + w)) T0).2) (M.1 (b + 10)) (eA (eT t row p g w) (lAll (eT t row p g w) (e - g + w)) T0).2.1 0 (0, gi, N0)) → M'.1 0 1 = nI 0 → R (some (nI (lAll (eT t row p g w) (e - g + w)).length - nI (oC p g w (tV ts) (tV (lAll (eT t row p g w) (e - g + w))) (lAll (eT t row p g w) (e - g + w)).length ts.length))) M') (L : Nat → Value) (hL0 : L 0 = .ref 0) (hL1 : L 1 = .int (nI p)) (hL2 : L 2 = .int (nI g)) (hL4 : L 4 = .ref b) : Ev Lx xs (D0 + 1152) mK_edit 81 L [] M (zpost mK_edit R) := by
  have hn : zR n := by unfold zR; omega
  have hb : zR b := by unfold zR; omega
  have he := hOl.1.2.1
  refine ev_al dK_edit_81 rfl (by first | assumption | rfl) ?_
  refine ev_getrP dK_edit_82 fK_16 rfl (zq (q := n) hP rfl) ?_
  refine ev_getrP dK_edit_85 fK_31 (sh_R hn) (zq hP (pt_source hn)) ?_
  refine ev_al dK_edit_88 rfl (by first | assumption | rfl) ?_
  refine ev_getrP dK_edit_90 fK_31 (sh_R hb) (zq hP (pt_source hb)) ?_
  refine ev_il dK_edit_93 rfl (by first | assumption | rfl) ?_
  refine ev_il dK_edit_94 rfl (by first | assumption | rfl) ?_
  refine ev_al dK_edit_95 rfl (by first | assumption | rfl) ?_
  refine ev_getrP dK_edit_96 fK_9 rfl (zq (q := 1) hP rfl) ?_
  refine ev_al dK_edit_99 rfl (by first | assumption | rfl) ?_
  refine ev_geti dK_edit_100 fK_27 rfl ?_
  rw [hw]
  refine ev_cV dK_edit_103 (c_fill hP hn hb (by omega) hOl.1 hrow hpg hw40 hfit) lK_46 (rec_S hn) rfl (Nat.le_of_ble_eq_true rfl) rfl (Nat.le_of_ble_eq_true rfl) (fun q M2 hq2 => ?_)
  obtain ⟨rfl, hs2, hT2⟩ := hq2
  have hP := hs2.P hP
  refine ev_al dK_edit_106 rfl (by first | assumption | rfl) ?_
  refine ev_getrP dK_edit_107 fK_16 rfl (zq (q := n) hP rfl) ?_
  refine ev_getrP dK_edit_110 fK_31 (sh_R hn) (zq hP (pt_source hn)) ?_
  refine ev_cV dK_edit_113 (c_findTokens hP hn hT2) lK_50 (rec_S hn) rfl (Nat.le_of_ble_eq_true rfl) rfl (Nat.le_of_ble_eq_true rfl) (fun q M3 hq3 => ?_)
  obtain ⟨rfl, hs3, hk3⟩ := hq3
  have hP := hs3.P hP
  have ho3 : tsOk (e - g + w) (lAll (eT t row p g w) (e - g + w)) := tsOk_all hfit
  have hT3 : Txt M3 n (eT t row p g w) (e - g + w) := ⟨(hs3.2 _ _ (by unfold sF; omega)).trans hT2.1, hT2.2.1, fun i hi => ⟨(hs3.2 _ _ (by unfold sF; omega)).trans (hT2.2.2 i hi).1, (hT2.2.2 i hi).2⟩⟩
  have hf3 : ∀ o i, ¬ (o = n + 1 ∨ o = n + 3 ∨ o = n + 4 ∨ o = n + 5) → M3.1 o i = M.1 o i := fun o i ho => (hs3.2 o i (by unfold sF; omega)).trans (hs2.2 o i (by unfold sT; omega))
  refine ev_al dK_edit_116 rfl (by first | assumption | rfl) ?_
  refine ev_getrP dK_edit_117 fK_16 rfl (zq (q := n) hP rfl) ?_
  refine ev_cV dK_edit_120 (c_readTokens (D0 := D0) (iOk_of hP hn hT3 hk3 ho3)) lK_53 (rec_R hn) rfl (Nat.le_of_ble_eq_true rfl) rfl (Nat.le_of_ble_eq_true rfl) (fun q M4 hq4 => ?_)
  obtain ⟨rfl, hM4⟩ := hq4
  have hM4 : M4 = (mE (mR M3 n (eA (eT t row p g w) (lAll (eT t row p g w) (e - g + w)) (tOf M3 n)).2) n (eA (eT t row p g w) (lAll (eT t row p g w) (e - g + w)) (tOf M3 n)).1) := hM4
  have hP : M4.2.1 = zP0 n b := by rw [hM4]; exact hP
  have hs4 : ∀ o i, ¬ (o = n ∨ o = n + 2 ∨ o = n + 6 ∨ o = n + 7 ∨ o = n + 8 ∨ o = n + 9) → M4.1 o i = M3.1 o i := fun o i ho => by rw [hM4, mE_o (by omega), mR_o (by omega)]
  have hf4 : ∀ o i, ¬ (n ≤ o ∧ o ≤ n + 9) → M4.1 o i = M.1 o i := fun o i ho => (hs4 o i (by omega)).trans (hf3 o i (by omega))
  have hV1 : Pkd M4 n (lAll (eT t row p g w) (e - g + w)).length (tV (lAll (eT t row p g w) (e - g + w))) := by
    have h := Pkd_of hk3 ho3
    exact ⟨(hs4 _ _ (by omega)).trans h.1, h.2.1, fun k hk => ⟨(hs4 _ _ (by omega)).trans (h.2.2.1 k hk).1, (h.2.2.1 k hk).2⟩, h.2.2.2⟩
  have hV0 : Pkd M4 b ts.length (tV ts) := by
    have h := Pkd_of hOl.2.1 hOl.2.2.1
    exact ⟨(hf4 _ _ (by omega)).trans h.1, h.2.1, fun k hk => ⟨(hf4 _ _ (by omega)).trans (h.2.2.1 k hk).1, (h.2.2.1 k hk).2⟩, h.2.2.2⟩
  have hw4 : M4.1 0 1 = nI w := (hf4 _ _ (by omega)).trans hw
  refine ev_al dK_edit_123 rfl (by first | assumption | rfl) ?_
  refine ev_il dK_edit_124 rfl (by first | assumption | rfl) ?_
  refine ev_il dK_edit_125 rfl (by first | assumption | rfl) ?_
  refine ev_cV dK_edit_126 (c_traceTokens hP hn hb (by omega) (by omega) hw40 (due_mono hOl.2.2.1) hV1 hV0 hw4) lK_56 rec_K rfl (Nat.le_of_ble_eq_true rfl) rfl (Nat.le_of_ble_eq_true rfl) (fun q M5 hq5 => ?_)
  obtain ⟨rfl, hs5, ho5⟩ := hq5
  have hP := hs5.P hP
  have hf5 : ∀ o i, ¬ o = 24 → ¬ (n ≤ o ∧ o ≤ n + 9) → M5.1 o i = M.1 o i := fun o i h1 h2 => (hs5.2 o i h1).trans (hf4 o i h2)
  have hAd := pA_dn (nT := (lAll (eT t row p g w) (e - g + w)).length) (mk := tMk (eT t row p g w) (lAll (eT t row p g w) (e - g + w))) (tv := tTv (eT t row p g w) (lAll (eT t row p g w) (e - g + w))) (sl := tSl (lAll (eT t row p g w) (e - g + w))) (same := tSm (eT t row p g w) (lAll (eT t row p g w) (e - g + w))) 160 0 (0, false) (tOf M3 n) (Nat.zero_le _) (fun k h1 h2 => absurd h2 (Nat.not_lt_zero k)) ⟨Nat.zero_le _, fun k h2 => absurd h2 (Nat.not_lt_zero k)⟩
  have hc5 : M5.1 (n + 2) 5 = nI (eA (eT t row p g w) (lAll (eT t row p g w) (e - g + w)) (tOf M3 n)).2.1 := by rw [hs5.2 _ _ (by omega), hM4, mE_o (by omega), mR_c]
  have hF5 : ∀ k, M5.1 (n + 6) k = (eA (eT t row p g w) (lAll (eT t row p g w) (e - g + w)) (tOf M3 n)).2.2.1 k := fun k => by rw [hs5.2 _ _ (by omega), hM4, mE_o (by omega), mR_F]
  have hL5 : ∀ k, M5.1 (n + 7) k = (eA (eT t row p g w) (lAll (eT t row p g w) (e - g + w)) (tOf M3 n)).2.2.2.1 k := fun k => by rw [hs5.2 _ _ (by omega), hM4, mE_o (by omega), mR_L]
  have hn160 : (lAll (eT t row p g w) (e - g + w)).length ≤ 160 := Nat.le_trans ho3.2.1 ho3.1
  have hoi : ∀ d x k, k < (eA (eT t row p g w) (lAll (eT t row p g w) (e - g + w)) (tOf M3 n)).2.1 → Pu Lx xs (d + 1) mK_oldItem [.ref 0, .int (nI k)] (mN M5 n x) (eI p g w ts (lAll (eT t row p g w) (e - g + w)) c0 fi0 la0 (eA (eT t row p g w) (lAll (eT t row p g w) (e - g + w)) (tOf M3 n)).2 k) := by
    intro d x k hk
    obtain ⟨a, z, h1, h2, h3, h4⟩ := hAd.2.1 k (Nat.zero_le k) hk
    have h3 : (eA (eT t row p g w) (lAll (eT t row p g w) (e - g + w)) (tOf M3 n)).2.2.1 k = nI a := h3
    have h4 : (eA (eT t row p g w) (lAll (eT t row p g w) (e - g + w)) (tOf M3 n)).2.2.2.1 k = nI z := h4
    have h2 : z < (lAll (eT t row p g w) (e - g + w)).length := h2
    unfold eI
    rw [h3, h4, nI_clamp (by omega), nI_clamp (by omega)]
    refine c_oldItem hP hn hb ⟨h1, by omega⟩ (fun j hj => ⟨(mN_o (by omega) (by omega)).trans (ho5 j (by omega)), fun i hi => ?_⟩) ((mN_o (by omega) (by omega)).trans ((hf5 _ _ (by omega) (by omega)).trans hOl.2.2.2.1)) hOl.2.2.2.2.1 (fun j hj => ?_) (by have := hAd.2.2.1; exact Nat.lt_of_lt_of_le hk this) ((mN_o (by omega) (by omega)).trans ((hF5 k).trans h3)) ((mN_o (by omega) (by omega)).trans ((hL5 k).trans h4))
    · have := oO_lt _ _ hi
      have := hOl.2.2.1.2.1
      have := hOl.2.2.1.1
      omega
    · obtain ⟨g1, g2, g3, g4⟩ := hOl.2.2.2.2.2 j hj
      exact ⟨(mN_o (by omega) (by omega)).trans ((hf5 _ _ (by omega) (by omega)).trans g1), (mN_o (by omega) (by omega)).trans ((hf5 _ _ (by omega) (by omega)).trans g2), g3, g4⟩
  have hoi2 : ∀ k, k < (eA (eT t row p g w) (lAll (eT t row p g w) (e - g + w)) (tOf M3 n)).2.1 → eI p g w ts (lAll (eT t row p g w) (e - g + w)) c0 fi0 la0 (eA (eT t row p g w) (lAll (eT t row p g w) (e - g + w)) (tOf M3 n)).2 k = -1 ∨ ∃ j, j < 160 ∧ eI p g w ts (lAll (eT t row p g w) (e - g + w)) c0 fi0 la0 (eA (eT t row p g w) (lAll (eT t row p g w) (e - g + w)) (tOf M3 n)).2 k = nI j := fun k _ => by
    rcases oItem_in (O := eO p g w ts (lAll (eT t row p g w) (e - g + w))) (fi0 := fi0) (la0 := la0) (c0 := c0) (a := ((eA (eT t row p g w) (lAll (eT t row p g w) (e - g + w)) (tOf M3 n)).2.2.1 k).toNatClampNeg) (z := ((eA (eT t row p g w) (lAll (eT t row p g w) (e - g + w)) (tOf M3 n)).2.2.2.1 k).toNatClampNeg) with h | ⟨j, h1, h2⟩
    · exact Or.inl h
    · exact Or.inr ⟨j, Nat.lt_of_lt_of_le h1 hOl.2.2.2.2.1, h2⟩
  have hgi5 : M5.1 0 6 = nI gi := (hf5 _ _ (by omega) (by omega)).trans hgi
  refine ev_is dK_edit_129 rfl (Nat.le_of_ble_eq_true rfl) ?_
  refine ev_al dK_edit_131 rfl (by first | assumption | rfl) ?_
  refine ev_cV dK_edit_132 (c_numberItems hP hn hb (by omega) hc5 hAd.2.2.1 hgi5 hoi hoi2) lK_60 rec_K rfl (Nat.le_of_ble_eq_true rfl) rfl (Nat.le_of_ble_eq_true rfl) (fun q M6 hq6 => ?_)
  obtain ⟨rfl, hM6⟩ := hq6
  have hP : M6.2.1 = zP0 n b := by rw [hM6]; exact hP
  refine ev_al dK_edit_135 rfl (by first | assumption | rfl) ?_
  refine ev_const (v := nI 0) dK_edit_136 (by decide) ?_
  refine ev_puti dK_edit_137 fK_27 fwK_rowSize rfl (vp_nar_int _) rfl ?_
  have hg7 : ∀ o i, ¬ (o = 0 ∨ o = 24 ∨ o = n + 10) → (zI M6 0 1 (nI 0)).1 o i = M4.1 o i := fun o i ho => by
    rw [zI_o (by omega), hM6, mN_o (by omega) (by omega)]; exact hs5.2 o i (by omega)
  have hnum : M5.1 (b + 10) = M.1 (b + 10) := funext fun i => hf5 _ _ (by omega) (by omega)
  refine ev_al dK_edit_140 rfl (by first | assumption | rfl) ?_
  refine ev_getrP dK_edit_141 fK_16 rfl (zq (q := n) hP rfl) ?_
  refine ev_getrP dK_edit_144 fK_31 (sh_R hn) (zq hP (pt_source hn)) ?_
  refine ev_geti dK_edit_147 fK_63 (sh_S hn) ?_
  rw [(hg7 _ _ (by omega)).trans hV1.1]
  refine ev_il dK_edit_150 rfl (by first | assumption | rfl) ?_
  refine ev_sub dK_edit_152 ?_
  refine ev_ret dK_edit_153 rfl rfl ?_
  refine hR _ (tOf M3 n) (M5.1 (n + 10)) rfl ⟨hP, ?_, ?_, ?_, ?_, ?_, ?_, ?_, ?_, ?_, ?_, ?_⟩ ?_
  · show M6.2.2 = M.2.2
    rw [hM6]
    show M5.2.2 = M.2.2
    rw [hs5.1, hM4]
    show M3.2.2 = M.2.2
    rw [hs3.1, hs2.1]
  · exact ⟨(hg7 _ _ (by omega)).trans ((hs4 _ _ (by omega)).trans hT3.1), hT3.2.1, fun i hi => ⟨(hg7 _ _ (by omega)).trans ((hs4 _ _ (by omega)).trans (hT3.2.2 i hi).1), (hT3.2.2 i hi).2⟩⟩
  · exact ⟨(hg7 _ _ (by omega)).trans ((hs4 _ _ (by omega)).trans hk3.1), fun k q hk => ⟨(hg7 _ _ (by omega)).trans ((hs4 _ _ (by omega)).trans (hk3.2 k q hk).1), (hg7 _ _ (by omega)).trans ((hs4 _ _ (by omega)).trans (hk3.2 k q hk).2)⟩⟩
  · rw [hg7 _ _ (by omega), hM4, mE_n]
  · rw [hg7 _ _ (by omega), hM4, mE_s]
  · rw [hg7 _ _ (by omega), hM4, mE_o (by omega), mR_c]
  · intro k
    refine ⟨?_, ?_, ?_, ?_, ?_⟩
    · rw [hg7 _ _ (by omega), hM4, mE_o (by omega), mR_F]
    · rw [hg7 _ _ (by omega), hM4, mE_o (by omega), mR_L]
    · rw [hg7 _ _ (by omega), hM4, mE_o (by omega), mR_V]
    · rw [hg7 _ _ (by omega), hM4, mE_o (by omega), mR_A]
    · rw [zI_o (by omega), hM6, mN_u, hnum]
  · rw [zI_k (by omega), hM6, mN_5, hnum]
  · rw [zI_k (by omega), hM6, mN_6, hnum]
  · exact zI_s _ _ _ _
  · intro o i ho
    exact (hg7 o i (by omega)).trans (hf4 o i (by omega))
  · exact rfl
theorem zP0_other {n b a i : Nat} (h2 : ¬ (a = 0 ∧ i = 2)) (h3 : ¬ (a = 0 ∧ i = 3)) : zP0 n b a i = zP0 b n a i := by
  unfold zP0
  split <;> first | rfl | (exfalso; omega)
set_option maxRecDepth 100000 in
set_option maxHeartbeats 4000000 in
theorem k_edit {w e p g gi c0 : Nat} {row t fi0 la0 : Nat → Nat} {ts : List (Nat × Nat × Nat)} (hP : M.2.1 = zP0 n b) (hnb : (n = 2 ∧ b = 13) ∨ (n = 13 ∧ b = 2)) (hw : M.1 0 1 = nI w) (hw40 : w ≤ 40) (hrow : ∀ i, i < w → M.1 1 i = nI (row i) ∧ row i < 128) (hOl : Old M n e t ts c0 fi0 la0) (hpg : p + g ≤ e) (hfit : e - g + w ≤ 160) (hgi : M.1 0 6 = nI gi) : Ct Lx xs (D0 + 1152) mK_edit [.ref 0, .int (nI p), .int (nI g)] M (fun q M' => q = some (nI (lAll (eT t row p g w) (e - g + w)).length - nI (oC p g w (tV ts) (tV (lAll (eT t row p g w) (e - g + w))) (lAll (eT t row p g w) (e - g + w)).length ts.length)) ∧ ∃ (T0 : pTr) (N0 : Nat → Int32), T0.1 = 0 ∧ EdR M M' b n (e - g + w) (eT t row p g w) (lAll (eT t row p g w) (e - g + w)) (eA (eT t row p g w) (lAll (eT t row p g w) (e - g + w)) T0) (nGo (eI p g w ts (lAll (eT t row p g w) (e - g + w)) c0 fi0 la0 (eA (eT t row p g w) (lAll (eT t row p g w) (e - g + w)) T0).2) (M.1 (n + 10)) (eA (eT t row p g w) (lAll (eT t row p g w) (e - g + w)) T0).2.1 0 (0, gi, N0))) := by
  have hn : zR n := by unfold zR; omega
  have hb : zR b := by unfold zR; omega
  have he := hOl.1.2.1
  unfold Ct
  refine ev_al dK_edit_0 rfl (by first | assumption | rfl) ?_
  refine ev_getrP dK_edit_1 fK_16 rfl (zq (q := n) hP rfl) ?_
  refine ev_getrP dK_edit_4 fK_31 (sh_R hn) (zq hP (pt_source hn)) ?_
  refine ev_geti dK_edit_7 fK_35 (sh_S hn) ?_
  rw [hOl.1.1]
  refine ev_is dK_edit_10 rfl (Nat.le_of_ble_eq_true rfl) ?_
  refine ev_il dK_edit_11 rfl (by first | assumption | rfl) ?_
  refine ev_if0 (tgt := 31) dK_edit_12 (by decide) (fun h12 => ?_) (fun h12 => ?_)
  · first | omega | (simp (disch := omega) only [zcond, nI_ltI, nI_leI, nI_eq] at h12; omega)
  · try simp (disch := omega) only [zcond, nI_ltI, nI_leI, nI_eq, zb0, Classical.not_not, Bool.not_eq_false, Bool.not_eq_true, Nat.not_lt, Nat.not_le] at h12
    refine ev_il dK_edit_15 rfl (by first | assumption | rfl) ?_
    refine ev_il dK_edit_16 rfl (by first | assumption | rfl) ?_
    refine ev_icmp (tgt := 31) dK_edit_17 (by decide) (fun h17 => ?_) (fun h17 => ?_)
    · first | omega | (simp (disch := omega) only [zcond, nI_ltI, nI_leI, nI_eq] at h17; omega)
    · try simp (disch := omega) only [zcond, nI_ltI, nI_leI, nI_eq, zb0, Classical.not_not, Bool.not_eq_false, Bool.not_eq_true, Nat.not_lt, Nat.not_le] at h17
      refine ev_il dK_edit_20 rfl (by first | assumption | rfl) ?_
      refine ev_if0 (tgt := 31) dK_edit_21 (by decide) (fun h21 => ?_) (fun h21 => ?_)
      · first | omega | (simp (disch := omega) only [zcond, nI_ltI, nI_leI, nI_eq] at h21; omega)
      · try simp (disch := omega) only [zcond, nI_ltI, nI_leI, nI_eq, zb0, Classical.not_not, Bool.not_eq_false, Bool.not_eq_true, Nat.not_lt, Nat.not_le] at h21
        refine ev_il dK_edit_24 rfl (by first | assumption | rfl) ?_
        refine ev_il dK_edit_25 rfl (by first | assumption | rfl) ?_
        refine ev_il dK_edit_26 rfl (by first | assumption | rfl) ?_
        first | with_reducible refine ev_subN dK_edit_27 (by omega) ?_ | refine ev_sub dK_edit_27 ?_
        refine ev_icmp (tgt := 39) dK_edit_28 (by decide) (fun h28 => ?_) (fun h28 => ?_)
        · try simp (disch := omega) only [zcond, nI_ltI, nI_leI, nI_eq, zb0, Classical.not_not, Bool.not_eq_false, Bool.not_eq_true, Nat.not_lt, Nat.not_le] at h28
          refine ev_il dK_edit_39 rfl (by first | assumption | rfl) ?_
          refine ev_il dK_edit_40 rfl (by first | assumption | rfl) ?_
          first | with_reducible refine ev_subN dK_edit_41 (by omega) ?_ | refine ev_sub dK_edit_41 ?_
          refine ev_al dK_edit_42 rfl (by first | assumption | rfl) ?_
          refine ev_geti dK_edit_43 fK_27 rfl ?_
          rw [hw]
          first | with_reducible refine ev_addN dK_edit_46 ?_ | refine ev_add dK_edit_46 ?_
          refine ev_const (v := nI 160) dK_edit_47 (by decide) ?_
          refine ev_icmp (tgt := 61) dK_edit_50 (by decide) (fun h50 => ?_) (fun h50 => ?_)
          · try simp (disch := omega) only [zcond, nI_ltI, nI_leI, nI_eq, zb0, Classical.not_not, Bool.not_eq_false, Bool.not_eq_true, Nat.not_lt, Nat.not_le] at h50
            refine ev_al dK_edit_61 rfl (by first | assumption | rfl) ?_
            refine ev_getrP dK_edit_62 fK_16 rfl (zq (q := n) hP rfl) ?_
            refine ev_as dK_edit_65 rfl (Nat.le_of_ble_eq_true rfl) ?_
            refine ev_al dK_edit_67 rfl (by first | assumption | rfl) ?_
            refine ev_al dK_edit_68 rfl (by first | assumption | rfl) ?_
            refine ev_getrP dK_edit_69 fK_20 rfl (zq (q := b) hP rfl) ?_
            refine ev_putr dK_edit_72 fK_16 fwK_now rfl ?_
            refine ev_al dK_edit_75 rfl (by first | assumption | rfl) ?_
            refine ev_al dK_edit_76 rfl (by first | assumption | rfl) ?_
            refine ev_putr dK_edit_78 fK_20 fwK_before rfl ?_
            refine l_edit (M := zP (zP M 0 2 b) 0 3 n) (n := b) (b := n) ?_ (by omega) hw hw40 hrow hOl hpg hfit hgi ?_ _ ?_ ?_ ?_ ?_
            · funext a i
              show (if a = 0 ∧ i = 3 then n else if a = 0 ∧ i = 2 then b else M.2.1 a i) = zP0 b n a i
              rw [hP]
              by_cases h3 : a = 0 ∧ i = 3
              · obtain ⟨rfl, rfl⟩ := h3; rfl
              · rw [if_neg h3]
                by_cases h2 : a = 0 ∧ i = 2
                · obtain ⟨rfl, rfl⟩ := h2; rfl
                · rw [if_neg h2]
                  exact zP0_other h2 h3
            · intro M' T0 N0 h0 hE h1
              exact ⟨rfl, T0, N0, h0, hE⟩
            all_goals rfl
          · first | omega | (simp (disch := omega) only [zcond, nI_ltI, nI_leI, nI_eq] at h50; omega)
        · first | omega | (simp (disch := omega) only [zcond, nI_ltI, nI_leI, nI_eq] at h28; omega)
set_option maxRecDepth 100000 in
set_option maxHeartbeats 4000000 in
theorem k_edit_iob {e : Nat} {x y : Int32} (hP : M.2.1 = zP0 n b) (hn : zR n) (he : M.1 (n + 1) 1 = nI e) (h : x < nI 0 ∨ nI e < x ∨ y < nI 0 ∨ nI e - x < y) : Ev Lx xs D0 mK_edit 0 (zarg [.ref 0, .int x, .int y]) [] M (fun pc' _ st' M' => pc' = 31 ∧ st' = [] ∧ M' = M) := by
  refine ev_al dK_edit_0 rfl (by first | assumption | rfl) ?_
  refine ev_getrP dK_edit_1 fK_16 rfl (zq (q := n) hP rfl) ?_
  refine ev_getrP dK_edit_4 fK_31 (sh_R hn) (zq hP (pt_source hn)) ?_
  refine ev_geti dK_edit_7 fK_35 (sh_S hn) ?_
  rw [he]
  refine ev_is dK_edit_10 rfl (Nat.le_of_ble_eq_true rfl) ?_
  refine ev_il dK_edit_11 rfl (by first | assumption | rfl) ?_
  refine ev_if0 (tgt := 31) dK_edit_12 (by decide) (fun h12 => ?_) (fun h12 => ?_)
  · exact ev_done ⟨rfl, rfl, rfl⟩
  · refine ev_il dK_edit_15 rfl (by first | assumption | rfl) ?_
    refine ev_il dK_edit_16 rfl (by first | assumption | rfl) ?_
    refine ev_icmp (tgt := 31) dK_edit_17 (by decide) (fun h17 => ?_) (fun h17 => ?_)
    · exact ev_done ⟨rfl, rfl, rfl⟩
    · refine ev_il dK_edit_20 rfl (by first | assumption | rfl) ?_
      refine ev_if0 (tgt := 31) dK_edit_21 (by decide) (fun h21 => ?_) (fun h21 => ?_)
      · exact ev_done ⟨rfl, rfl, rfl⟩
      · refine ev_il dK_edit_24 rfl (by first | assumption | rfl) ?_
        refine ev_il dK_edit_25 rfl (by first | assumption | rfl) ?_
        refine ev_il dK_edit_26 rfl (by first | assumption | rfl) ?_
        refine ev_sub dK_edit_27 ?_
        refine ev_icmp (tgt := 39) dK_edit_28 (by decide) (fun h28 => ?_) (fun h28 => ?_)
        · exact (h.elim h12 (fun h => h.elim h17 (fun h => h.elim h21 (fun h => Int32.not_lt.mpr h28 h)))).elim
        · exact ev_done ⟨rfl, rfl, rfl⟩
set_option maxRecDepth 100000 in
set_option maxHeartbeats 4000000 in
theorem k_edit_ise {e p g w : Nat} (hP : M.2.1 = zP0 n b) (hn : zR n) (he : M.1 (n + 1) 1 = nI e) (he2 : e ≤ 160) (hw : M.1 0 1 = nI w) (hw40 : w ≤ 40) (hpg : p + g ≤ e) (hbig : 160 < e - g + w) : Ev Lx xs D0 mK_edit 0 (zarg [.ref 0, .int (nI p), .int (nI g)]) [] M (fun pc' _ st' M' => pc' = 53 ∧ st' = [] ∧ M' = M) := by
  refine ev_al dK_edit_0 rfl (by first | assumption | rfl) ?_
  refine ev_getrP dK_edit_1 fK_16 rfl (zq (q := n) hP rfl) ?_
  refine ev_getrP dK_edit_4 fK_31 (sh_R hn) (zq hP (pt_source hn)) ?_
  refine ev_geti dK_edit_7 fK_35 (sh_S hn) ?_
  rw [he]
  refine ev_is dK_edit_10 rfl (Nat.le_of_ble_eq_true rfl) ?_
  refine ev_il dK_edit_11 rfl (by first | assumption | rfl) ?_
  refine ev_if0 (tgt := 31) dK_edit_12 (by decide) (fun h12 => ?_) (fun h12 => ?_)
  · first | omega | (simp (disch := omega) only [zcond, nI_ltI, nI_leI, nI_eq] at h12; omega)
  · try simp (disch := omega) only [zcond, nI_ltI, nI_leI, nI_eq, zb0, Classical.not_not, Bool.not_eq_false, Bool.not_eq_true, Nat.not_lt, Nat.not_le] at h12
    refine ev_il dK_edit_15 rfl (by first | assumption | rfl) ?_
    refine ev_il dK_edit_16 rfl (by first | assumption | rfl) ?_
    refine ev_icmp (tgt := 31) dK_edit_17 (by decide) (fun h17 => ?_) (fun h17 => ?_)
    · first | omega | (simp (disch := omega) only [zcond, nI_ltI, nI_leI, nI_eq] at h17; omega)
    · try simp (disch := omega) only [zcond, nI_ltI, nI_leI, nI_eq, zb0, Classical.not_not, Bool.not_eq_false, Bool.not_eq_true, Nat.not_lt, Nat.not_le] at h17
      refine ev_il dK_edit_20 rfl (by first | assumption | rfl) ?_
      refine ev_if0 (tgt := 31) dK_edit_21 (by decide) (fun h21 => ?_) (fun h21 => ?_)
      · first | omega | (simp (disch := omega) only [zcond, nI_ltI, nI_leI, nI_eq] at h21; omega)
      · try simp (disch := omega) only [zcond, nI_ltI, nI_leI, nI_eq, zb0, Classical.not_not, Bool.not_eq_false, Bool.not_eq_true, Nat.not_lt, Nat.not_le] at h21
        refine ev_il dK_edit_24 rfl (by first | assumption | rfl) ?_
        refine ev_il dK_edit_25 rfl (by first | assumption | rfl) ?_
        refine ev_il dK_edit_26 rfl (by first | assumption | rfl) ?_
        first | with_reducible refine ev_subN dK_edit_27 (by omega) ?_ | refine ev_sub dK_edit_27 ?_
        refine ev_icmp (tgt := 39) dK_edit_28 (by decide) (fun h28 => ?_) (fun h28 => ?_)
        · try simp (disch := omega) only [zcond, nI_ltI, nI_leI, nI_eq, zb0, Classical.not_not, Bool.not_eq_false, Bool.not_eq_true, Nat.not_lt, Nat.not_le] at h28
          refine ev_il dK_edit_39 rfl (by first | assumption | rfl) ?_
          refine ev_il dK_edit_40 rfl (by first | assumption | rfl) ?_
          first | with_reducible refine ev_subN dK_edit_41 (by omega) ?_ | refine ev_sub dK_edit_41 ?_
          refine ev_al dK_edit_42 rfl (by first | assumption | rfl) ?_
          refine ev_geti dK_edit_43 fK_27 rfl ?_
          rw [hw]
          first | with_reducible refine ev_addN dK_edit_46 ?_ | refine ev_add dK_edit_46 ?_
          refine ev_const (v := nI 160) dK_edit_47 (by decide) ?_
          refine ev_icmp (tgt := 61) dK_edit_50 (by decide) (fun h50 => ?_) (fun h50 => ?_)
          · first | omega | (simp (disch := omega) only [zcond, nI_ltI, nI_leI, nI_eq] at h50; omega)
          · try simp (disch := omega) only [zcond, nI_ltI, nI_leI, nI_eq, zb0, Classical.not_not, Bool.not_eq_false, Bool.not_eq_true, Nat.not_lt, Nat.not_le] at h50
            exact ev_done ⟨rfl, rfl, rfl⟩
        · first | omega | (simp (disch := omega) only [zcond, nI_ltI, nI_leI, nI_eq] at h28; omega)
end
end
