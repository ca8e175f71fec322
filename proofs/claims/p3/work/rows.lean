section
-- ===== PART A: goes FIRST, ahead of the names: the tables' words, and 'selects' of the private methods out of them =====
/-- a private method of a class that the tables say can be made, by its rows of tables_1 -/
def lw_okq (q : MethodName × Nat) : Prop := (q.1.cls ≠ "java/lang/invoke/MethodHandle" ∧ q.1.cls ≠ "java/lang/invoke/VarHandle") ∧ Cond.instantiable q.1.cls q.2 ∈ tables_1 ∧ Cond.privateMethod q.1 ∈ tables_1 ∧ Cond.instanceMethod q.1 ∈ tables_1
theorem lw_p0 : lw_okq (⟨"ProsePages", "nodeAt", "(I)LProsePages$Node;"⟩, 8) := ⟨⟨by decide +kernel, by decide +kernel⟩, List.mem_of_getElem? (i := 16) (by decide +kernel), List.mem_of_getElem? (i := 251) (by decide +kernel), List.mem_of_getElem? (i := 252) (by decide +kernel)⟩
theorem lw_p1 : lw_okq (⟨"ProsePages", "isNodeRefused", "()Z"⟩, 8) := ⟨⟨by decide +kernel, by decide +kernel⟩, List.mem_of_getElem? (i := 16) (by decide +kernel), List.mem_of_getElem? (i := 272) (by decide +kernel), List.mem_of_getElem? (i := 273) (by decide +kernel)⟩
theorem lw_p2 : lw_okq (⟨"java/lang/Throwable", "fillInStackTrace", "(I)Ljava/lang/Throwable;"⟩, 6) := ⟨⟨by decide +kernel, by decide +kernel⟩, List.mem_of_getElem? (i := 313) (by decide +kernel), List.mem_of_getElem? (i := 311) (by decide +kernel), List.mem_of_getElem? (i := 312) (by decide +kernel)⟩
theorem lw_p3 : lw_okq (⟨"ProsePages", "addNode", "(II)LProsePages$Node;"⟩, 8) := ⟨⟨by decide +kernel, by decide +kernel⟩, List.mem_of_getElem? (i := 16) (by decide +kernel), List.mem_of_getElem? (i := 371) (by decide +kernel), List.mem_of_getElem? (i := 372) (by decide +kernel)⟩
theorem lw_p4 : lw_okq (⟨"ProsePages", "addCharacters", "(IIIII)V"⟩, 8) := ⟨⟨by decide +kernel, by decide +kernel⟩, List.mem_of_getElem? (i := 16) (by decide +kernel), List.mem_of_getElem? (i := 414) (by decide +kernel), List.mem_of_getElem? (i := 415) (by decide +kernel)⟩
theorem lw_p5 : lw_okq (⟨"ProsePages$Setter", "holdsParagraph", "(LProsePages$Node;)Z"⟩, 6) := ⟨⟨by decide +kernel, by decide +kernel⟩, List.mem_of_getElem? (i := 26) (by decide +kernel), List.mem_of_getElem? (i := 436) (by decide +kernel), List.mem_of_getElem? (i := 437) (by decide +kernel)⟩
theorem lw_p6 : lw_okq (⟨"ProsePages$Setter", "hasWords", "(II)Z"⟩, 6) := ⟨⟨by decide +kernel, by decide +kernel⟩, List.mem_of_getElem? (i := 26) (by decide +kernel), List.mem_of_getElem? (i := 440) (by decide +kernel), List.mem_of_getElem? (i := 441) (by decide +kernel)⟩
theorem lw_p7 : lw_okq (⟨"ProsePages$Setter", "hasLines", "(LProsePages$Node;LProsePages$Node;)Z"⟩, 6) := ⟨⟨by decide +kernel, by decide +kernel⟩, List.mem_of_getElem? (i := 26) (by decide +kernel), List.mem_of_getElem? (i := 456) (by decide +kernel), List.mem_of_getElem? (i := 457) (by decide +kernel)⟩
theorem lw_p8 : lw_okq (⟨"ProsePages$Setter", "holdsLines", "(LProsePages$Node;)Z"⟩, 6) := ⟨⟨by decide +kernel, by decide +kernel⟩, List.mem_of_getElem? (i := 26) (by decide +kernel), List.mem_of_getElem? (i := 460) (by decide +kernel), List.mem_of_getElem? (i := 461) (by decide +kernel)⟩
theorem lw_p9 : lw_okq (⟨"ProsePages$Setter", "putBetween", "()V"⟩, 6) := ⟨⟨by decide +kernel, by decide +kernel⟩, List.mem_of_getElem? (i := 26) (by decide +kernel), List.mem_of_getElem? (i := 464) (by decide +kernel), List.mem_of_getElem? (i := 465) (by decide +kernel)⟩
theorem lw_p10 : lw_okq (⟨"ProsePages$Setter", "layPart", "(LProsePages$Node;LProsePages$Node;I)V"⟩, 6) := ⟨⟨by decide +kernel, by decide +kernel⟩, List.mem_of_getElem? (i := 26) (by decide +kernel), List.mem_of_getElem? (i := 478) (by decide +kernel), List.mem_of_getElem? (i := 479) (by decide +kernel)⟩
theorem lw_p11 : lw_okq (⟨"ProsePages$Setter", "addHeadingSign", "(II)V"⟩, 6) := ⟨⟨by decide +kernel, by decide +kernel⟩, List.mem_of_getElem? (i := 26) (by decide +kernel), List.mem_of_getElem? (i := 482) (by decide +kernel), List.mem_of_getElem? (i := 483) (by decide +kernel)⟩
theorem lw_p12 : lw_okq (⟨"ProsePages$Setter", "addLetter", "(II)V"⟩, 6) := ⟨⟨by decide +kernel, by decide +kernel⟩, List.mem_of_getElem? (i := 26) (by decide +kernel), List.mem_of_getElem? (i := 486) (by decide +kernel), List.mem_of_getElem? (i := 487) (by decide +kernel)⟩
theorem lw_p13 : lw_okq (⟨"ProsePages$Setter", "putLine", "()V"⟩, 6) := ⟨⟨by decide +kernel, by decide +kernel⟩, List.mem_of_getElem? (i := 26) (by decide +kernel), List.mem_of_getElem? (i := 491) (by decide +kernel), List.mem_of_getElem? (i := 492) (by decide +kernel)⟩
theorem lw_p14 : lw_okq (⟨"ProsePages$Setter", "endWord", "(I)V"⟩, 6) := ⟨⟨by decide +kernel, by decide +kernel⟩, List.mem_of_getElem? (i := 26) (by decide +kernel), List.mem_of_getElem? (i := 502) (by decide +kernel), List.mem_of_getElem? (i := 503) (by decide +kernel)⟩
theorem lw_p15 : lw_okq (⟨"ProsePages$Setter", "layWords", "(III)V"⟩, 6) := ⟨⟨by decide +kernel, by decide +kernel⟩, List.mem_of_getElem? (i := 26) (by decide +kernel), List.mem_of_getElem? (i := 506) (by decide +kernel), List.mem_of_getElem? (i := 507) (by decide +kernel)⟩
def lw_privs_1 : List (MethodName × Nat) := [(⟨"ProsePages", "nodeAt", "(I)LProsePages$Node;"⟩, 8), (⟨"ProsePages", "isNodeRefused", "()Z"⟩, 8), (⟨"java/lang/Throwable", "fillInStackTrace", "(I)Ljava/lang/Throwable;"⟩, 6), (⟨"ProsePages", "addNode", "(II)LProsePages$Node;"⟩, 8), (⟨"ProsePages", "addCharacters", "(IIIII)V"⟩, 8), (⟨"ProsePages$Setter", "holdsParagraph", "(LProsePages$Node;)Z"⟩, 6), (⟨"ProsePages$Setter", "hasWords", "(II)Z"⟩, 6), (⟨"ProsePages$Setter", "hasLines", "(LProsePages$Node;LProsePages$Node;)Z"⟩, 6), (⟨"ProsePages$Setter", "holdsLines", "(LProsePages$Node;)Z"⟩, 6), (⟨"ProsePages$Setter", "putBetween", "()V"⟩, 6), (⟨"ProsePages$Setter", "layPart", "(LProsePages$Node;LProsePages$Node;I)V"⟩, 6), (⟨"ProsePages$Setter", "addHeadingSign", "(II)V"⟩, 6), (⟨"ProsePages$Setter", "addLetter", "(II)V"⟩, 6), (⟨"ProsePages$Setter", "putLine", "()V"⟩, 6), (⟨"ProsePages$Setter", "endWord", "(I)V"⟩, 6), (⟨"ProsePages$Setter", "layWords", "(III)V"⟩, 6)]
theorem lw_r1 : ∀ q ∈ lw_privs_1, lw_okq q := List.forall_mem_cons.mpr ⟨lw_p0, List.forall_mem_cons.mpr ⟨lw_p1, List.forall_mem_cons.mpr ⟨lw_p2, List.forall_mem_cons.mpr ⟨lw_p3, List.forall_mem_cons.mpr ⟨lw_p4, List.forall_mem_cons.mpr ⟨lw_p5, List.forall_mem_cons.mpr ⟨lw_p6, List.forall_mem_cons.mpr ⟨lw_p7, List.forall_mem_cons.mpr ⟨lw_p8, List.forall_mem_cons.mpr ⟨lw_p9, List.forall_mem_cons.mpr ⟨lw_p10, List.forall_mem_cons.mpr ⟨lw_p11, List.forall_mem_cons.mpr ⟨lw_p12, List.forall_mem_cons.mpr ⟨lw_p13, List.forall_mem_cons.mpr ⟨lw_p14, List.forall_mem_cons.mpr ⟨lw_p15, fun _ h => absurd h List.not_mem_nil⟩⟩⟩⟩⟩⟩⟩⟩⟩⟩⟩⟩⟩⟩⟩⟩
theorem lw_p16 : lw_okq (⟨"ProsePages$Setter", "layRule", "(I)V"⟩, 6) := ⟨⟨by decide +kernel, by decide +kernel⟩, List.mem_of_getElem? (i := 26) (by decide +kernel), List.mem_of_getElem? (i := 510) (by decide +kernel), List.mem_of_getElem? (i := 511) (by decide +kernel)⟩
theorem lw_p17 : lw_okq (⟨"ProsePages$Setter", "layCode", "(LProsePages$Node;I)V"⟩, 6) := ⟨⟨by decide +kernel, by decide +kernel⟩, List.mem_of_getElem? (i := 26) (by decide +kernel), List.mem_of_getElem? (i := 514) (by decide +kernel), List.mem_of_getElem? (i := 515) (by decide +kernel)⟩
theorem lw_p18 : lw_okq (⟨"ProsePages$Setter", "layQuote", "(LProsePages$Node;I)V"⟩, 6) := ⟨⟨by decide +kernel, by decide +kernel⟩, List.mem_of_getElem? (i := 26) (by decide +kernel), List.mem_of_getElem? (i := 518) (by decide +kernel), List.mem_of_getElem? (i := 519) (by decide +kernel)⟩
theorem lw_p19 : lw_okq (⟨"ProsePages$Setter", "addAhead", "(II)V"⟩, 6) := ⟨⟨by decide +kernel, by decide +kernel⟩, List.mem_of_getElem? (i := 26) (by decide +kernel), List.mem_of_getElem? (i := 522) (by decide +kernel), List.mem_of_getElem? (i := 523) (by decide +kernel)⟩
theorem lw_p20 : lw_okq (⟨"ProsePages$Setter", "cutAhead", "(I)V"⟩, 6) := ⟨⟨by decide +kernel, by decide +kernel⟩, List.mem_of_getElem? (i := 26) (by decide +kernel), List.mem_of_getElem? (i := 533) (by decide +kernel), List.mem_of_getElem? (i := 534) (by decide +kernel)⟩
theorem lw_p21 : lw_okq (⟨"ProsePages$Setter", "layItems", "(LProsePages$Node;I)V"⟩, 6) := ⟨⟨by decide +kernel, by decide +kernel⟩, List.mem_of_getElem? (i := 26) (by decide +kernel), List.mem_of_getElem? (i := 537) (by decide +kernel), List.mem_of_getElem? (i := 538) (by decide +kernel)⟩
theorem lw_p22 : lw_okq (⟨"ProsePages$Setter", "addSign", "(II)V"⟩, 6) := ⟨⟨by decide +kernel, by decide +kernel⟩, List.mem_of_getElem? (i := 26) (by decide +kernel), List.mem_of_getElem? (i := 541) (by decide +kernel), List.mem_of_getElem? (i := 542) (by decide +kernel)⟩
theorem lw_p23 : lw_okq (⟨"ProsePages$Setter", "addDigits", "(I)V"⟩, 6) := ⟨⟨by decide +kernel, by decide +kernel⟩, List.mem_of_getElem? (i := 26) (by decide +kernel), List.mem_of_getElem? (i := 545) (by decide +kernel), List.mem_of_getElem? (i := 546) (by decide +kernel)⟩
theorem lw_p24 : lw_okq (⟨"ProsePages$Sheet", "isPageEndedBy", "(II)Z"⟩, 11) := ⟨⟨by decide +kernel, by decide +kernel⟩, List.mem_of_getElem? (i := 46) (by decide +kernel), List.mem_of_getElem? (i := 556) (by decide +kernel), List.mem_of_getElem? (i := 557) (by decide +kernel)⟩
theorem lw_p25 : lw_okq (⟨"ProsePages", "placeNodes", "()V"⟩, 8) := ⟨⟨by decide +kernel, by decide +kernel⟩, List.mem_of_getElem? (i := 16) (by decide +kernel), List.mem_of_getElem? (i := 562) (by decide +kernel), List.mem_of_getElem? (i := 563) (by decide +kernel)⟩
theorem lw_p26 : lw_okq (⟨"ProsePages", "pageOfNode", "(LProsePages$Node;)I"⟩, 8) := ⟨⟨by decide +kernel, by decide +kernel⟩, List.mem_of_getElem? (i := 16) (by decide +kernel), List.mem_of_getElem? (i := 566) (by decide +kernel), List.mem_of_getElem? (i := 567) (by decide +kernel)⟩
theorem lw_p27 : lw_okq (⟨"ProsePagesModel", "empty", "()V"⟩, 45) := ⟨⟨by decide +kernel, by decide +kernel⟩, List.mem_of_getElem? (i := 575) (by decide +kernel), List.mem_of_getElem? (i := 582) (by decide +kernel), List.mem_of_getElem? (i := 583) (by decide +kernel)⟩
theorem lw_p28 : lw_okq (⟨"ProsePagesModel", "isFull", "()Z"⟩, 45) := ⟨⟨by decide +kernel, by decide +kernel⟩, List.mem_of_getElem? (i := 575) (by decide +kernel), List.mem_of_getElem? (i := 737) (by decide +kernel), List.mem_of_getElem? (i := 738) (by decide +kernel)⟩
theorem lw_p29 : lw_okq (⟨"ProsePagesModel", "add", "(II)I"⟩, 45) := ⟨⟨by decide +kernel, by decide +kernel⟩, List.mem_of_getElem? (i := 575) (by decide +kernel), List.mem_of_getElem? (i := 741) (by decide +kernel), List.mem_of_getElem? (i := 742) (by decide +kernel)⟩
theorem lw_p30 : lw_okq (⟨"ProsePagesModel", "layOut", "()V"⟩, 45) := ⟨⟨by decide +kernel, by decide +kernel⟩, List.mem_of_getElem? (i := 575) (by decide +kernel), List.mem_of_getElem? (i := 761) (by decide +kernel), List.mem_of_getElem? (i := 762) (by decide +kernel)⟩
theorem lw_p31 : lw_okq (⟨"ProsePagesModel", "endNode", "(I)V"⟩, 45) := ⟨⟨by decide +kernel, by decide +kernel⟩, List.mem_of_getElem? (i := 575) (by decide +kernel), List.mem_of_getElem? (i := 765) (by decide +kernel), List.mem_of_getElem? (i := 766) (by decide +kernel)⟩
def lw_privs_2 : List (MethodName × Nat) := [(⟨"ProsePages$Setter", "layRule", "(I)V"⟩, 6), (⟨"ProsePages$Setter", "layCode", "(LProsePages$Node;I)V"⟩, 6), (⟨"ProsePages$Setter", "layQuote", "(LProsePages$Node;I)V"⟩, 6), (⟨"ProsePages$Setter", "addAhead", "(II)V"⟩, 6), (⟨"ProsePages$Setter", "cutAhead", "(I)V"⟩, 6), (⟨"ProsePages$Setter", "layItems", "(LProsePages$Node;I)V"⟩, 6), (⟨"ProsePages$Setter", "addSign", "(II)V"⟩, 6), (⟨"ProsePages$Setter", "addDigits", "(I)V"⟩, 6), (⟨"ProsePages$Sheet", "isPageEndedBy", "(II)Z"⟩, 11), (⟨"ProsePages", "placeNodes", "()V"⟩, 8), (⟨"ProsePages", "pageOfNode", "(LProsePages$Node;)I"⟩, 8), (⟨"ProsePagesModel", "empty", "()V"⟩, 45), (⟨"ProsePagesModel", "isFull", "()Z"⟩, 45), (⟨"ProsePagesModel", "add", "(II)I"⟩, 45), (⟨"ProsePagesModel", "layOut", "()V"⟩, 45), (⟨"ProsePagesModel", "endNode", "(I)V"⟩, 45)]
theorem lw_r2 : ∀ q ∈ lw_privs_2, lw_okq q := List.forall_mem_cons.mpr ⟨lw_p16, List.forall_mem_cons.mpr ⟨lw_p17, List.forall_mem_cons.mpr ⟨lw_p18, List.forall_mem_cons.mpr ⟨lw_p19, List.forall_mem_cons.mpr ⟨lw_p20, List.forall_mem_cons.mpr ⟨lw_p21, List.forall_mem_cons.mpr ⟨lw_p22, List.forall_mem_cons.mpr ⟨lw_p23, List.forall_mem_cons.mpr ⟨lw_p24, List.forall_mem_cons.mpr ⟨lw_p25, List.forall_mem_cons.mpr ⟨lw_p26, List.forall_mem_cons.mpr ⟨lw_p27, List.forall_mem_cons.mpr ⟨lw_p28, List.forall_mem_cons.mpr ⟨lw_p29, List.forall_mem_cons.mpr ⟨lw_p30, List.forall_mem_cons.mpr ⟨lw_p31, fun _ h => absurd h List.not_mem_nil⟩⟩⟩⟩⟩⟩⟩⟩⟩⟩⟩⟩⟩⟩⟩⟩
theorem lw_p32 : lw_okq (⟨"ProsePagesModel", "endLeaf", "()V"⟩, 45) := ⟨⟨by decide +kernel, by decide +kernel⟩, List.mem_of_getElem? (i := 575) (by decide +kernel), List.mem_of_getElem? (i := 769) (by decide +kernel), List.mem_of_getElem? (i := 770) (by decide +kernel)⟩
theorem lw_p33 : lw_okq (⟨"ProsePagesModel", "endWord", "()V"⟩, 45) := ⟨⟨by decide +kernel, by decide +kernel⟩, List.mem_of_getElem? (i := 575) (by decide +kernel), List.mem_of_getElem? (i := 773) (by decide +kernel), List.mem_of_getElem? (i := 774) (by decide +kernel)⟩
theorem lw_p34 : lw_okq (⟨"ProsePagesModel", "giveNow", "()V"⟩, 45) := ⟨⟨by decide +kernel, by decide +kernel⟩, List.mem_of_getElem? (i := 575) (by decide +kernel), List.mem_of_getElem? (i := 777) (by decide +kernel), List.mem_of_getElem? (i := 778) (by decide +kernel)⟩
theorem lw_p35 : lw_okq (⟨"ProsePagesModel", "giveLine", "([III)V"⟩, 45) := ⟨⟨by decide +kernel, by decide +kernel⟩, List.mem_of_getElem? (i := 575) (by decide +kernel), List.mem_of_getElem? (i := 781) (by decide +kernel), List.mem_of_getElem? (i := 782) (by decide +kernel)⟩
theorem lw_p36 : lw_okq (⟨"ProsePagesModel", "showHolders", "(I)V"⟩, 45) := ⟨⟨by decide +kernel, by decide +kernel⟩, List.mem_of_getElem? (i := 575) (by decide +kernel), List.mem_of_getElem? (i := 785) (by decide +kernel), List.mem_of_getElem? (i := 786) (by decide +kernel)⟩
theorem lw_p37 : lw_okq (⟨"ProsePagesModel", "show", "(I)V"⟩, 45) := ⟨⟨by decide +kernel, by decide +kernel⟩, List.mem_of_getElem? (i := 575) (by decide +kernel), List.mem_of_getElem? (i := 789) (by decide +kernel), List.mem_of_getElem? (i := 790) (by decide +kernel)⟩
theorem lw_p38 : lw_okq (⟨"ProsePagesModel", "showNumber", "(I)V"⟩, 45) := ⟨⟨by decide +kernel, by decide +kernel⟩, List.mem_of_getElem? (i := 575) (by decide +kernel), List.mem_of_getElem? (i := 793) (by decide +kernel), List.mem_of_getElem? (i := 794) (by decide +kernel)⟩
theorem lw_p39 : lw_okq (⟨"ProsePagesModel", "endLine", "(Z)V"⟩, 45) := ⟨⟨by decide +kernel, by decide +kernel⟩, List.mem_of_getElem? (i := 575) (by decide +kernel), List.mem_of_getElem? (i := 800) (by decide +kernel), List.mem_of_getElem? (i := 801) (by decide +kernel)⟩
theorem lw_p40 : lw_okq (⟨"ProsePagesModel", "beginNode", "(I)V"⟩, 45) := ⟨⟨by decide +kernel, by decide +kernel⟩, List.mem_of_getElem? (i := 575) (by decide +kernel), List.mem_of_getElem? (i := 804) (by decide +kernel), List.mem_of_getElem? (i := 805) (by decide +kernel)⟩
theorem lw_p41 : lw_okq (⟨"ProsePagesModel", "beginLeaf", "()V"⟩, 45) := ⟨⟨by decide +kernel, by decide +kernel⟩, List.mem_of_getElem? (i := 575) (by decide +kernel), List.mem_of_getElem? (i := 808) (by decide +kernel), List.mem_of_getElem? (i := 809) (by decide +kernel)⟩
theorem lw_p42 : lw_okq (⟨"ProsePagesModel", "hold", "(IIIZ)V"⟩, 45) := ⟨⟨by decide +kernel, by decide +kernel⟩, List.mem_of_getElem? (i := 575) (by decide +kernel), List.mem_of_getElem? (i := 812) (by decide +kernel), List.mem_of_getElem? (i := 813) (by decide +kernel)⟩
theorem lw_p43 : lw_okq (⟨"ProsePagesModel", "holdsWideItem", "(I)Z"⟩, 45) := ⟨⟨by decide +kernel, by decide +kernel⟩, List.mem_of_getElem? (i := 575) (by decide +kernel), List.mem_of_getElem? (i := 816) (by decide +kernel), List.mem_of_getElem? (i := 817) (by decide +kernel)⟩
theorem lw_p44 : lw_okq (⟨"ProsePagesModel", "holdsParagraph", "(I)Z"⟩, 45) := ⟨⟨by decide +kernel, by decide +kernel⟩, List.mem_of_getElem? (i := 575) (by decide +kernel), List.mem_of_getElem? (i := 820) (by decide +kernel), List.mem_of_getElem? (i := 821) (by decide +kernel)⟩
theorem lw_p45 : lw_okq (⟨"ProsePagesModel", "hear", "(I)V"⟩, 45) := ⟨⟨by decide +kernel, by decide +kernel⟩, List.mem_of_getElem? (i := 575) (by decide +kernel), List.mem_of_getElem? (i := 824) (by decide +kernel), List.mem_of_getElem? (i := 825) (by decide +kernel)⟩
theorem lw_p46 : lw_okq (⟨"ProsePagesModel", "layCode", "(I)V"⟩, 45) := ⟨⟨by decide +kernel, by decide +kernel⟩, List.mem_of_getElem? (i := 575) (by decide +kernel), List.mem_of_getElem? (i := 828) (by decide +kernel), List.mem_of_getElem? (i := 829) (by decide +kernel)⟩
theorem lw_p47 : lw_okq (⟨"ProsePagesModel", "layPieces", "()V"⟩, 45) := ⟨⟨by decide +kernel, by decide +kernel⟩, List.mem_of_getElem? (i := 575) (by decide +kernel), List.mem_of_getElem? (i := 832) (by decide +kernel), List.mem_of_getElem? (i := 833) (by decide +kernel)⟩
def lw_privs_3 : List (MethodName × Nat) := [(⟨"ProsePagesModel", "endLeaf", "()V"⟩, 45), (⟨"ProsePagesModel", "endWord", "()V"⟩, 45), (⟨"ProsePagesModel", "giveNow", "()V"⟩, 45), (⟨"ProsePagesModel", "giveLine", "([III)V"⟩, 45), (⟨"ProsePagesModel", "showHolders", "(I)V"⟩, 45), (⟨"ProsePagesModel", "show", "(I)V"⟩, 45), (⟨"ProsePagesModel", "showNumber", "(I)V"⟩, 45), (⟨"ProsePagesModel", "endLine", "(Z)V"⟩, 45), (⟨"ProsePagesModel", "beginNode", "(I)V"⟩, 45), (⟨"ProsePagesModel", "beginLeaf", "()V"⟩, 45), (⟨"ProsePagesModel", "hold", "(IIIZ)V"⟩, 45), (⟨"ProsePagesModel", "holdsWideItem", "(I)Z"⟩, 45), (⟨"ProsePagesModel", "holdsParagraph", "(I)Z"⟩, 45), (⟨"ProsePagesModel", "hear", "(I)V"⟩, 45), (⟨"ProsePagesModel", "layCode", "(I)V"⟩, 45), (⟨"ProsePagesModel", "layPieces", "()V"⟩, 45)]
theorem lw_r3 : ∀ q ∈ lw_privs_3, lw_okq q := List.forall_mem_cons.mpr ⟨lw_p32, List.forall_mem_cons.mpr ⟨lw_p33, List.forall_mem_cons.mpr ⟨lw_p34, List.forall_mem_cons.mpr ⟨lw_p35, List.forall_mem_cons.mpr ⟨lw_p36, List.forall_mem_cons.mpr ⟨lw_p37, List.forall_mem_cons.mpr ⟨lw_p38, List.forall_mem_cons.mpr ⟨lw_p39, List.forall_mem_cons.mpr ⟨lw_p40, List.forall_mem_cons.mpr ⟨lw_p41, List.forall_mem_cons.mpr ⟨lw_p42, List.forall_mem_cons.mpr ⟨lw_p43, List.forall_mem_cons.mpr ⟨lw_p44, List.forall_mem_cons.mpr ⟨lw_p45, List.forall_mem_cons.mpr ⟨lw_p46, List.forall_mem_cons.mpr ⟨lw_p47, fun _ h => absurd h List.not_mem_nil⟩⟩⟩⟩⟩⟩⟩⟩⟩⟩⟩⟩⟩⟩⟩⟩
theorem lw_p48 : lw_okq (⟨"ProsePagesModel", "paginate", "()I"⟩, 45) := ⟨⟨by decide +kernel, by decide +kernel⟩, List.mem_of_getElem? (i := 575) (by decide +kernel), List.mem_of_getElem? (i := 836) (by decide +kernel), List.mem_of_getElem? (i := 837) (by decide +kernel)⟩
def lw_privs_4 : List (MethodName × Nat) := [(⟨"ProsePagesModel", "paginate", "()I"⟩, 45)]
theorem lw_r4 : ∀ q ∈ lw_privs_4, lw_okq q := List.forall_mem_cons.mpr ⟨lw_p48, fun _ h => absurd h List.not_mem_nil⟩
def lw_privs : List (MethodName × Nat) := lw_privs_1 ++ (lw_privs_2 ++ (lw_privs_3 ++ (lw_privs_4)))
def lw_tbl : List Cond := k2_sels lw_privs ++ tables_1
theorem lw_privs_ok : ∀ q ∈ lw_privs, lw_okq q := by
  show ∀ q ∈ lw_privs_1 ++ (lw_privs_2 ++ (lw_privs_3 ++ (lw_privs_4))), lw_okq q
  exact List.forall_mem_append.mpr ⟨lw_r1, List.forall_mem_append.mpr ⟨lw_r2, List.forall_mem_append.mpr ⟨lw_r3, lw_r4⟩⟩⟩
-- ===== end of PART A; then your names; then what follows =====
end
section
/-- what is no good word but lasts: words of nest mates, castings, the statics of Throwable, the array class of Nodes, the texts -/
def nfw : List Cond := [
  .methodLinkNest "ProsePages" 17 ⟨"ProsePages$Setter", "<init>", "()V"⟩ "ProsePages", .methodLinkNest "ProsePages$Setter" 11 ⟨"ProsePages$Row", "<init>", "()V"⟩ "ProsePages",
  .methodLinkNest "ProsePages$Setter" 20 ⟨"ProsePages$Sheet", "<init>", "()V"⟩ "ProsePages", .methodLinkNest "ProsePages$Sheet" 11 ⟨"ProsePages$Row", "<init>", "()V"⟩ "ProsePages",
  .methodLinkNest "ProsePages" 24 ⟨"ProsePages$Sheet", "<init>", "()V"⟩ "ProsePages", .methodLinkNest "ProsePages$Node" 37 ⟨"ProsePages", "isOneOf", "(II)Z"⟩ "ProsePages",
  .methodLinkNest "ProsePages$Setter" 148 ⟨"ProsePages", "isWhite", "(I)Z"⟩ "ProsePages",
  .castable "java/lang/IllegalStateException" "java/lang/IllegalStateException", .castable "java/lang/IllegalArgumentException" "java/lang/IllegalArgumentException",
  .laysStatic "java/lang/Throwable" "UNASSIGNED_STACK" "[Ljava/lang/StackTraceElement;", .laysStatic "java/lang/Throwable" "SUPPRESSED_SENTINEL" "Ljava/util/List;",
  .isRef (.static "java/lang/Throwable" "UNASSIGNED_STACK" "[Ljava/lang/StackTraceElement;"), .isRef (.static "java/lang/Throwable" "SUPPRESSED_SENTINEL" "Ljava/util/List;"),
  .not (.castable "java/lang/IllegalArgumentException" "java/lang/IllegalStateException"), .not (.castable "java/lang/IllegalStateException" "java/lang/IllegalArgumentException"),
  .declares ⟨"java/lang/RuntimeException", "<init>", "(Ljava/lang/String;)V"⟩, .declares ⟨"java/lang/Exception", "<init>", "(Ljava/lang/String;)V"⟩, .declares ⟨"java/lang/Throwable", "<init>", "(Ljava/lang/String;)V"⟩]
def nfs : List (Nat × String) := [(49, "no room for one more node here"), (60, "no such kind, or not here"), (67, "no such level or number"), (99, "not 1 to 4 characters, or no text may be here"), (104, "too many characters"), (126, "no such rows or columns"), (142, "too many lines")]
def NF (U : State) : Prop := (∀ w ∈ nfw, w.before #[] U = true) ∧ va_AO "ProsePages$Node" U ∧ ∀ q ∈ nfs, ∃ a : Nat, vk_R "ProsePages" q.1 q.2 a U
end
section
/-! worlds by keys, and the judgement V -/
section KB1
def kl (ks : List Nat) (loc : Nat → Nat) (val : Nat → va_E) : va_W := ks.map (fun k => (loc k, val k))
theorem kl_get {ks : List Nat} {loc : Nat → Nat} {val : Nat → va_E} {k : Nat} (h : k ∈ ks) : ∃ i : Nat, ks[i]? = some k ∧ (kl ks loc val)[i]? = some (loc k, val k) := by
  obtain ⟨i, hi⟩ := List.getElem?_of_mem h
  exact ⟨i, hi, by simp [kl, hi]⟩
theorem kl_mem {ks : List Nat} {loc : Nat → Nat} {val : Nat → va_E} {i : Nat} {q : Nat × va_E} (h : (kl ks loc val)[i]? = some q) : ∃ k, ks[i]? = some k ∧ q = (loc k, val k) := by
  simp only [kl, List.getElem?_map] at h
  cases hk : ks[i]? with
  | none => rw [hk] at h; cases h
  | some k => rw [hk] at h; exact ⟨k, rfl, (Option.some.inj h).symm⟩
theorem kl_set {A : Nat → Prop} {ks : List Nat} {loc : Nat → Nat} {val : Nat → va_E} (hD : va_D A (kl ks loc val)) {i k : Nat} (hi : ks[i]? = some k) (e : va_E) : (kl ks loc val).set i (loc k, e) = kl ks loc (va_up val k e) := by
  apply List.ext_getElem?
  intro j
  by_cases hj : i = j
  · subst hj
    have hlt : i < ks.length := (List.getElem?_eq_some_iff.mp hi).1
    have hk9 : ks[i] = k := (List.getElem?_eq_some_iff.mp hi).2
    simp [kl, List.getElem?_set, hlt, hk9, va_up]
  · simp only [List.getElem?_set, if_neg hj, kl, List.getElem?_map]
    cases hk : ks[j]? with
    | none => rfl
    | some k2 =>
      have hne : k2 ≠ k := by
        intro hkk
        subst hkk
        exact hj (hD.1 i j (loc k2, val k2) (loc k2, val k2) (by simp [kl, hi]) (by simp [kl, hk]) rfl)
      simp [va_up, hne]
theorem kl_push {ks : List Nat} {loc : Nat → Nat} {val : Nat → va_E} {k q : Nat} {e : va_E} (h : k ∉ ks) : kl ks loc val ++ [(q, e)] = kl (ks ++ [k]) (va_up loc k q) (va_up val k e) := by
  simp only [kl, List.map_append, List.map_cons, List.map_nil, va_up_self]
  congr 1
  apply List.map_congr_left
  intro j hj
  have hne : j ≠ k := fun z => h (z ▸ hj)
  simp [va_up, hne]
/-- the heap holds, for every key of dom, the cell 'val k' at 'loc k'; they are apart, and lie in A -/
def KW (D : va_G) (cl : List vw_C) (A : Nat → Prop) (dom : Nat → Prop) (loc : Nat → Nat) (val : Nat → va_E) (H : Heap) : Prop :=
  ∃ ks : List Nat, (∀ k, dom k ↔ k ∈ ks) ∧ va_P D cl (kl ks loc val) H ∧ va_D A (kl ks loc val)
variable {D : va_G} {cl : List vw_C} {A : Nat → Prop} {dom : Nat → Prop} {loc : Nat → Nat} {val : Nat → va_E} {H : Heap}
theorem KW.at_ (h : KW D cl A dom loc val H) {k : Nat} (hk : dom k) : va_at D cl (loc k, val k) H := by
  obtain ⟨ks, h1, h2, h3⟩ := h
  obtain ⟨i, -, i2⟩ := kl_get (loc := loc) (val := val) ((h1 k).mp hk)
  exact h2 i _ i2
theorem KW.lt (h : KW D cl A dom loc val H) {k : Nat} (hk : dom k) : loc k < H.size := (h.at_ hk).lt
theorem KW.inA (h : KW D cl A dom loc val H) {k : Nat} (hk : dom k) : A (loc k) := by
  obtain ⟨ks, h1, h2, h3⟩ := h
  obtain ⟨i, -, i2⟩ := kl_get (loc := loc) (val := val) ((h1 k).mp hk)
  exact h3.2 i _ i2
theorem KW.inj (h : KW D cl A dom loc val H) {k k2 : Nat} (hk : dom k) (hk2 : dom k2) (e : loc k = loc k2) : k = k2 := by
  obtain ⟨ks, h1, h2, h3⟩ := h
  obtain ⟨i, i1, i2⟩ := kl_get (loc := loc) (val := val) ((h1 k).mp hk)
  obtain ⟨j, j1, j2⟩ := kl_get (loc := loc) (val := val) ((h1 k2).mp hk2)
  have hij := h3.1 i j _ _ i2 j2 e
  subst hij
  exact Option.some.inj (i1.symm.trans j1)
theorem KW.ext (h : KW D cl A dom loc val H) {loc2 : Nat → Nat} {val2 : Nat → va_E} {dom2 : Nat → Prop} (hd : ∀ k, dom2 k → dom k) (hl : ∀ k, dom2 k → loc2 k = loc k) (hv : ∀ k, dom2 k → val2 k = val k) : KW D cl A dom2 loc2 val2 H := by
  classical
  obtain ⟨ks, h1, h2, h3⟩ := h
  refine ⟨ks.filter (fun k => decide (dom2 k)), fun k => ⟨fun hk => List.mem_filter.mpr ⟨(h1 k).mp (hd k hk), by simpa using hk⟩, fun hk => by simpa using (List.mem_filter.mp hk).2⟩, ?_, ?_⟩
  · intro i q hq
    obtain ⟨k, k1, rfl⟩ := kl_mem hq
    have hm := List.mem_filter.mp (List.mem_of_getElem? k1)
    have hk : dom2 k := by simpa using hm.2
    obtain ⟨j, -, j2⟩ := kl_get (loc := loc) (val := val) hm.1
    rw [hl k hk, hv k hk]
    exact h2 j _ j2
  · have hnd : ks.Nodup := by
      refine List.pairwise_iff_getElem.mpr (fun i j hi hj hij he => ?_)
      have e1 : ks[i]? = some ks[i] := List.getElem?_eq_getElem hi
      have e2 : ks[j]? = some ks[i] := by rw [he]; exact List.getElem?_eq_getElem hj
      have hc := h3.1 i j (loc ks[i], val ks[i]) (loc ks[i], val ks[i]) (by simp [kl, e1]) (by simp [kl, e2]) rfl
      omega
    have hnf : (ks.filter (fun k => decide (dom2 k))).Nodup := hnd.filter _
    refine ⟨fun i j x y hx hy hxy => ?_, fun i q hq => ?_⟩
    · obtain ⟨k, k1, rfl⟩ := kl_mem hx
      obtain ⟨k2, k3, rfl⟩ := kl_mem hy
      have m1 := List.mem_filter.mp (List.mem_of_getElem? k1)
      have m2 := List.mem_filter.mp (List.mem_of_getElem? k3)
      have d1 : dom2 k := by simpa using m1.2
      have d2 : dom2 k2 := by simpa using m2.2
      have hkk : k = k2 := by
        obtain ⟨a, a1, a2⟩ := kl_get (loc := loc) (val := val) m1.1
        obtain ⟨b, b1, b2⟩ := kl_get (loc := loc) (val := val) m2.1
        have hab := h3.1 a b _ _ a2 b2 (by show loc k = loc k2; rw [← hl k d1, ← hl k2 d2]; exact hxy)
        subst hab
        exact Option.some.inj (a1.symm.trans b1)
      subst hkk
      have hi := (List.getElem?_eq_some_iff.mp k1).1
      have hj := (List.getElem?_eq_some_iff.mp k3).1
      exact (List.getElem_inj hnf).mp ((List.getElem?_eq_some_iff.mp k1).2.trans (List.getElem?_eq_some_iff.mp k3).2.symm)
    · obtain ⟨k, k1, rfl⟩ := kl_mem hq
      have m1 := List.mem_filter.mp (List.mem_of_getElem? k1)
      have d1 : dom2 k := by simpa using m1.2
      obtain ⟨a, a1, a2⟩ := kl_get (loc := loc) (val := val) m1.1
      rw [hl k d1]
      have h9 := h3.2 a _ a2
      exact h9
/-- a new cell under a key (which may have been another's) -/
theorem KW.new (h : KW D cl A dom loc val H) {k q : Nat} {e : va_E} {H1 : Heap} {dom2 : Nat → Prop} (hd : ∀ j, dom2 j → j = k ∨ dom j) (hk2 : dom2 k)
    (hn : ∀ (ks : List Nat), k ∉ ks → va_P D cl (kl ks loc val) H → va_D A (kl ks loc val) → va_P D cl (kl ks loc val ++ [(q, e)]) H1 ∧ va_D A (kl ks loc val ++ [(q, e)])) : KW D cl A dom2 (va_up loc k q) (va_up val k e) H1 := by
  have h0 : KW D cl A (fun j => dom2 j ∧ j ≠ k) loc val H := h.ext (fun j z => (hd j z.1).resolve_left z.2) (fun _ _ => rfl) (fun _ _ => rfl)
  obtain ⟨ks, h1, h2, h3⟩ := h0
  have hk : k ∉ ks := fun z => ((h1 k).mpr z).2 rfl
  obtain ⟨h4, h5⟩ := hn ks hk h2 h3
  rw [kl_push hk] at h4 h5
  refine ⟨ks ++ [k], fun j => ⟨fun z => ?_, fun z => ?_⟩, h4, h5⟩
  · by_cases hj : j = k
    · rw [hj]; exact List.mem_append_right _ (List.mem_singleton.mpr rfl)
    · exact List.mem_append_left _ ((h1 j).mp ⟨z, hj⟩)
  · rcases List.mem_append.mp z with z | z
    · exact ((h1 j).mpr z).1
    · rw [List.mem_singleton.mp z]; exact hk2
end KB1

section KB0
/-- what is no good word, but lasts as long as the cells outside A stay: NF is the claim's own list of such facts -/
def kN (A : Nat → Prop) (s : State) : Prop := ∀ U : State, s.WarmedH U.vm → (∀ q : Nat, q < s.heap.size → ¬ A q → U.heap[q]? = s.heap[q]?) → NF U
theorem kN.now {A : Nat → Prop} {s : State} (h : kN A s) : NF s := h s (State.WarmedH.refl s) (fun _ _ _ => rfl)
theorem kN.move {A : Nat → Prop} {s U : State} (h : kN A s) (hW : s.WarmedH U.vm) (hs : s.heap.size ≤ U.heap.size) (hq : ∀ q : Nat, q < s.heap.size → ¬ A q → U.heap[q]? = s.heap[q]?) : kN A U := fun V hV hr =>
  h V (State.WarmedH.trans hW hV) (fun q h1 h2 => (hr q (Nat.lt_of_lt_of_le h1 hs) h2).trans (hq q h1 h2))
end KB0
section KB2
/-- sizes of the new cells; sizes are kept -/
def nsl (sz : Nat) (H : Heap) : Nat := ((H.toList.drop sz).map (fun c => c.slots.size)).sum
def szk (H0 H : Heap) : Prop := H0.size ≤ H.size ∧ ∀ (a : Nat) (c : Cell), H0[a]? = some c → ∃ c', H[a]? = some c' ∧ c'.slots.size = c.slots.size
/-- the walk's own names, in one -/
abbrev KX : Type := Program × Launch × Env × Room × State × MethodId × Array Value × List Frame × Method × Code × (State → Prop)
abbrev xR (X : KX) : Room := X.2.2.2.1
abbrev xs (X : KX) : State := X.2.2.2.2.1
abbrev xm (X : KX) : MethodId := X.2.2.2.2.2.1
abbrev xa (X : KX) : Array Value := X.2.2.2.2.2.2.1
abbrev xb (X : KX) : List Frame := X.2.2.2.2.2.2.2.1
abbrev xM (X : KX) : Method := X.2.2.2.2.2.2.2.2.1
abbrev xc (X : KX) : Code := X.2.2.2.2.2.2.2.2.2.1
abbrev xQ (X : KX) : State → Prop := X.2.2.2.2.2.2.2.2.2.2
def XW (X : KX) (H : Heap) (locs : List Loc) (cells slots : Nat) (g : JFrame) : Prop := W X.1 X.2.1 X.2.2.1 (xR X) (xs X) (xm X) (xa X) (xb X) (xM X) (xc X) H locs cells slots (xQ X) g
/-- what holds all along a walk -/
def OX (X : KX) (cc : ByteArray) (nL : Nat) (own : String) (Ts : List Cond) (D : va_G) (cl : List vw_C) (tys : List (ClassId × FieldType)) (A : Nat → Prop) (R : Room) : Prop :=
  X.1.tables.exec = Jvm.exec ∧ (xc X).code = cc ∧ (xc X).maxLocals = nL ∧ (xs X).vm.findClass own = some (xm X).cls ∧ (∀ w ∈ Ts, w.before (xa X) (xs X) = true) ∧ va_K D cl tys (xs X) ∧ (∀ q, (xs X).heap.size ≤ q → A q) ∧ (xM X).locks = false ∧ xR X = R ∧ kN A (xs X)
def lvh (ls : Array Slot) (lv : List (Option Value)) : Prop := ls.size = lv.length ∧ lv_wf ls ∧ ∀ (i : Nat) (v : Value), lv[i]? = some (some v) → ls[i]? = some (.val v) ∧ v.category = 1
def lvp (lv : List (Option Value)) : List (Nat × Value) := (List.range lv.length).filterMap (fun i => ((lv[i]?).getD none).map (fun v => (i, v)))
theorem lvp_mem {lv : List (Option Value)} {i : Nat} {v : Value} : (i, v) ∈ lvp lv ↔ lv[i]? = some (some v) := by
  unfold lvp
  rw [List.mem_filterMap]
  constructor
  · rintro ⟨j, hj, h⟩
    have hj2 : j < lv.length := List.mem_range.mp hj
    rw [List.getElem?_eq_getElem hj2] at h
    cases hv : lv[j] with
    | none => simp [hv] at h
    | some w =>
      simp [hv] at h
      obtain ⟨rfl, rfl⟩ := h
      rw [List.getElem?_eq_getElem hj2, hv]
  · intro h
    exact ⟨i, List.mem_range.mpr (List.getElem?_eq_some_iff.mp h).1, by simp [h]⟩
theorem lvh.has {ls : Array Slot} {lv : List (Option Value)} (h : lvh ls lv) : lv_has ls lv.length (lvp lv) := ⟨h.1, h.2.1, fun q hq => (h.2.2 q.1 q.2 (lvp_mem.mp hq)).1⟩
theorem lvh.of {ls : Array Slot} {lv : List (Option Value)} {ls' : Array Slot} {i : Nat} {v : Value} (h : lvh ls lv) (hi : i < lv.length) (hc : v.category = 1) (h' : lv_has ls' lv.length ((i, v) :: (lvp lv).filter (fun q => !(q.1 == i) && !(q.1 + 1 == i && q.2.category == 2)))) : lvh ls' (lv.set i (some v)) := by
  refine ⟨by simp [h'.1], h'.2.1, fun j w hw => ?_⟩
  by_cases hj : i = j
  · subst hj
    rw [List.getElem?_set_self hi] at hw
    cases hw
    exact ⟨h'.2.2 (i, v) List.mem_cons_self, hc⟩
  · rw [List.getElem?_set_ne hj] at hw
    have hcat := (h.2.2 j w hw).2
    refine ⟨h'.2.2 (j, w) (List.mem_cons_of_mem _ (List.mem_filter.mpr ⟨lvp_mem.mpr hw, ?_⟩)), hcat⟩
    have hne : ¬ j = i := fun z => hj z.symm
    simp [hne, hcat]
/-- THE JUDGEMENT: from pc, with these variables, this stack, in any heap that holds the world: the walk comes to its end -/
def V (X : KX) (D : va_G) (cl : List vw_C) (A : Nat → Prop) (dom : Nat → Prop) (loc : Nat → Nat) (val : Nat → va_E) (cells slots pc : Nat) (lv : List (Option Value)) (st : List Value) : Prop :=
  ∀ (H : Heap) (locs : List Loc) (ls : Array Slot), KW D cl A dom loc val H → va_S A (xs X).heap H locs → lvh ls lv → XW X H locs cells slots (F0 (xm X) pc ls st)
variable {X : KX} {cc : ByteArray} {nL : Nat} {own : String} {Ts : List Cond} {D : va_G} {cl : List vw_C} {tys : List (ClassId × FieldType)} {A : Nat → Prop} {R : Room} {dom : Nat → Prop} {loc : Nat → Nat} {val : Nat → va_E} {cells slots pc : Nat} {lv : List (Option Value)} {st : List Value}

theorem v_iconst (hX : OX X cc nL own Ts D cl tys A R) {n : Int} {v : Int32} (hd : decode cc pc = .ok (.iconst n, 1)) (hv : Int32.ofInt n = v) (k : V X D cl A dom loc val cells slots (pc + 1) lv (.int v :: st)) : V X D cl A dom loc val cells slots pc lv st := fun H locs ls hW hS hl => lv_iconst hX.1 hX.2.1 hd hv (k H locs ls hW hS hl)
theorem v_bipush (hX : OX X cc nL own Ts D cl tys A R) {n : Int} {v : Int32} (hd : decode cc pc = .ok (.bipush n, 2)) (hv : (Int8.ofInt n).toInt32 = v) (k : V X D cl A dom loc val cells slots (pc + 2) lv (.int v :: st)) : V X D cl A dom loc val cells slots pc lv st := fun H locs ls hW hS hl => lv_bipush hX.1 hX.2.1 hd hv (k H locs ls hW hS hl)
theorem v_sipush (hX : OX X cc nL own Ts D cl tys A R) {n : Int} {v : Int32} (hd : decode cc pc = .ok (.sipush n, 3)) (hv : (Int16.ofInt n).toInt32 = v) (k : V X D cl A dom loc val cells slots (pc + 3) lv (.int v :: st)) : V X D cl A dom loc val cells slots pc lv st := fun H locs ls hW hS hl => lv_sipush hX.1 hX.2.1 hd hv (k H locs ls hW hS hl)
theorem v_lconst (hX : OX X cc nL own Ts D cl tys A R) {n : Fin 2} {v : Int64} (hd : decode cc pc = .ok (.lconst n, 1)) (hv : Int64.ofNat (n : Nat) = v) (k : V X D cl A dom loc val cells slots (pc + 1) lv (.long v :: st)) : V X D cl A dom loc val cells slots pc lv st := fun H locs ls hW hS hl => lv_lconst hX.1 hX.2.1 hd hv (k H locs ls hW hS hl)
theorem v_null (hX : OX X cc nL own Ts D cl tys A R)  (hd : decode cc pc = .ok (.aconst_null, 1)) (k : V X D cl A dom loc val cells slots (pc + 1) lv (.null :: st)) : V X D cl A dom loc val cells slots pc lv st := fun H locs ls hW hS hl => lv_null hX.1 hX.2.1 hd (k H locs ls hW hS hl)
theorem v_iload_n (hX : OX X cc nL own Ts D cl tys A R) {k9 : Fin 4} {i : Nat} {x : Int32} (hd : decode cc pc = .ok (.iload_n k9, 1)) (hi : (k9 : Nat) = i) (hv : lv[i]? = some (some (.int x))) (k : V X D cl A dom loc val cells slots (pc + 1) lv (.int x :: st)) : V X D cl A dom loc val cells slots pc lv st := fun H locs ls hW hS hl => lv_iload_n hX.1 hX.2.1 hd hi (hl.2.2 _ _ hv).1 (k H locs ls hW hS hl)
theorem v_iload (hX : OX X cc nL own Ts D cl tys A R) {i : Nat} {x : Int32} (hd : decode cc pc = .ok (.iload i, 2)) (hv : lv[i]? = some (some (.int x))) (k : V X D cl A dom loc val cells slots (pc + 2) lv (.int x :: st)) : V X D cl A dom loc val cells slots pc lv st := fun H locs ls hW hS hl => lv_iload hX.1 hX.2.1 hd (hl.2.2 _ _ hv).1 (k H locs ls hW hS hl)
theorem v_aload_n (hX : OX X cc nL own Ts D cl tys A R) {k9 : Fin 4} {i : Nat} {a : Nat} (hd : decode cc pc = .ok (.aload_n k9, 1)) (hi : (k9 : Nat) = i) (hv : lv[i]? = some (some (.ref a))) (k : V X D cl A dom loc val cells slots (pc + 1) lv (.ref a :: st)) : V X D cl A dom loc val cells slots pc lv st := fun H locs ls hW hS hl => lv_aload_n hX.1 hX.2.1 hd hi (hl.2.2 _ _ hv).1 (k H locs ls hW hS hl)
theorem v_aload (hX : OX X cc nL own Ts D cl tys A R) {i : Nat} {a : Nat} (hd : decode cc pc = .ok (.aload i, 2)) (hv : lv[i]? = some (some (.ref a))) (k : V X D cl A dom loc val cells slots (pc + 2) lv (.ref a :: st)) : V X D cl A dom loc val cells slots pc lv st := fun H locs ls hW hS hl => lv_aload hX.1 hX.2.1 hd (hl.2.2 _ _ hv).1 (k H locs ls hW hS hl)
theorem v_aload_nQ (hX : OX X cc nL own Ts D cl tys A R) {k9 : Fin 4} {i : Nat} (r : Option Nat) (hd : decode cc pc = .ok (.aload_n k9, 1)) (hi : (k9 : Nat) = i) (hv : lv[i]? = some (some (va_rf r))) (k : V X D cl A dom loc val cells slots (pc + 1) lv (va_rf r :: st)) : V X D cl A dom loc val cells slots pc lv st := fun H locs ls hW hS hl => by
  cases r with
  | none => exact lv_aload_nN hX.1 hX.2.1 hd hi (hl.2.2 _ _ hv).1 (k H locs ls hW hS hl)
  | some a => exact lv_aload_n hX.1 hX.2.1 hd hi (hl.2.2 _ _ hv).1 (k H locs ls hW hS hl)
theorem v_aloadQ (hX : OX X cc nL own Ts D cl tys A R) {i : Nat} (r : Option Nat) (hd : decode cc pc = .ok (.aload i, 2)) (hv : lv[i]? = some (some (va_rf r))) (k : V X D cl A dom loc val cells slots (pc + 2) lv (va_rf r :: st)) : V X D cl A dom loc val cells slots pc lv st := fun H locs ls hW hS hl => by
  cases r with
  | none => exact lv_aloadN hX.1 hX.2.1 hd (hl.2.2 _ _ hv).1 (k H locs ls hW hS hl)
  | some a => exact lv_aload hX.1 hX.2.1 hd (hl.2.2 _ _ hv).1 (k H locs ls hW hS hl)
theorem v_istore_n (hX : OX X cc nL own Ts D cl tys A R) {k9 : Fin 4} {i : Nat} {x : Int32} (hd : decode cc pc = .ok (.istore_n k9, 1)) (hi : (k9 : Nat) = i) (hn : i < lv.length) {lv' : List (Option Value)} (he : lv.set i (some (.int x)) = lv') (k : V X D cl A dom loc val cells slots (pc + 1) lv' st) : V X D cl A dom loc val cells slots pc lv (.int x :: st) := fun H locs ls hW hS hl => lv_istore_n hX.1 hX.2.1 hd hi hl.has hn rfl (fun ls' hl' => k H locs ls' hW hS (he ▸ hl.of hn rfl hl'))
theorem v_istore (hX : OX X cc nL own Ts D cl tys A R) {i : Nat} {x : Int32} (hd : decode cc pc = .ok (.istore i, 2)) (hn : i < lv.length) {lv' : List (Option Value)} (he : lv.set i (some (.int x)) = lv') (k : V X D cl A dom loc val cells slots (pc + 2) lv' st) : V X D cl A dom loc val cells slots pc lv (.int x :: st) := fun H locs ls hW hS hl => lv_istore hX.1 hX.2.1 hd hl.has hn rfl (fun ls' hl' => k H locs ls' hW hS (he ▸ hl.of hn rfl hl'))
theorem v_astore_nQ (hX : OX X cc nL own Ts D cl tys A R) {k9 : Fin 4} {i : Nat} (r : Option Nat) (hd : decode cc pc = .ok (.astore_n k9, 1)) (hi : (k9 : Nat) = i) (hn : i < lv.length) {lv' : List (Option Value)} (he : lv.set i (some (va_rf r)) = lv') (k : V X D cl A dom loc val cells slots (pc + 1) lv' st) : V X D cl A dom loc val cells slots pc lv (va_rf r :: st) := fun H locs ls hW hS hl => by
  cases r with
  | none => exact lv_astore_nN hX.1 hX.2.1 hd hi hl.has hn rfl (fun ls' hl' => k H locs ls' hW hS (he ▸ hl.of hn rfl hl'))
  | some a => exact lv_astore_n hX.1 hX.2.1 hd hi hl.has hn rfl (fun ls' hl' => k H locs ls' hW hS (he ▸ hl.of hn rfl hl'))
theorem v_astoreQ (hX : OX X cc nL own Ts D cl tys A R) {i : Nat} (r : Option Nat) (hd : decode cc pc = .ok (.astore i, 2)) (hn : i < lv.length) {lv' : List (Option Value)} (he : lv.set i (some (va_rf r)) = lv') (k : V X D cl A dom loc val cells slots (pc + 2) lv' st) : V X D cl A dom loc val cells slots pc lv (va_rf r :: st) := fun H locs ls hW hS hl => by
  cases r with
  | none => exact lv_astoreN hX.1 hX.2.1 hd hl.has hn rfl (fun ls' hl' => k H locs ls' hW hS (he ▸ hl.of hn rfl hl'))
  | some a => exact lv_astore hX.1 hX.2.1 hd hl.has hn rfl (fun ls' hl' => k H locs ls' hW hS (he ▸ hl.of hn rfl hl'))
theorem v_astore_n (hX : OX X cc nL own Ts D cl tys A R) {k9 : Fin 4} {i a : Nat} (hd : decode cc pc = .ok (.astore_n k9, 1)) (hi : (k9 : Nat) = i) (hn : i < lv.length) {lv' : List (Option Value)} (he : lv.set i (some (.ref a)) = lv') (k : V X D cl A dom loc val cells slots (pc + 1) lv' st) : V X D cl A dom loc val cells slots pc lv (.ref a :: st) := v_astore_nQ hX (some a) hd hi hn he k
theorem v_astore (hX : OX X cc nL own Ts D cl tys A R) {i a : Nat} (hd : decode cc pc = .ok (.astore i, 2)) (hn : i < lv.length) {lv' : List (Option Value)} (he : lv.set i (some (.ref a)) = lv') (k : V X D cl A dom loc val cells slots (pc + 2) lv' st) : V X D cl A dom loc val cells slots pc lv (.ref a :: st) := v_astoreQ hX (some a) hd hn he k
theorem v_iinc (hX : OX X cc nL own Ts D cl tys A R) {i : Nat} {n : Int} {x y : Int32} (hd : decode cc pc = .ok (.iinc i n, 3)) (hv : lv[i]? = some (some (.int x))) (hy : x + Int32.ofInt n = y) {lv' : List (Option Value)} (he : lv.set i (some (.int y)) = lv') (k : V X D cl A dom loc val cells slots (pc + 3) lv' st) : V X D cl A dom loc val cells slots pc lv st := fun H locs ls hW hS hl => by
  have hn : i < lv.length := (List.getElem?_eq_some_iff.mp hv).1
  obtain ⟨j, hj⟩ := List.getElem?_of_mem (lvp_mem.mpr hv)
  exact lv_iinc hX.1 hX.2.1 hd hl.has hj hy hn rfl (fun ls' hl' => k H locs ls' hW hS (he ▸ hl.of hn rfl hl'))
theorem v_iadd (hX : OX X cc nL own Ts D cl tys A R) {x y : Int32} (hd : decode cc pc = .ok (.iadd, 1)) (k : V X D cl A dom loc val cells slots (pc + 1) lv (.int (x + y) :: st)) : V X D cl A dom loc val cells slots pc lv (.int y :: .int x :: st) := fun H locs ls hW hS hl => lv_iadd hX.1 hX.2.1 hd (k H locs ls hW hS hl)
theorem v_isub (hX : OX X cc nL own Ts D cl tys A R) {x y : Int32} (hd : decode cc pc = .ok (.isub, 1)) (k : V X D cl A dom loc val cells slots (pc + 1) lv (.int (x - y) :: st)) : V X D cl A dom loc val cells slots pc lv (.int y :: .int x :: st) := fun H locs ls hW hS hl => lv_isub hX.1 hX.2.1 hd (k H locs ls hW hS hl)
theorem v_imul (hX : OX X cc nL own Ts D cl tys A R) {x y : Int32} (hd : decode cc pc = .ok (.imul, 1)) (k : V X D cl A dom loc val cells slots (pc + 1) lv (.int (x * y) :: st)) : V X D cl A dom loc val cells slots pc lv (.int y :: .int x :: st) := fun H locs ls hW hS hl => lv_imul hX.1 hX.2.1 hd (k H locs ls hW hS hl)
theorem v_iand (hX : OX X cc nL own Ts D cl tys A R) {x y : Int32} (hd : decode cc pc = .ok (.iand, 1)) (k : V X D cl A dom loc val cells slots (pc + 1) lv (.int (x &&& y) :: st)) : V X D cl A dom loc val cells slots pc lv (.int y :: .int x :: st) := fun H locs ls hW hS hl => lv_iand hX.1 hX.2.1 hd (k H locs ls hW hS hl)
theorem v_ior (hX : OX X cc nL own Ts D cl tys A R) {x y : Int32} (hd : decode cc pc = .ok (.ior, 1)) (k : V X D cl A dom loc val cells slots (pc + 1) lv (.int (x ||| y) :: st)) : V X D cl A dom loc val cells slots pc lv (.int y :: .int x :: st) := fun H locs ls hW hS hl => lv_ior hX.1 hX.2.1 hd (k H locs ls hW hS hl)
theorem v_ixor (hX : OX X cc nL own Ts D cl tys A R) {x y : Int32} (hd : decode cc pc = .ok (.ixor, 1)) (k : V X D cl A dom loc val cells slots (pc + 1) lv (.int (x ^^^ y) :: st)) : V X D cl A dom loc val cells slots pc lv (.int y :: .int x :: st) := fun H locs ls hW hS hl => lv_ixor hX.1 hX.2.1 hd (k H locs ls hW hS hl)
theorem v_idiv (hX : OX X cc nL own Ts D cl tys A R) {x y : Int32} (hd : decode cc pc = .ok (.idiv, 1)) (hne : ¬ y = 0) (k : V X D cl A dom loc val cells slots (pc + 1) lv (.int (x / y) :: st)) : V X D cl A dom loc val cells slots pc lv (.int y :: .int x :: st) := fun H locs ls hW hS hl => lv_idiv hX.1 hX.2.1 hd hne (k H locs ls hW hS hl)
theorem v_irem (hX : OX X cc nL own Ts D cl tys A R) {x y : Int32} (hd : decode cc pc = .ok (.irem, 1)) (hne : ¬ y = 0) (k : V X D cl A dom loc val cells slots (pc + 1) lv (.int (x - x / y * y) :: st)) : V X D cl A dom loc val cells slots pc lv (.int y :: .int x :: st) := fun H locs ls hW hS hl => lv_irem hX.1 hX.2.1 hd hne (k H locs ls hW hS hl)
theorem v_ishl (hX : OX X cc nL own Ts D cl tys A R) {x y : Int32} (hd : decode cc pc = .ok (.ishl, 1)) (k : V X D cl A dom loc val cells slots (pc + 1) lv (.int (x <<< (y &&& 31)) :: st)) : V X D cl A dom loc val cells slots pc lv (.int y :: .int x :: st) := fun H locs ls hW hS hl => lv_ishl hX.1 hX.2.1 hd (k H locs ls hW hS hl)
theorem v_ishr (hX : OX X cc nL own Ts D cl tys A R) {x y : Int32} (hd : decode cc pc = .ok (.ishr, 1)) (k : V X D cl A dom loc val cells slots (pc + 1) lv (.int (x >>> (y &&& 31)) :: st)) : V X D cl A dom loc val cells slots pc lv (.int y :: .int x :: st) := fun H locs ls hW hS hl => lv_ishr hX.1 hX.2.1 hd (k H locs ls hW hS hl)
theorem v_ineg (hX : OX X cc nL own Ts D cl tys A R) {x : Int32} (hd : decode cc pc = .ok (.ineg, 1)) (k : V X D cl A dom loc val cells slots (pc + 1) lv (.int (-x) :: st)) : V X D cl A dom loc val cells slots pc lv (.int x :: st) := fun H locs ls hW hS hl => lv_ineg hX.1 hX.2.1 hd (k H locs ls hW hS hl)
theorem v_i2l (hX : OX X cc nL own Ts D cl tys A R) {x : Int32} {v : Int64} (hd : decode cc pc = .ok (.i2l, 1)) (hv : x.toInt64 = v) (k : V X D cl A dom loc val cells slots (pc + 1) lv (.long v :: st)) : V X D cl A dom loc val cells slots pc lv (.int x :: st) := fun H locs ls hW hS hl => lv_i2l hX.1 hX.2.1 hd hv (k H locs ls hW hS hl)
theorem v_i2b (hX : OX X cc nL own Ts D cl tys A R) {x v : Int32} (hd : decode cc pc = .ok (.i2b, 1)) (hv : x.toInt8.toInt32 = v) (k : V X D cl A dom loc val cells slots (pc + 1) lv (.int v :: st)) : V X D cl A dom loc val cells slots pc lv (.int x :: st) := fun H locs ls hW hS hl => lv_i2b hX.1 hX.2.1 hd hv (k H locs ls hW hS hl)
theorem v_i2c (hX : OX X cc nL own Ts D cl tys A R) {x v : Int32} (hd : decode cc pc = .ok (.i2c, 1)) (hv : (x.toUInt32 % 65536).toInt32 = v) (k : V X D cl A dom loc val cells slots (pc + 1) lv (.int v :: st)) : V X D cl A dom loc val cells slots pc lv (.int x :: st) := fun H locs ls hW hS hl => lv_i2c hX.1 hX.2.1 hd hv (k H locs ls hW hS hl)
theorem v_dup (hX : OX X cc nL own Ts D cl tys A R) {a : Value} (hd : decode cc pc = .ok (.dup, 1)) (ha : a.category = 1) (k : V X D cl A dom loc val cells slots (pc + 1) lv (a :: a :: st)) : V X D cl A dom loc val cells slots pc lv (a :: st) := fun H locs ls hW hS hl => lv_dup hX.1 hX.2.1 hd ha (k H locs ls hW hS hl)
theorem v_pop (hX : OX X cc nL own Ts D cl tys A R) {a : Value} (hd : decode cc pc = .ok (.pop, 1)) (ha : a.category = 1) (k : V X D cl A dom loc val cells slots (pc + 1) lv st) : V X D cl A dom loc val cells slots pc lv (a :: st) := fun H locs ls hW hS hl => lv_pop hX.1 hX.2.1 hd ha (k H locs ls hW hS hl)
theorem v_dup_x1 (hX : OX X cc nL own Ts D cl tys A R) {a b : Value} (hd : decode cc pc = .ok (.dup_x1, 1)) (ha : a.category = 1) (hb : b.category = 1) (k : V X D cl A dom loc val cells slots (pc + 1) lv (a :: b :: a :: st)) : V X D cl A dom loc val cells slots pc lv (a :: b :: st) := fun H locs ls hW hS hl => lv_dup_x1 hX.1 hX.2.1 hd ha hb (k H locs ls hW hS hl)
theorem v_dup_x2 (hX : OX X cc nL own Ts D cl tys A R) {a b c : Value} (hd : decode cc pc = .ok (.dup_x2, 1)) (ha : a.category = 1) (hb : b.category = 1) (hc : c.category = 1) (k : V X D cl A dom loc val cells slots (pc + 1) lv (a :: b :: c :: a :: st)) : V X D cl A dom loc val cells slots pc lv (a :: b :: c :: st) := fun H locs ls hW hS hl => lv_dup_x2 hX.1 hX.2.1 hd ha hb hc (k H locs ls hW hS hl)
theorem v_dup2 (hX : OX X cc nL own Ts D cl tys A R) {a b : Value} (hd : decode cc pc = .ok (.dup2, 1)) (ha : a.category = 1) (hb : b.category = 1) (k : V X D cl A dom loc val cells slots (pc + 1) lv (a :: b :: a :: b :: st)) : V X D cl A dom loc val cells slots pc lv (a :: b :: st) := fun H locs ls hW hS hl => lv_dup2_11 hX.1 hX.2.1 hd ha hb (k H locs ls hW hS hl)
theorem v_goto (hX : OX X cc nL own Ts D cl tys A R) {off : Int} {tgt : Nat} (hd : decode cc pc = .ok (.goto off, 3)) (ht : (pc : Int) + off = (tgt : Int)) (k : V X D cl A dom loc val cells slots tgt lv st) : V X D cl A dom loc val cells slots pc lv st := fun H locs ls hW hS hl => lv_goto hX.1 hX.2.1 hd ht (k H locs ls hW hS hl)
theorem v_if_eq (hX : OX X cc nL own Ts D cl tys A R) {x : Int32} {off : Int} {tgt : Nat} (hd : decode cc pc = .ok (.ifCond .eq off, 3)) (ht : (pc : Int) + off = (tgt : Int)) (kt : x = 0 → V X D cl A dom loc val cells slots tgt lv st) (kf : ¬ x = 0 → V X D cl A dom loc val cells slots (pc + 3) lv st) : V X D cl A dom loc val cells slots pc lv (.int x :: st) := fun H locs ls hW hS hl => lv_if_eq hX.1 hX.2.1 hd ht (fun z => kt z H locs ls hW hS hl) (fun z => kf z H locs ls hW hS hl)
theorem v_icmp_eq (hX : OX X cc nL own Ts D cl tys A R) {x y : Int32} {off : Int} {tgt : Nat} (hd : decode cc pc = .ok (.if_icmp .eq off, 3)) (ht : (pc : Int) + off = (tgt : Int)) (kt : x = y → V X D cl A dom loc val cells slots tgt lv st) (kf : ¬ x = y → V X D cl A dom loc val cells slots (pc + 3) lv st) : V X D cl A dom loc val cells slots pc lv (.int y :: .int x :: st) := fun H locs ls hW hS hl => lv_icmp_eq hX.1 hX.2.1 hd ht (fun z => kt z H locs ls hW hS hl) (fun z => kf z H locs ls hW hS hl)
theorem v_if_ne (hX : OX X cc nL own Ts D cl tys A R) {x : Int32} {off : Int} {tgt : Nat} (hd : decode cc pc = .ok (.ifCond .ne off, 3)) (ht : (pc : Int) + off = (tgt : Int)) (kt : ¬ x = 0 → V X D cl A dom loc val cells slots tgt lv st) (kf : x = 0 → V X D cl A dom loc val cells slots (pc + 3) lv st) : V X D cl A dom loc val cells slots pc lv (.int x :: st) := fun H locs ls hW hS hl => lv_if_ne hX.1 hX.2.1 hd ht (fun z => kt z H locs ls hW hS hl) (fun z => kf z H locs ls hW hS hl)
theorem v_icmp_ne (hX : OX X cc nL own Ts D cl tys A R) {x y : Int32} {off : Int} {tgt : Nat} (hd : decode cc pc = .ok (.if_icmp .ne off, 3)) (ht : (pc : Int) + off = (tgt : Int)) (kt : ¬ x = y → V X D cl A dom loc val cells slots tgt lv st) (kf : x = y → V X D cl A dom loc val cells slots (pc + 3) lv st) : V X D cl A dom loc val cells slots pc lv (.int y :: .int x :: st) := fun H locs ls hW hS hl => lv_icmp_ne hX.1 hX.2.1 hd ht (fun z => kt z H locs ls hW hS hl) (fun z => kf z H locs ls hW hS hl)
theorem v_if_lt (hX : OX X cc nL own Ts D cl tys A R) {x : Int32} {off : Int} {tgt : Nat} (hd : decode cc pc = .ok (.ifCond .lt off, 3)) (ht : (pc : Int) + off = (tgt : Int)) (kt : x < 0 → V X D cl A dom loc val cells slots tgt lv st) (kf : ¬ x < 0 → V X D cl A dom loc val cells slots (pc + 3) lv st) : V X D cl A dom loc val cells slots pc lv (.int x :: st) := fun H locs ls hW hS hl => lv_if_lt hX.1 hX.2.1 hd ht (fun z => kt z H locs ls hW hS hl) (fun z => kf z H locs ls hW hS hl)
theorem v_icmp_lt (hX : OX X cc nL own Ts D cl tys A R) {x y : Int32} {off : Int} {tgt : Nat} (hd : decode cc pc = .ok (.if_icmp .lt off, 3)) (ht : (pc : Int) + off = (tgt : Int)) (kt : x < y → V X D cl A dom loc val cells slots tgt lv st) (kf : ¬ x < y → V X D cl A dom loc val cells slots (pc + 3) lv st) : V X D cl A dom loc val cells slots pc lv (.int y :: .int x :: st) := fun H locs ls hW hS hl => lv_icmp_lt hX.1 hX.2.1 hd ht (fun z => kt z H locs ls hW hS hl) (fun z => kf z H locs ls hW hS hl)
theorem v_if_ge (hX : OX X cc nL own Ts D cl tys A R) {x : Int32} {off : Int} {tgt : Nat} (hd : decode cc pc = .ok (.ifCond .ge off, 3)) (ht : (pc : Int) + off = (tgt : Int)) (kt : 0 ≤ x → V X D cl A dom loc val cells slots tgt lv st) (kf : ¬ 0 ≤ x → V X D cl A dom loc val cells slots (pc + 3) lv st) : V X D cl A dom loc val cells slots pc lv (.int x :: st) := fun H locs ls hW hS hl => lv_if_ge hX.1 hX.2.1 hd ht (fun z => kt z H locs ls hW hS hl) (fun z => kf z H locs ls hW hS hl)
theorem v_icmp_ge (hX : OX X cc nL own Ts D cl tys A R) {x y : Int32} {off : Int} {tgt : Nat} (hd : decode cc pc = .ok (.if_icmp .ge off, 3)) (ht : (pc : Int) + off = (tgt : Int)) (kt : y ≤ x → V X D cl A dom loc val cells slots tgt lv st) (kf : ¬ y ≤ x → V X D cl A dom loc val cells slots (pc + 3) lv st) : V X D cl A dom loc val cells slots pc lv (.int y :: .int x :: st) := fun H locs ls hW hS hl => lv_icmp_ge hX.1 hX.2.1 hd ht (fun z => kt z H locs ls hW hS hl) (fun z => kf z H locs ls hW hS hl)
theorem v_if_gt (hX : OX X cc nL own Ts D cl tys A R) {x : Int32} {off : Int} {tgt : Nat} (hd : decode cc pc = .ok (.ifCond .gt off, 3)) (ht : (pc : Int) + off = (tgt : Int)) (kt : 0 < x → V X D cl A dom loc val cells slots tgt lv st) (kf : ¬ 0 < x → V X D cl A dom loc val cells slots (pc + 3) lv st) : V X D cl A dom loc val cells slots pc lv (.int x :: st) := fun H locs ls hW hS hl => lv_if_gt hX.1 hX.2.1 hd ht (fun z => kt z H locs ls hW hS hl) (fun z => kf z H locs ls hW hS hl)
theorem v_icmp_gt (hX : OX X cc nL own Ts D cl tys A R) {x y : Int32} {off : Int} {tgt : Nat} (hd : decode cc pc = .ok (.if_icmp .gt off, 3)) (ht : (pc : Int) + off = (tgt : Int)) (kt : y < x → V X D cl A dom loc val cells slots tgt lv st) (kf : ¬ y < x → V X D cl A dom loc val cells slots (pc + 3) lv st) : V X D cl A dom loc val cells slots pc lv (.int y :: .int x :: st) := fun H locs ls hW hS hl => lv_icmp_gt hX.1 hX.2.1 hd ht (fun z => kt z H locs ls hW hS hl) (fun z => kf z H locs ls hW hS hl)
theorem v_if_le (hX : OX X cc nL own Ts D cl tys A R) {x : Int32} {off : Int} {tgt : Nat} (hd : decode cc pc = .ok (.ifCond .le off, 3)) (ht : (pc : Int) + off = (tgt : Int)) (kt : x ≤ 0 → V X D cl A dom loc val cells slots tgt lv st) (kf : ¬ x ≤ 0 → V X D cl A dom loc val cells slots (pc + 3) lv st) : V X D cl A dom loc val cells slots pc lv (.int x :: st) := fun H locs ls hW hS hl => lv_if_le hX.1 hX.2.1 hd ht (fun z => kt z H locs ls hW hS hl) (fun z => kf z H locs ls hW hS hl)
theorem v_icmp_le (hX : OX X cc nL own Ts D cl tys A R) {x y : Int32} {off : Int} {tgt : Nat} (hd : decode cc pc = .ok (.if_icmp .le off, 3)) (ht : (pc : Int) + off = (tgt : Int)) (kt : x ≤ y → V X D cl A dom loc val cells slots tgt lv st) (kf : ¬ x ≤ y → V X D cl A dom loc val cells slots (pc + 3) lv st) : V X D cl A dom loc val cells slots pc lv (.int y :: .int x :: st) := fun H locs ls hW hS hl => lv_icmp_le hX.1 hX.2.1 hd ht (fun z => kt z H locs ls hW hS hl) (fun z => kf z H locs ls hW hS hl)
theorem v_ifnull (hX : OX X cc nL own Ts D cl tys A R) (r : Option Nat) {off : Int} {tgt : Nat} (hd : decode cc pc = .ok (.ifnull off, 3)) (ht : (pc : Int) + off = (tgt : Int)) (kt : r = none → V X D cl A dom loc val cells slots tgt lv st) (kf : ∀ a, r = some a → V X D cl A dom loc val cells slots (pc + 3) lv st) : V X D cl A dom loc val cells slots pc lv (va_rf r :: st) := fun H locs ls hW hS hl => by
  cases r with
  | none => exact lv_ifnullN hX.1 hX.2.1 hd ht (kt rfl H locs ls hW hS hl)
  | some a => exact lv_ifnull hX.1 hX.2.1 hd (kf a rfl H locs ls hW hS hl)
theorem v_ifnonnull (hX : OX X cc nL own Ts D cl tys A R) (r : Option Nat) {off : Int} {tgt : Nat} (hd : decode cc pc = .ok (.ifnonnull off, 3)) (ht : (pc : Int) + off = (tgt : Int)) (kt : ∀ a, r = some a → V X D cl A dom loc val cells slots tgt lv st) (kf : r = none → V X D cl A dom loc val cells slots (pc + 3) lv st) : V X D cl A dom loc val cells slots pc lv (va_rf r :: st) := fun H locs ls hW hS hl => by
  cases r with
  | none => exact lv_ifnonnullN hX.1 hX.2.1 hd (kf rfl H locs ls hW hS hl)
  | some a => exact lv_ifnonnull hX.1 hX.2.1 hd ht (kt a rfl H locs ls hW hS hl)
theorem v_acmp_eq (hX : OX X cc nL own Ts D cl tys A R) (rx ry : Option Nat) {off : Int} {tgt : Nat} (hd : decode cc pc = .ok (.if_acmp .eq off, 3)) (ht : (pc : Int) + off = (tgt : Int)) (kt : rx = ry → V X D cl A dom loc val cells slots tgt lv st) (kf : ¬ rx = ry → V X D cl A dom loc val cells slots (pc + 3) lv st) : V X D cl A dom loc val cells slots pc lv (va_rf ry :: va_rf rx :: st) := fun H locs ls hW hS hl => lv_acmp_eq hX.1 hX.2.1 hd ht (fun z => kt z H locs ls hW hS hl) (fun z => kf z H locs ls hW hS hl)
theorem v_acmp_ne (hX : OX X cc nL own Ts D cl tys A R) (rx ry : Option Nat) {off : Int} {tgt : Nat} (hd : decode cc pc = .ok (.if_acmp .ne off, 3)) (ht : (pc : Int) + off = (tgt : Int)) (kt : ¬ rx = ry → V X D cl A dom loc val cells slots tgt lv st) (kf : rx = ry → V X D cl A dom loc val cells slots (pc + 3) lv st) : V X D cl A dom loc val cells slots pc lv (va_rf ry :: va_rf rx :: st) := fun H locs ls hW hS hl => lv_acmp_ne hX.1 hX.2.1 hd ht (fun z => kt z H locs ls hW hS hl) (fun z => kf z H locs ls hW hS hl)
theorem v_ldc (hX : OX X cc nL own Ts D cl tys A R) {index : Nat} {v : Int32} (hc : Jvm.Cond.constant own index v ∈ Ts) (hd : decode cc pc = .ok (.ldc index, 2)) (k : V X D cl A dom loc val cells slots (pc + 2) lv (.int v :: st)) : V X D cl A dom loc val cells slots pc lv st := fun H locs ls hW hS hl => lv_ldc hX.1 hX.2.1 hX.2.2.2.1 (hX.2.2.2.2.1 _ hc) hd (k H locs ls hW hS hl)
theorem v_topi {x : Int32} (k : ∀ y : Int32, y = x → V X D cl A dom loc val cells slots pc lv (.int y :: st)) : V X D cl A dom loc val cells slots pc lv (.int x :: st) := k x rfl
theorem v_tableOut (hX : OX X cc nL own Ts D cl tys A R) {dflt lo hi : Int} {offs : Array Int} {len : Nat} {x : Int32} {tgt : Nat} (hd : decode cc pc = .ok (.tableswitch dflt lo hi offs, len)) (h : x.toInt < lo ∨ hi < x.toInt) (ht : (pc : Int) + dflt = (tgt : Int)) (k : V X D cl A dom loc val cells slots tgt lv st) : V X D cl A dom loc val cells slots pc lv (.int x :: st) := fun H locs ls hW hS hl => lv_tableOut hX.1 hX.2.1 hd h ht (k H locs ls hW hS hl)
theorem v_tableIn (hX : OX X cc nL own Ts D cl tys A R) {dflt lo hi : Int} {offs : Array Int} {len : Nat} {x : Int32} {off : Int} {tgt : Nat} (hd : decode cc pc = .ok (.tableswitch dflt lo hi offs, len)) (h1 : ¬ x.toInt < lo) (h2 : ¬ hi < x.toInt) (ho : offs[(x.toInt - lo).toNat]? = some off) (ht : (pc : Int) + off = (tgt : Int)) (k : V X D cl A dom loc val cells slots tgt lv st) : V X D cl A dom loc val cells slots pc lv (.int x :: st) := fun H locs ls hW hS hl => lv_tableIn hX.1 hX.2.1 hd h1 h2 ho ht (k H locs ls hW hS hl)
theorem v_lookup (hX : OX X cc nL own Ts D cl tys A R) {dflt : Int} {ps : Array (Int × Int)} {len : Nat} {x : Int32} {off : Int} {tgt : Nat} (hd : decode cc pc = .ok (.lookupswitch dflt ps, len)) (hp : (ps.toList.zip (ps.toList.drop 1)).all (fun (a, next) => a.1 < next.1) = true) (ho : Op.lookupswitch.offset ps.toList dflt x.toInt = off) (ht : (pc : Int) + off = (tgt : Int)) (k : V X D cl A dom loc val cells slots tgt lv st) : V X D cl A dom loc val cells slots pc lv (.int x :: st) := fun H locs ls hW hS hl => lv_lookup hX.1 hX.2.1 hd hp ho ht (k H locs ls hW hS hl)
theorem v_lcmp (hX : OX X cc nL own Ts D cl tys A R) {x y : Int64} (hd : decode cc pc = .ok (.lcmp, 1)) (k : V X D cl A dom loc val cells slots (pc + 1) lv (.int (lg_cmp x y) :: st)) : V X D cl A dom loc val cells slots pc lv (.long y :: .long x :: st) := fun H locs ls hW hS hl => W.lcmp hX.1 hX.2.1 hd (k H locs ls hW hS hl)
/-- a field is read: of the object under the key j (any reference a that is loc j) -/
theorem v_get (hX : OX X cc nL own Ts D cl tys A R) (j : Nat) {C ref : String} {T : u_T} {N ci index : Nat} {fs : List Value} {a : Nat} {v : Value} (hin : ∀ w ∈ u_ws C T N, w ∈ Ts) (hj : dom j) (ha : loc j = a) (he : val j = .inr (ci, fs)) (hc : cl[ci]? = some (C, T, N)) (k : Nat) (hk : k < N) (hlink : Cond.fieldLink own index ref (T k).2.1 (T k).2.2.1 ∈ Ts) (href : (T k).1 = ref) (hv : fs[k]? = some v) (hd : decode cc pc = .ok (.getfield index, 3))
    (kk : V X D cl A dom loc val cells slots (pc + 3) lv (v :: st)) : V X D cl A dom loc val cells slots pc lv (.ref a :: st) := fun H locs ls hW hS hl => by
  subst ha
  subst href
  have hP : va_P D cl [(loc j, .inr (ci, fs))] H := fun i q hq => by
    have hz : i < 1 := (List.getElem?_eq_some_iff.mp hq).1
    rw [show i = 0 by omega] at hq
    cases hq
    rw [← he]; exact hW.at_ hj
  exact va_get (q0 := 0) hX.1 hX.2.1 hX.2.2.2.2.1 hin hX.2.2.2.1 hX.2.2.2.2.2.1 hP (ci := ci) (fs := fs) rfl hc k hk (hX.2.2.2.2.1 _ hlink) (fun _ h9 => h9) hv hd (kk H locs ls hW hS hl)
theorem v_put (hX : OX X cc nL own Ts D cl tys A R) (j : Nat) {C ref : String} {T : u_T} {N ci index : Nat} {fs : List Value} {a : Nat} {v : Value} {ty : FieldType} (hin : ∀ w ∈ u_ws C T N, w ∈ Ts) (ty0 : Nat → FieldType) (hty : ∀ k, k < N → parseFieldDescriptor (T k).2.2.1 = some (ty0 k)) (hnm : ∀ a, a < N → ∀ b, b < N → a ≠ b → (T a).2.1 ≠ (T b).2.1) (hj : dom j) (ha : loc j = a) (he : val j = .inr (ci, fs)) (hc : cl[ci]? = some (C, T, N)) (k : Nat) (hk : k < N) (hlink : Cond.fieldLink own index ref (T k).2.1 (T k).2.2.1 ∈ Ts) (href : (T k).1 = ref) (hfin : (T k).2.2.2 = false) (ht : ty0 k = ty) (hn : narrow ty v = v) (hfit : fits ty v = true) (hlen : k < fs.length) (hd : decode cc pc = .ok (.putfield index, 3))
    (kk : V X D cl A dom loc (va_up val j (.inr (ci, fs.set k v))) cells slots (pc + 3) lv st) : V X D cl A dom loc val cells slots pc lv (v :: .ref a :: st) := fun H locs ls hW hS hl => by
  subst ha
  subst href
  obtain ⟨ks, h1, hP, hD⟩ := hW
  obtain ⟨i, i1, i2⟩ := kl_get (loc := loc) (val := val) ((h1 j).mp hj)
  refine va_put hX.1 hX.2.1 hX.2.2.2.2.1 hin ty0 hty hnm hX.2.2.2.1 hX.2.2.2.2.2.1 hP hD hS i (by rw [i2, he]) hc k hk (hX.2.2.2.2.1 _ hlink) (fun _ h9 => h9) hfin (by rw [← ht]; exact hty k hk) hn hfit hlen hd (fun H1 locs1 hP1 hD1 hS1 => ?_)
  rw [kl_set hD i1] at hP1 hD1
  exact kk H1 locs1 ls ⟨ks, h1, hP1, hD1⟩ hS1 hl
theorem v_putF (hX : OX X cc nL own Ts D cl tys A R) (j : Nat) {C : String} {T : u_T} {N ci index : Nat} {fs : List Value} {a : Nat} {v : Value} {ty : FieldType} (hin : ∀ w ∈ u_ws C T N, w ∈ Ts) (ty0 : Nat → FieldType) (hty : ∀ k, k < N → parseFieldDescriptor (T k).2.2.1 = some (ty0 k)) (hnm : ∀ a, a < N → ∀ b, b < N → a ≠ b → (T a).2.1 ≠ (T b).2.1) (hinit : (xM X).name = "<init>") (hj : dom j) (ha : loc j = a) (he : val j = .inr (ci, fs)) (hc : cl[ci]? = some (C, T, N)) (k : Nat) (hk : k < N) (hlink : Cond.fieldLink own index own (T k).2.1 (T k).2.2.1 ∈ Ts) (href : (T k).1 = own) (hfin : (T k).2.2.2 = true) (ht : ty0 k = ty) (hn : narrow ty v = v) (hfit : fits ty v = true) (hlen : k < fs.length) (hd : decode cc pc = .ok (.putfield index, 3))
    (kk : V X D cl A dom loc (va_up val j (.inr (ci, fs.set k v))) cells slots (pc + 3) lv st) : V X D cl A dom loc val cells slots pc lv (v :: .ref a :: st) := fun H locs ls hW hS hl => by
  subst ha
  obtain ⟨ks, h1, hP, hD⟩ := hW
  obtain ⟨i, i1, i2⟩ := kl_get (loc := loc) (val := val) ((h1 j).mp hj)
  refine va_putF (ref := own) hX.1 hX.2.1 hX.2.2.2.2.1 hin ty0 hty hnm hX.2.2.2.1 hX.2.2.2.2.2.1 hP hD hS i (by rw [i2, he]) hc k hk (hX.2.2.2.2.1 _ hlink) (fun _ h9 => by rw [href] at h9; exact h9) hfin hinit href (by rw [← ht]; exact hty k hk) hn hfit hlen hd (fun H1 locs1 hP1 hD1 hS1 => ?_)
  rw [kl_set hD i1] at hP1 hD1
  exact kk H1 locs1 ls ⟨ks, h1, hP1, hD1⟩ hS1 hl
theorem v_iald (hX : OX X cc nL own Ts D cl tys A R) (j t0 : Nat) {a : Nat} {cA : ClassId} {n : Nat} {f : Nat → Int32} {i : Int32} {v : Int32} (hj : dom j) (ha : loc j = a) (he : val j = .inl (cA, n, .inl f)) (ht : tys[t0]? = some (cA, .int)) (hin : vp_in i n) (hv : f i.toNatClampNeg = v) (hd : decode cc pc = .ok (.iaload, 1)) (kk : V X D cl A dom loc val cells slots (pc + 1) lv (.int v :: st)) : V X D cl A dom loc val cells slots pc lv (.int i :: .ref a :: st) := fun H locs ls hW hS hl => by
  subst ha
  subst hv
  have hP : va_P D cl [(loc j, .inl (cA, n, .inl f))] H := fun i q hq => by
    have hz : i < 1 := (List.getElem?_eq_some_iff.mp hq).1
    rw [show i = 0 by omega] at hq
    cases hq
    rw [← he]; exact hW.at_ hj
  exact va_iald hX.1 hX.2.1 hX.2.2.2.2.2.1 hP 0 t0 rfl ht hin hd (kk H locs ls hW hS hl)
theorem v_alen (hX : OX X cc nL own Ts D cl tys A R) (j t0 : Nat) {a : Nat} {cA : ClassId} {x : vp_A} {ty : FieldType} {v : Int32} (hj : dom j) (ha : loc j = a) (he : val j = .inl (cA, x)) (ht : tys[t0]? = some (cA, ty)) (hv : Int32.ofNat x.1 = v) (hd : decode cc pc = .ok (.arraylength, 1)) (kk : V X D cl A dom loc val cells slots (pc + 1) lv (.int v :: st)) : V X D cl A dom loc val cells slots pc lv (.ref a :: st) := fun H locs ls hW hS hl => by
  subst ha
  have hP : va_P D cl [(loc j, .inl (cA, x))] H := fun i q hq => by
    have hz : i < 1 := (List.getElem?_eq_some_iff.mp hq).1
    rw [show i = 0 by omega] at hq
    cases hq
    rw [← he]; exact hW.at_ hj
  exact va_alen hX.1 hX.2.1 hX.2.2.2.2.2.1 hP 0 t0 rfl ht hv hd (kk H locs ls hW hS hl)
theorem v_iast (hX : OX X cc nL own Ts D cl tys A R) (j t0 : Nat) {a : Nat} {cA : ClassId} {n : Nat} {f : Nat → Int32} {i x : Int32} (hj : dom j) (ha : loc j = a) (he : val j = .inl (cA, n, .inl f)) (ht : tys[t0]? = some (cA, .int)) (hin : vp_in i n) (hd : decode cc pc = .ok (.iastore, 1))
    (kk : V X D cl A dom loc (va_up val j (.inl (cA, n, .inl (upd f i.toNatClampNeg x)))) cells slots (pc + 1) lv st) : V X D cl A dom loc val cells slots pc lv (.int x :: .int i :: .ref a :: st) := fun H locs ls hW hS hl => by
  subst ha
  obtain ⟨ks, h1, hP, hD⟩ := hW
  obtain ⟨q, i1, i2⟩ := kl_get (loc := loc) (val := val) ((h1 j).mp hj)
  refine va_iast hX.1 hX.2.1 hX.2.2.2.2.2.1 hP hD hS q t0 (by rw [i2, he]) ht hin hd (fun H1 locs1 hP1 hD1 hS1 => ?_)
  rw [kl_set hD i1] at hP1 hD1
  exact kk H1 locs1 ls ⟨ks, h1, hP1, hD1⟩ hS1 hl
theorem v_aldq (hX : OX X cc nL own Ts D cl tys A R) (j t0 : Nat) {a : Nat} {cA : ClassId} {C : String} {n : Nat} {f : Nat → Option Nat} {i : Int32} (r : Option Nat) (hj : dom j) (ha : loc j = a) (he : val j = .inl (cA, n, .inr (.inr (.inr (.inr f))))) (ht : tys[t0]? = some (cA, .object C)) (hin : vp_in i n) (hr : f i.toNatClampNeg = r) (hd : decode cc pc = .ok (.aaload, 1)) (kk : V X D cl A dom loc val cells slots (pc + 1) lv (va_rf r :: st)) : V X D cl A dom loc val cells slots pc lv (.int i :: .ref a :: st) := fun H locs ls hW hS hl => by
  subst ha
  subst hr
  have hP : va_P D cl [(loc j, .inl (cA, n, .inr (.inr (.inr (.inr f)))))] H := fun i q hq => by
    have hz : i < 1 := (List.getElem?_eq_some_iff.mp hq).1
    rw [show i = 0 by omega] at hq
    cases hq
    rw [← he]; exact hW.at_ hj
  exact va_aldq hX.1 hX.2.1 hX.2.2.2.2.2.1 hP 0 t0 rfl ht hin hd (kk H locs ls hW hS hl)
theorem v_astq (hX : OX X cc nL own Ts D cl tys A R) (j t0 jv : Nat) {a b : Nat} {cA : ClassId} {rc : vw_C} {n ci : Nat} {vs : List Value} {f : Nat → Option Nat} {i : Int32} (hj : dom j) (ha : loc j = a) (he : val j = .inl (cA, n, .inr (.inr (.inr (.inr f))))) (ht : tys[t0]? = some (cA, .object rc.1)) (hjv : dom jv) (hb : loc jv = b) (hev : val jv = .inr (ci, vs)) (hc : cl[ci]? = some rc) (hin : vp_in i n) (hd : decode cc pc = .ok (.aastore, 1))
    (kk : V X D cl A dom loc (va_up val j (.inl (cA, n, .inr (.inr (.inr (.inr (va_up f i.toNatClampNeg (some b)))))))) cells slots (pc + 1) lv st) : V X D cl A dom loc val cells slots pc lv (.ref b :: .int i :: .ref a :: st) := fun H locs ls hW hS hl => by
  subst ha
  subst hb
  obtain ⟨ks, h1, hP, hD⟩ := hW
  obtain ⟨q, i1, i2⟩ := kl_get (loc := loc) (val := val) ((h1 j).mp hj)
  obtain ⟨q2, j1, j2⟩ := kl_get (loc := loc) (val := val) ((h1 jv).mp hjv)
  refine va_astq (r := rc) hX.1 hX.2.1 hX.2.2.2.2.2.1 hP hD hS q t0 q2 ci (by rw [i2, he]) ht (by rw [j2, hev]) hc hin hd (fun H1 locs1 hP1 hD1 hS1 => ?_)
  rw [kl_set hD i1] at hP1 hD1
  exact kk H1 locs1 ls ⟨ks, h1, hP1, hD1⟩ hS1 hl
/-- a new object, under the key j -/
theorem v_new (hX : OX X cc nL own Ts D cl tys A R) (j : Nat) (dom2 : Nat → Prop) {C : String} {T : u_T} {N ci index : Nat} {fs : List Value} (hin : ∀ w ∈ u_ws C T N, w ∈ Ts) (ty : Nat → FieldType) (hty : ∀ k, k < N → parseFieldDescriptor (T k).2.2.1 = some (ty k)) (hcl : Cond.classLink own index C ∈ Ts) (hinst : Cond.instantiable C N ∈ Ts) (hini : Cond.initialized C ∈ Ts) (hc : cl[ci]? = some (C, T, N)) (hfs : ∀ i, i < N → defaultValue (ty i) = vp_V fs i) (hcells : cells + 1 ≤ R.cells) (hslots : slots + N ≤ R.slots) (hd : decode cc pc = .ok (.new index, 3)) (hdm : ∀ i, dom2 i → i = j ∨ dom i) (hdj : dom2 j)
    (kk : ∀ q : Nat, (∀ i, dom i → loc i ≠ q) → V X D cl A dom2 (va_up loc j q) (va_up val j (.inr (ci, fs))) (cells + 1) (slots + N) (pc + 3) lv (.ref q :: st)) : V X D cl A dom loc val cells slots pc lv st := fun H locs ls hW hS hl => by
  have hx9 := hX.2.2.2.2.2.2.2.2.1
  have hP0 : va_P D cl [] H := fun i q h => by simp at h
  have hD0 : va_D A [] := ⟨fun i j p q h => by simp at h, fun i q h => by simp at h⟩
  have hKn := hX.2.2.2.2.2.1.1 ci _ hc
  refine W.newcK hX.1 hX.2.1 hX.2.2.2.1 (hX.2.2.2.2.1 _ hcl) (hX.2.2.2.2.1 _ hinst) (hX.2.2.2.2.1 _ hini) rfl hd (by rw [hx9]; exact hcells) (by rw [hx9]; exact hslots) hKn.2.1 rfl fun H1 kC hkC e1 z1 o1 => ?_
  have hAq : A H.size := hX.2.2.2.2.2.2.1 _ hS.1
  refine kk H.size (fun i hi hz => ?_) H1 locs ls (hW.new hdm hdj (fun ks hk hP hD => ⟨(hP.kept (fun i x hx => o1 x.1 ((hP i x hx).lt))).app (fun i x hx => ?_), hD.push hP rfl hAq⟩)) ⟨Nat.le_trans hS.1 (by omega), fun x h1 h2 => (o1 x (Nat.lt_of_lt_of_le h1 hS.1)).trans (hS.2.1 x h1 h2), hS.2.2⟩ hl
  · have := hW.lt hi
    omega
  · have hz : i < 1 := (List.getElem?_eq_some_iff.mp hx).1
    rw [show i = 0 by omega] at hx
    cases hx
    exact ⟨_, hc, (u_born ty hX.2.2.2.2.1 hin hKn hkC e1 hty).to hfs⟩
/-- a new array of ints, under the key j -/
theorem v_newi (hX : OX X cc nL own Ts D cl tys A R) (j t0 : Nat) (dom2 : Nat → Prop) {cA : ClassId} {n : Int32} {N : Nat} (harr : Cond.arrayClass .int ∈ Ts) (ht : tys[t0]? = some (cA, .int)) (hn : ¬ n < 0) (hN : n.toNatClampNeg = N) (hbytes : N * 4 ≤ 536870912) (hcells : cells + 1 ≤ R.cells) (hslots : slots + N ≤ R.slots) (hd : decode cc pc = .ok (.newarray .int, 2)) (hdm : ∀ i, dom2 i → i = j ∨ dom i) (hdj : dom2 j)
    (kk : ∀ q : Nat, (∀ i, dom i → loc i ≠ q) → V X D cl A dom2 (va_up loc j q) (va_up val j (.inl (cA, N, .inl (fun _ => 0)))) (cells + 1) (slots + N) (pc + 2) lv (.ref q :: st)) : V X D cl A dom loc val cells slots pc lv (.int n :: st) := fun H locs ls hW hS hl => by
  have hx9 := hX.2.2.2.2.2.2.2.2.1
  refine va_newaK (atype := .int) hX.1 hX.2.1 (hX.2.2.2.2.1 _ harr) rfl hd rfl hn hN hbytes (by rw [hx9]; exact hcells) (by rw [hx9]; exact hslots) rfl fun H1 cA' e1 z1 o1 hAr hNm => ?_
  have hcc : cA' = cA := by
    have h2 := (hX.2.2.2.2.2.1.2 t0 _ ht).2
    exact Option.some.inj (hNm.symm.trans h2)
  subst hcc
  have hAq : A H.size := hX.2.2.2.2.2.2.1 _ hS.1
  refine kk H.size (fun i hi hz => ?_) H1 locs ls (hW.new hdm hdj (fun ks hk hP hD => ⟨(hP.kept (fun i x hx => o1 x.1 ((hP i x hx).lt))).app (fun i x hx => ?_), hD.push hP rfl hAq⟩)) ⟨Nat.le_trans hS.1 (by omega), fun x h1 h2 => (o1 x (Nat.lt_of_lt_of_le h1 hS.1)).trans (hS.2.1 x h1 h2), hS.2.2⟩ hl
  · have := hW.lt hi
    omega
  · have hz : i < 1 := (List.getElem?_eq_some_iff.mp hx).1
    rw [show i = 0 by omega] at hx
    cases hx
    exact e1
theorem v_widen {k n : Nat} (h1 : cells ≤ k) (h2 : slots ≤ n) (kk : V X D cl A dom loc val k n pc lv st) : V X D cl A dom loc val cells slots pc lv st := fun H locs ls hW hS hl => W.widen h1 h2 (kk H locs ls hW hS hl)
/-- fewer keys, other names for what is under them -/
theorem v_ext {dom2 : Nat → Prop} {loc2 : Nat → Nat} {val2 : Nat → va_E} (hd : ∀ k, dom2 k → dom k) (hlo : ∀ k, dom2 k → loc2 k = loc k) (hva : ∀ k, dom2 k → val2 k = val k) (kk : V X D cl A dom2 loc2 val2 cells slots pc lv st) : V X D cl A dom loc val cells slots pc lv st := fun H locs ls hW hS hl => kk H locs ls (hW.ext hd hlo hva) hS hl

end KB2
section KB3
theorem nsl_add {H0 H1 : Heap} {sz : Nat} (hk : szk H0 H1) (hs : sz ≤ H0.size) : nsl sz H1 = nsl sz H0 + nsl H0.size H1 := by
  obtain ⟨h1, h2⟩ := hk
  unfold nsl
  have e0 : H1.toList.drop sz = (H1.toList.drop sz).take (H0.size - sz) ++ H1.toList.drop H0.size := by
    have h := (List.take_append_drop (H0.size - sz) (H1.toList.drop sz)).symm
    rw [List.drop_drop] at h
    rw [show sz + (H0.size - sz) = H0.size by omega] at h
    exact h
  rw [e0, List.map_append, List.sum_append]
  congr 1
  congr 1
  apply List.ext_getElem?
  intro i
  rw [List.getElem?_map, List.getElem?_map]
  by_cases hi : i < H0.size - sz
  · rw [List.getElem?_take_of_lt hi, List.getElem?_drop, List.getElem?_drop, Array.getElem?_toList, Array.getElem?_toList]
    have hlt : sz + i < H0.size := by omega
    obtain ⟨c', q1, q2⟩ := h2 (sz + i) _ (Array.getElem?_eq_getElem hlt)
    rw [q1, Array.getElem?_eq_getElem hlt]
    simp [q2]
  · rw [List.getElem?_eq_none (by simp; omega), List.getElem?_eq_none (by simp; omega)]
theorem szk.rf {H : Heap} : szk H H := ⟨Nat.le_refl _, fun _ c hc => ⟨c, hc, rfl⟩⟩
theorem szk.trans {H0 H1 H2 : Heap} (h : szk H0 H1) (h2 : szk H1 H2) : szk H0 H2 := ⟨Nat.le_trans h.1 h2.1, fun a c hc => by
  obtain ⟨c1, q1, q2⟩ := h.2 a c hc
  obtain ⟨c2, q3, q4⟩ := h2.2 a c1 q1
  exact ⟨c2, q3, q4.trans q2⟩⟩
theorem stand_szk {p : Program} {l : Launch} {e : Env} {R : Room} {s : State} {m : MethodId} {args : Array Value} {below : List Frame} {meth : Method} {c : Code} {T : State} {locs : List Loc} {cells slots : Nat} (Z : Stand p l e R s m args below meth c T locs cells slots) : szk s.heap T.heap ∧ T.heap.size ≤ s.heap.size + cells ∧ nsl s.heap.size T.heap ≤ slots := by
  obtain ⟨h1, h2, h3, h4, h5, h6⟩ := Z.same
  exact ⟨⟨h2, fun a c hc => by obtain ⟨c', q1, q2, q3, q4⟩ := h6 a c hc; exact ⟨c', q1, q3⟩⟩, h3, h5⟩
theorem stand_to {p : Program} {l : Launch} {e : Env} {R : Room} {s : State} {m : MethodId} {args : Array Value} {below : List Frame} {meth : Method} {c : Code} {T : State} {locs : List Loc} {cells slots k n : Nat} (Z : Stand p l e R s m args below meth c T locs cells slots) (h1 : T.heap.size ≤ s.heap.size + k) (h2 : nsl s.heap.size T.heap ≤ n) : Stand p l e R s m args below meth c T locs k n := by
  obtain ⟨a1, a2, a3, a4, a5, a6⟩ := Z.same
  exact { Z with same := ⟨a1, a2, h1, a4, h2, a6⟩ }
/-- a contract's start and end, by worlds -/
def kP (D : va_G) (cl : List vw_C) (tys : List (ClassId × FieldType)) (A : Nat → Prop) (av : List Value) (dom : Nat → Prop) (loc : Nat → Nat) (val : Nat → va_E) : Array Value → State → Prop := va_Pc av (fun U => KW D cl A dom loc val U.heap ∧ va_K D cl tys U ∧ (∀ q, U.heap.size ≤ q → A q) ∧ kN A U)
abbrev kT : Type := Option Value → (Nat → Prop) → (Nat → Nat) → (Nat → va_E) → Nat → Nat → Prop
def kQ (D : va_G) (cl : List vw_C) (A : Nat → Prop) (Post : kT) : Array Value → State → Outcome → State → Prop := fun _ st oc t => ∃ (rv : Option Value) (dom : Nat → Prop) (loc : Nat → Nat) (val : Nat → va_E) (k n : Nat), oc = .returned rv ∧ KW D cl A dom loc val t.heap ∧ Post rv dom loc val k n ∧ szk st.heap t.heap ∧ t.heap.size ≤ st.heap.size + k ∧ nsl st.heap.size t.heap ≤ n ∧ va_F A st t
abbrev kM (l : Launch) (y : MethodName) (ws : List Cond) (rm : Room) (D : va_G) (cl : List vw_C) (tys : List (ClassId × FieldType)) (A : Nat → Prop) (av : List Value) (dom : Nat → Prop) (loc : Nat → Nat) (val : Nat → va_E) (Post : kT) : Prop := Met l y ws rm (kP D cl tys A av dom loc val) (kQ D cl A Post) rm.cells rm.slots A
theorem kP.blind {D : va_G} {cl : List vw_C} {tys : List (ClassId × FieldType)} {A : Nat → Prop} {av : List Value} {dom : Nat → Prop} {loc : Nat → Nat} {val : Nat → va_E} : FrameBlind (kP D cl tys A av dom loc val) := fun a U g mk q => by
  obtain ⟨q0, qP, qK, qA, qN⟩ := q
  exact ⟨q0, qP, va_K.moved (u := U) (U := U.calling g mk a) (Vm.Alike.refl U.vm) qK, qA, qN.move (U := U.calling g mk a) (State.WarmedH.refl U) (Nat.le_refl _) (fun _ _ _ => rfl)⟩
theorem kM.to {l : Launch} {y : MethodName} {ws : List Cond} {rm : Room} {D : va_G} {cl : List vw_C} {tys : List (ClassId × FieldType)} {A : Nat → Prop} {av : List Value} {dom : Nat → Prop} {loc : Nat → Nat} {val : Nat → va_E} {Post Post2 : kT} (h : kM l y ws rm D cl tys A av dom loc val Post) (hq : ∀ rv d lo va k n, Post rv d lo va k n → Post2 rv d lo va k n) : kM l y ws rm D cl tys A av dom loc val Post2 := by
  intro p e ha hc hk s m args below hf1 happ hp hK
  obtain ⟨n, o, h1, h2, h3, ⟨rv, d, lo, va, k, n2, g1, g2, g3, g4⟩, h5⟩ := h p e ha hc hk s m args below hf1 happ hp hK
  exact ⟨n, o, h1, h2, h3, ⟨rv, d, lo, va, k, n2, g1, g2, hq _ _ _ _ _ _ g3, g4⟩, h5⟩
def EX (X : KX) (ret : Option FieldType) (D : va_G) (cl : List vw_C) (A : Nat → Prop) (Post : kT) (mc ms : Nat) : Prop := (xM X).sig.returnType = ret ∧ ∀ t, MQ (xb X) (kQ D cl A Post) (xa X) (xs X) mc ms A t → xQ X t
variable {X : KX} {cc : ByteArray} {nL : Nat} {own : String} {Ts : List Cond} {D : va_G} {cl : List vw_C} {tys : List (ClassId × FieldType)} {A : Nat → Prop} {R : Room} {dom : Nat → Prop} {loc : Nat → Nat} {val : Nat → va_E} {cells slots pc : Nat} {lv : List (Option Value)} {st : List Value} {Post : kT} {mc ms : Nat} {ret : Option FieldType}
theorem k_q {H : Heap} {locs : List Loc} {rv : Option Value} {T : State} (hW : KW D cl A dom loc val H) (hS : va_S A (xs X).heap H locs) (hT : T.heap = H) (Z : Stand X.1 X.2.1 X.2.2.1 (xR X) (xs X) (xm X) (xa X) (xb X) (xM X) (xc X) T locs cells slots) (hp : Post rv dom loc val cells slots) : ∀ t : State, t.heap = H → (xs X).WarmedH t.vm → kQ D cl A Post (xa X) (xs X) (.returned rv) t := fun t ht _ => by
  obtain ⟨z1, z2, z3⟩ := stand_szk Z
  rw [hT] at z1 z2 z3
  exact ⟨rv, dom, loc, val, cells, slots, rfl, by rw [ht]; exact hW, hp, by rw [ht]; exact z1, by rw [ht]; exact z2, by rw [ht]; exact z3, hS.F ht⟩

theorem v_iret (hX : OX X cc nL own Ts D cl tys A R) (hE : EX X (some .int) D cl A Post mc ms) {v : Int32} (hd : decode cc pc = .ok (.ireturn, 1)) (hc : cells ≤ mc) (hs : slots ≤ ms) (hp : Post (some (.int v)) dom loc val cells slots) : V X D cl A dom loc val cells slots pc lv [.int v] := fun H locs ls hW hS hl => by
  intro T hT Z
  obtain ⟨t9, a9, b9⟩ := W.widen hc hs (W.iret hX.1 hX.2.1 hE.1 (k_q hW hS hT Z hp) hS.2.2 hd hX.2.2.2.2.2.2.2.1) T hT Z
  exact ⟨t9, a9, hE.2 t9 b9⟩
theorem v_zret (hX : OX X cc nL own Ts D cl tys A R) (hE : EX X (some .boolean) D cl A Post mc ms) {v : Int32} (hn : narrow .boolean (.int v) = .int v) (hd : decode cc pc = .ok (.ireturn, 1)) (hc : cells ≤ mc) (hs : slots ≤ ms) (hp : Post (some (.int v)) dom loc val cells slots) : V X D cl A dom loc val cells slots pc lv [.int v] := fun H locs ls hW hS hl => by
  intro T hT Z
  obtain ⟨t9, a9, b9⟩ := W.widen hc hs (W.zret hX.1 hX.2.1 hE.1 hn (k_q hW hS hT Z hp) hS.2.2 hd hX.2.2.2.2.2.2.2.1) T hT Z
  exact ⟨t9, a9, hE.2 t9 b9⟩
theorem v_aret (hX : OX X cc nL own Ts D cl tys A R) {C : String} (hE : EX X (some (.object C)) D cl A Post mc ms) (r : Option Nat) (hd : decode cc pc = .ok (.areturn, 1)) (hc : cells ≤ mc) (hs : slots ≤ ms) (hp : Post (some (va_rf r)) dom loc val cells slots) : V X D cl A dom loc val cells slots pc lv [va_rf r] := fun H locs ls hW hS hl => by
  intro T hT Z
  obtain ⟨t9, a9, b9⟩ := W.widen hc hs (W.aret hX.1 hX.2.1 hE.1 (Or.inl ⟨C, rfl⟩) (va_rf_or r) (k_q hW hS hT Z hp) hS.2.2 hd hX.2.2.2.2.2.2.2.1) T hT Z
  exact ⟨t9, a9, hE.2 t9 b9⟩
theorem v_vret (hX : OX X cc nL own Ts D cl tys A R) (hE : EX X none D cl A Post mc ms) (hd : decode cc pc = .ok (.return_, 1)) (hc : cells ≤ mc) (hs : slots ≤ ms) (hp : Post none dom loc val cells slots) : V X D cl A dom loc val cells slots pc lv [] := fun H locs ls hW hS hl => by
  intro T hT Z
  obtain ⟨t9, a9, b9⟩ := W.widen hc hs (W.vret hX.1 hX.2.1 hE.1 (k_q hW hS hT Z hp) hS.2.2 hd hX.2.2.2.2.2.2.2.1) T hT Z
  exact ⟨t9, a9, hE.2 t9 b9⟩
theorem v_back {mc ms : Nat} {a : Array Value} {st0 rest : List Value}
    (hr : ∀ (H : Heap) (locs : List Loc) (ls : Array Slot), KW D cl A dom loc val H → va_S A (xs X).heap H locs → lvh ls lv → va_Run X.1 X.2.1 X.2.2.1 (xR X) (xs X) (xm X) (xa X) (xb X) (xM X) (xc X) H locs cells slots mc ms (F0 (xm X) pc ls st0) rest (kQ D cl A Post a) A)
    (kk : ∀ (rv : Option Value) (dom2 : Nat → Prop) (loc2 : Nat → Nat) (val2 : Nat → va_E) (k n : Nat), Post rv dom2 loc2 val2 k n → V X D cl A dom2 loc2 val2 (cells + k) (slots + n) (pc + 3) lv (rv.toList ++ rest)) : V X D cl A dom loc val cells slots pc lv st0 := by
  intro H locs ls hW hS hl T hT Z
  obtain ⟨v, st₀, t, T', L, h0, Z', hL, e1, e2, ⟨rv, d2, l2, v2, k, n, hv, hKW, hpost, hszk, hz1, hz2, hF⟩, stp⟩ := hr H locs ls hW hS hl T hT Z
  cases hv
  obtain ⟨z1, z2, z3⟩ := stand_szk Z
  rw [hT] at z1 z2 z3
  rw [h0] at hszk hz1 hz2
  have hF1 := hF.1
  have hF2 := hF.2
  rw [h0] at hF1 hF2
  have g1 : T'.heap.size ≤ (xs X).heap.size + (cells + k) := by rw [e1]; omega
  have g2 : nsl (xs X).heap.size T'.heap ≤ slots + n := by
    rw [e1, nsl_add hszk z1.1]; omega
  obtain ⟨t2, a1, b1⟩ := kk v d2 l2 v2 k n hpost T'.heap (locs ++ L) ls (by rw [e1]; exact hKW)
    ⟨Nat.le_trans hS.1 (by rw [e1]; exact hF1), fun q h1 h2 => by rw [e1, hF2 q (Nat.lt_of_lt_of_le h1 hS.1) h2]; exact hS.2.1 q h1 h2, fun q hq => by
      rcases List.mem_append.mp hq with h | h
      · exact hS.2.2 q h
      · exact hL q h⟩ hl T' rfl (stand_to Z' g1 g2)
  exact ⟨t2, stp t2 a1, b1⟩
theorem k_pre (hX : OX X cc nL own Ts D cl tys A R) {H : Heap} {locs : List Loc} {av : List Value} (hW : KW D cl A dom loc val H) (hS : va_S A (xs X).heap H locs) : ∀ U : State, U.heap = H → (xs X).WarmedH U.vm → kP D cl tys A av dom loc val av.toArray U := fun U hU hWm =>
  ⟨rfl, by rw [hU]; exact hW, va_K.moved hWm.alike hX.2.2.2.2.2.1, fun q hq => hX.2.2.2.2.2.2.1 q (Nat.le_trans hS.1 (by rw [hU] at hq; exact hq)), hX.2.2.2.2.2.2.2.2.2.move hWm (by rw [hU]; exact hS.1) (fun q h1 h2 => by rw [hU]; exact hS.2.1 q h1 h2)⟩
theorem k_recv (hX : OX X cc nL own Ts D cl tys A R) {H : Heap} (hW : KW D cl A dom loc val H) {j ci : Nat} {rc : vw_C} {fs : List Value} (hj : dom j) (he : val j = .inr (ci, fs)) (hc : cl[ci]? = some rc) : ∃ cell : Cell, H[loc j]? = some cell ∧ cell.vm.isStatics = false ∧ (xs X).vm.findClass rc.1 = some cell.cls := by
  have h := hW.at_ hj
  rw [he] at h
  obtain ⟨q2, h1, cell, g1, g2, g3, -⟩ := h
  exact ⟨cell, g1, by rw [g3]; rfl, by rw [g2]; exact (hX.2.2.2.2.2.1.1 ci rc hc).2.1⟩
/-- the words of a call: what the callee's own words are among ours, its room fits ours -/
theorem v_callV (hX : OX X cc nL own Ts D cl tys A R) (j : Nat) {l : Launch} {y : MethodName} {ws : List Cond} {rm : Room} {bytes : ByteArray} {maxL n index ci : Nat} {ret : Option FieldType} {rc : vw_C} {fs : List Value} {a : Nat} {As rest : List Value} (hl9 : X.2.1 = l) (hM : kM l y ws rm D cl tys A (.ref a :: As) dom loc val Post) (cw : CallW (xR X) (xs X) (xa X) own rc.1 index y bytes maxL ret ws rm rm.cells rm.slots n) (hj : dom j) (ha : loc j = a) (he : val j = .inr (ci, fs)) (hc : cl[ci]? = some rc) (hn : As.length = n) (hlv : lv.length = nL) (hroom : (rest.map fun v => v.category).sum ≤ 8) (hd : decode cc pc = .ok (.invokevirtual index, 3)) (hf : cells + rm.cells ≤ R.cells ∧ slots + rm.slots ≤ R.slots)
    (kk : ∀ (rv : Option Value) (dom2 : Nat → Prop) (loc2 : Nat → Nat) (val2 : Nat → va_E) (k n : Nat), Post rv dom2 loc2 val2 k n → V X D cl A dom2 loc2 val2 (cells + k) (slots + n) (pc + 3) lv (rv.toList ++ rest)) : V X D cl A dom loc val cells slots pc lv (As.reverse ++ .ref a :: rest) := by
  subst ha
  subst hl9
  have hx9 := hX.2.2.2.2.2.2.2.2.1
  exact v_back (fun H locs ls hW hS hl => va_runV ⟨hX.1, hX.2.1, hX.2.2.1, hX.2.2.2.1, hX.2.2.2.2.1⟩ hM cw ⟨kP.blind, k_recv hX hW hj he hc, k_pre hX hW hS⟩ rfl hn (hl.1.trans hlv) rfl (by show 2 * 0 + _ ≤ 8; omega) hd (by rw [hx9]; exact hf)) kk
theorem v_callS (hX : OX X cc nL own Ts D cl tys A R) {l : Launch} {y : MethodName} {ws : List Cond} {rm : Room} {bytes : ByteArray} {maxL n index : Nat} {ret : Option FieldType} {As rest : List Value} (hl9 : X.2.1 = l) (hM : kM l y ws rm D cl tys A As dom loc val Post) (cw : CallB (xR X) (xs X) (xa X) own index y bytes maxL ret ws rm rm.cells rm.slots n ∧ (Cond.static y).before (xa X) (xs X) = true) (hn : As.length = n) (hlv : lv.length = nL) (hroom : (rest.map fun v => v.category).sum ≤ 8) (hd : decode cc pc = .ok (.invokestatic index, 3)) (hf : cells + rm.cells ≤ R.cells ∧ slots + rm.slots ≤ R.slots)
    (kk : ∀ (rv : Option Value) (dom2 : Nat → Prop) (loc2 : Nat → Nat) (val2 : Nat → va_E) (k n : Nat), Post rv dom2 loc2 val2 k n → V X D cl A dom2 loc2 val2 (cells + k) (slots + n) (pc + 3) lv (rv.toList ++ rest)) : V X D cl A dom loc val cells slots pc lv (As.reverse ++ rest) := by
  subst hl9
  have hx9 := hX.2.2.2.2.2.2.2.2.1
  exact v_back (fun H locs ls hW hS hl => va_runS ⟨hX.1, hX.2.1, hX.2.2.1, hX.2.2.2.1, hX.2.2.2.2.1⟩ hM cw ⟨kP.blind, k_pre hX hW hS⟩ rfl hn (hl.1.trans hlv) rfl (by show 2 * 0 + _ ≤ 8; omega) hd (by rw [hx9]; exact hf)) kk
theorem v_callI (hX : OX X cc nL own Ts D cl tys A R) {l : Launch} {y : MethodName} {ws : List Cond} {rm : Room} {bytes : ByteArray} {maxL n index : Nat} {a : Nat} {As rest : List Value} (hl9 : X.2.1 = l) (hM : kM l y ws rm D cl tys A (.ref a :: As) dom loc val Post) (cw : CallB (xR X) (xs X) (xa X) own index y bytes maxL none ws rm rm.cells rm.slots n ∧ y.name = "<init>" ∧ (Cond.instanceMethod y).before (xa X) (xs X) = true) (hn : As.length = n) (hlv : lv.length = nL) (hroom : (rest.map fun v => v.category).sum ≤ 8) (hd : decode cc pc = .ok (.invokespecial index, 3)) (hf : cells + rm.cells ≤ R.cells ∧ slots + rm.slots ≤ R.slots)
    (kk : ∀ (rv : Option Value) (dom2 : Nat → Prop) (loc2 : Nat → Nat) (val2 : Nat → va_E) (k n : Nat), Post rv dom2 loc2 val2 k n → V X D cl A dom2 loc2 val2 (cells + k) (slots + n) (pc + 3) lv (rv.toList ++ rest)) : V X D cl A dom loc val cells slots pc lv (As.reverse ++ .ref a :: rest) := by
  subst hl9
  have hx9 := hX.2.2.2.2.2.2.2.2.1
  exact v_back (fun H locs ls hW hS hl => va_runI ⟨hX.1, hX.2.1, hX.2.2.1, hX.2.2.2.1, hX.2.2.2.2.1⟩ hM cw ⟨kP.blind, k_pre hX hW hS⟩ rfl hn (hl.1.trans hlv) rfl (by show 2 * 0 + _ ≤ 8; omega) hd (by rw [hx9]; exact hf)) kk
theorem v_callIN (hX : OX X cc nL own Ts D cl tys A R) {l : Launch} {y : MethodName} {ws : List Cond} {rm : Room} {bytes : ByteArray} {maxL n index : Nat} {host : String} {a : Nat} {As rest : List Value} (hl9 : X.2.1 = l) (hM : kM l y ws rm D cl tys A (.ref a :: As) dom loc val Post) (cw : va_CN (xR X) (xs X) (xa X) own index y host bytes maxL none ws rm rm.cells rm.slots n ∧ y.name = "<init>" ∧ (Cond.instanceMethod y).before (xa X) (xs X) = true) (hn : As.length = n) (hlv : lv.length = nL) (hroom : (rest.map fun v => v.category).sum ≤ 8) (hd : decode cc pc = .ok (.invokespecial index, 3)) (hf : cells + rm.cells ≤ R.cells ∧ slots + rm.slots ≤ R.slots)
    (kk : ∀ (rv : Option Value) (dom2 : Nat → Prop) (loc2 : Nat → Nat) (val2 : Nat → va_E) (k n : Nat), Post rv dom2 loc2 val2 k n → V X D cl A dom2 loc2 val2 (cells + k) (slots + n) (pc + 3) lv (rv.toList ++ rest)) : V X D cl A dom loc val cells slots pc lv (As.reverse ++ .ref a :: rest) := by
  subst hl9
  have hx9 := hX.2.2.2.2.2.2.2.2.1
  exact v_back (fun H locs ls hW hS hl => va_runIN ⟨hX.1, hX.2.1, hX.2.2.1, hX.2.2.2.1, hX.2.2.2.2.1⟩ hM cw ⟨kP.blind, k_pre hX hW hS⟩ rfl hn (hl.1.trans hlv) rfl (by show 2 * 0 + _ ≤ 8; omega) hd (by rw [hx9]; exact hf)) kk
theorem v_callSN (hX : OX X cc nL own Ts D cl tys A R) {l : Launch} {y : MethodName} {ws : List Cond} {rm : Room} {bytes : ByteArray} {maxL n index : Nat} {host : String} {ret : Option FieldType} {As rest : List Value} (hl9 : X.2.1 = l) (hM : kM l y ws rm D cl tys A As dom loc val Post) (cw : va_CN (xR X) (xs X) (xa X) own index y host bytes maxL ret ws rm rm.cells rm.slots n ∧ (Cond.static y).before (xa X) (xs X) = true ∧ True) (hn : As.length = n) (hlv : lv.length = nL) (hroom : (rest.map fun v => v.category).sum ≤ 8) (hd : decode cc pc = .ok (.invokestatic index, 3)) (hf : cells + rm.cells ≤ R.cells ∧ slots + rm.slots ≤ R.slots)
    (kk : ∀ (rv : Option Value) (dom2 : Nat → Prop) (loc2 : Nat → Nat) (val2 : Nat → va_E) (k n : Nat), Post rv dom2 loc2 val2 k n → V X D cl A dom2 loc2 val2 (cells + k) (slots + n) (pc + 3) lv (rv.toList ++ rest)) : V X D cl A dom loc val cells slots pc lv (As.reverse ++ rest) := by
  subst hl9
  have hx9 := hX.2.2.2.2.2.2.2.2.1
  exact v_back (fun H locs ls hW hS hl => va_runSN ⟨hX.1, hX.2.1, hX.2.2.1, hX.2.2.2.1, hX.2.2.2.2.1⟩ hM cw ⟨kP.blind, k_pre hX hW hS⟩ rfl hn (hl.1.trans hlv) rfl (by show 2 * 0 + _ ≤ 8; omega) hd (by rw [hx9]; exact hf)) kk
/-- Object's constructor -/
theorem v_objInit (hX : OX X cc nL own Ts D cl tys A R) {a index : Nat} (hl1 : Cond.methodLink own index objectInit ∈ Ts) (hl2 : Cond.instanceMethod objectInit ∈ Ts) (hl3 : Cond.code objectInit ⟨#[0xb1]⟩ 1 none ∈ Ts) (hfr : 1 ≤ R.frames ∧ 32 ≤ R.locals) (hlv : lv.length = nL) (hroom : (st.map fun v => v.category).sum ≤ 8) (hd : decode cc pc = .ok (.invokespecial index, 3)) (kk : V X D cl A dom loc val cells slots (pc + 3) lv st) : V X D cl A dom loc val cells slots pc lv (.ref a :: st) := fun H locs ls hW hS hl => by
  have hx9 := hX.2.2.2.2.2.2.2.2.1
  exact W.objInit hX.1 hX.2.1 hX.2.2.2.1 (hX.2.2.2.2.1 _ hl1) (hX.2.2.2.2.1 _ hl2) (hX.2.2.2.2.1 _ hl3) rfl (by rw [hX.2.2.1]; exact hl.1.trans hlv) rfl hd (by rw [hx9]; exact hfr.1) (by rw [hx9]; show 2 * 0 + _ + 12 ≤ _; omega) (kk H locs ls hW hS hl)
theorem lv_args_mem : ∀ (vs : List Value) (b i : Nat) (v : Value), (∀ w ∈ vs, w.category = 1) → vs[i]? = some v → (b + i, v) ∈ lv_args b vs
  | [], _, _, _, _, h => by simp at h
  | w :: vs, b, 0, v, _, h => by
    simp at h
    subst h
    exact List.mem_cons_self
  | w :: vs, b, i + 1, v, hc, h => by
    have hcw : w.category = 1 := hc w List.mem_cons_self
    have h1 := lv_args_mem vs (b + 1) i v (fun z hz => hc z (List.mem_cons_of_mem _ hz)) (by simpa using h)
    rw [show b + (i + 1) = b + 1 + i by omega]
    show _ ∈ (b, w) :: lv_args (if w.category = 2 then b + 2 else b + 1) vs
    rw [if_neg (by omega)]
    exact List.mem_cons_of_mem _ h1
/-- A CONTRACT out of the walk of its body -/
theorem kM.ofV {l : Launch} {y : MethodName} {ws ws' : List Cond} {rm : Room} {maxL : Nat} {av : List Value} {lv0 : List (Option Value)} (hy : plainName y.cls = true) (hw : ws = Cond.code y cc maxL ret :: ws') (hcat : ∀ w ∈ av, w.category = 1) (hlen : (lg_sl av).length ≤ maxL) (hl0 : lv0 = av.map some ++ List.replicate (maxL - av.length) none) (hl1 : av.length ≤ maxL)
    (body : ∀ X : KX, X.2.1 = l → OX X cc maxL y.cls ws D cl tys A rm → EX X ret D cl A Post rm.cells rm.slots → (xM X).name = y.name → V X D cl A dom loc val 0 0 0 lv0 []) : kM l y ws rm D cl tys A av dom loc val Post := by
  refine Met.ofW (cc := cc) (maxL := maxL) (ret := ret) hy hw ?_
  intro p e s m args below meth c s₁ B hml hv
  obtain ⟨rfl, hKW, hK, hA, hN⟩ := hv
  have hX : OX (p, l, e, rm, s, m, av.toArray, below, meth, c, MQ below (kQ D cl A Post) av.toArray s rm.cells rm.slots A) cc maxL y.cls ws D cl tys A rm :=
    ⟨B.exec, B.bytes, hml, findClass_of_methodNamed B.named, atoms_spec (ws := ws) B.pre, hK, hA, B.notSynchronized, rfl, hN⟩
  have h := body (p, l, e, rm, s, m, av.toArray, below, meth, c, MQ below (kQ D cl A Post) av.toArray s rm.cells rm.slots A) rfl hX ⟨B.returns, fun _ h => h⟩ (name_of_methodNamed B.named B.method).1
  have hl := lv_entry av (n := maxL) hlen
  rw [lg_entry_eq]
  generalize (lg_sl av ++ List.replicate (maxL - (lg_sl av).length) Slot.unset).toArray = ls at hl ⊢
  refine h s.heap [] ls hKW va_S.rf ⟨?_, hl.2.1, fun i v hi => ?_⟩
  · rw [hl.1, hl0]; simp; omega
  · rw [hl0] at hi
    have hi2 : av[i]? = some v := by
      by_cases hq : i < av.length
      · rw [List.getElem?_append_left (by simpa using hq)] at hi
        simpa using hi
      · rw [List.getElem?_append_right (by simpa using Nat.le_of_not_lt hq)] at hi
        have hr := List.mem_of_getElem? hi
        simp at hr
    have hm := lv_args_mem av 0 i v hcat hi2
    rw [Nat.zero_add] at hm
    exact ⟨hl.2.2 (i, v) hm, hcat v (List.mem_of_getElem? hi2)⟩
end KB3
end
section
section KM1
variable {X : KX} {cc : ByteArray} {nL : Nat} {own : String} {Ts : List Cond} {D : va_G} {cl : List vw_C} {tys : List (ClassId × FieldType)} {A : Nat → Prop} {R : Room} {dom : Nat → Prop} {loc : Nat → Nat} {val : Nat → va_E} {cells slots pc : Nat} {lv : List (Option Value)} {st : List Value}
theorem KW.one {H : Heap} (hW : KW D cl A dom loc val H) {j : Nat} (hj : dom j) {e : va_E} (he : val j = e) : va_P D cl [(loc j, e)] H := fun i q hq => by
  have hz : i < 1 := (List.getElem?_eq_some_iff.mp hq).1
  rw [show i = 0 by omega] at hq
  cases hq
  rw [← he]; exact hW.at_ hj
/-- keys below n -/
def kd (n k : Nat) : Prop := k < n
theorem kd_step (n : Nat) : ∀ i, kd (n + 1) i → i = n ∨ kd n i := fun i h => by unfold kd at *; omega
theorem kd_self (n : Nat) : kd (n + 1) n := Nat.lt_succ_self n
theorem kd_b {n j : Nat} (h : Nat.ble (j + 1) n = true) : kd n j := Nat.le_of_ble_eq_true h
/-- a new array of a plain type, under the key j -/
theorem v_newp (hX : OX X cc nL own Ts D cl tys A R) (j t0 : Nat) (dom2 : Nat → Prop) {atype : ArrayType} {ty : FieldType} {cA : ClassId} {n : Int32} {N : Nat} (a0 : vp_A) (hty : newarray.typeOf atype = ty) (ha : ∀ cA : ClassId, vp_cell cA a0 = arrV cA N (fun _ => defaultValue ty)) (hra : ∀ U : State, va_RA U cA ty → U.vm.findClass ("[" ++ ty.toString) = some cA) (harr : Cond.arrayClass ty ∈ Ts) (ht : tys[t0]? = some (cA, ty)) (hn : ¬ n < 0) (hN : n.toNatClampNeg = N) (hbytes : N * componentBytes ty ≤ 536870912) (hcells : cells + 1 ≤ R.cells) (hslots : slots + N ≤ R.slots) (hd : decode cc pc = .ok (.newarray atype, 2)) (hdm : ∀ i, dom2 i → i = j ∨ dom i) (hdj : dom2 j)
    (kk : ∀ q : Nat, V X D cl A dom2 (va_up loc j q) (va_up val j (.inl (cA, a0))) (cells + 1) (slots + N) (pc + 2) lv (.ref q :: st)) : V X D cl A dom loc val cells slots pc lv (.int n :: st) := fun H locs ls hW hS hl => by
  subst hty
  have hx9 := hX.2.2.2.2.2.2.2.2.1
  refine va_newaK (atype := atype) hX.1 hX.2.1 (hX.2.2.2.2.1 _ harr) rfl hd rfl hn hN hbytes (by rw [hx9]; exact hcells) (by rw [hx9]; exact hslots) rfl fun H1 cA' e1 z1 o1 hAr hNm => ?_
  have hcc : cA' = cA := by
    have h2 := hra _ (hX.2.2.2.2.2.1.2 t0 _ ht).2
    exact Option.some.inj (hNm.symm.trans h2)
  subst hcc
  have hAq : A H.size := hX.2.2.2.2.2.2.1 _ hS.1
  refine kk H.size H1 locs ls (hW.new hdm hdj (fun ks hk hP hD => ⟨(hP.kept (fun i x hx => o1 x.1 ((hP i x hx).lt))).app (fun i x hx => ?_), hD.push hP rfl hAq⟩)) ⟨Nat.le_trans hS.1 (by omega), fun x h1 h2 => (o1 x (Nat.lt_of_lt_of_le h1 hS.1)).trans (hS.2.1 x h1 h2), hS.2.2⟩ hl
  have hz : i < 1 := (List.getElem?_eq_some_iff.mp hx).1
  rw [show i = 0 by omega] at hx
  cases hx
  show H1[H.size]? = some (vp_cell cA' a0)
  rw [ha]
  exact e1
/-- a new array of references -/
theorem v_newq (hX : OX X cc nL own Ts D cl tys A R) (j t0 : Nat) (dom2 : Nat → Prop) {C : String} {index : Nat} {cA : ClassId} {n : Int32} {N : Nat} (hcl : Cond.classLink own index C ∈ Ts) (hover : va_AO C (xs X)) (ht : tys[t0]? = some (cA, .object C)) (hn : ¬ n < 0) (hN : n.toNatClampNeg = N) (hbytes : N * 4 ≤ 536870912) (hcells : cells + 1 ≤ R.cells) (hslots : slots + N ≤ R.slots) (hd : decode cc pc = .ok (.anewarray index, 3)) (hdm : ∀ i, dom2 i → i = j ∨ dom i) (hdj : dom2 j)
    (kk : ∀ q : Nat, V X D cl A dom2 (va_up loc j q) (va_up val j (.inl (cA, N, .inr (.inr (.inr (.inr (fun _ => none))))))) (cells + 1) (slots + N) (pc + 3) lv (.ref q :: st)) : V X D cl A dom loc val cells slots pc lv (.int n :: st) := fun H locs ls hW hS hl => by
  subst hN
  have hx9 := hX.2.2.2.2.2.2.2.2.1
  refine W.anew hX.1 hX.2.1 hX.2.2.2.1 (hX.2.2.2.2.1 _ hcl) (va_AO.use hover) rfl hd rfl hn hbytes (by rw [hx9]; exact hcells) (by rw [hx9]; exact hslots) fun cA' kA comp f1 f2 f3 f4 => ?_
  have hcc : cA' = cA := by
    obtain ⟨kA2, comp2, g1, g2, g3, g4⟩ := (hX.2.2.2.2.2.1.2 t0 _ ht).2
    exact Option.some.inj (f1.symm.trans g4)
  subst hcc
  generalize hH1 : H.push ({ cls := cA', slots := Array.replicate n.toNatClampNeg .null, vm := .none } : Cell) = H1
  have z1 : H1.size = H.size + 1 := by rw [← hH1, Array.size_push]
  have e1 : H1[H.size]? = some (arrV cA' n.toNatClampNeg (fun _ => .null)) := by rw [← hH1, Array.getElem?_push_size, ← arrV_new]
  have o1 : ∀ q : Nat, q < H.size → H1[q]? = H[q]? := fun q hq => by rw [← hH1, Array.getElem?_push, if_neg (Nat.ne_of_lt hq)]
  have hAq : A H.size := hX.2.2.2.2.2.2.1 _ hS.1
  refine kk H.size H1 locs ls (hW.new hdm hdj (fun ks hk hP hD => ⟨(hP.kept (fun i x hx => o1 x.1 ((hP i x hx).lt))).app (fun i x hx => ?_), hD.push hP rfl hAq⟩)) ⟨Nat.le_trans hS.1 (by omega), fun x h1 h2 => (o1 x (Nat.lt_of_lt_of_le h1 hS.1)).trans (hS.2.1 x h1 h2), hS.2.2⟩ hl
  have hz : i < 1 := (List.getElem?_eq_some_iff.mp hx).1
  rw [show i = 0 by omega] at hx
  cases hx
  show H1[H.size]? = some (vp_cell cA' _)
  exact e1
theorem v_lald (hX : OX X cc nL own Ts D cl tys A R) (j t0 : Nat) {a : Nat} {cA : ClassId} {n : Nat} {f : Nat → Int64} {i : Int32} {v : Int64} (hj : dom j) (ha : loc j = a) (he : val j = .inl (cA, n, .inr (.inl f))) (ht : tys[t0]? = some (cA, .long)) (hin : vp_in i n) (hv : f i.toNatClampNeg = v) (hd : decode cc pc = .ok (.laload, 1)) (kk : V X D cl A dom loc val cells slots (pc + 1) lv (.long v :: st)) : V X D cl A dom loc val cells slots pc lv (.int i :: .ref a :: st) := fun H locs ls hW hS hl => by
  subst ha
  subst hv
  exact va_lald hX.1 hX.2.1 hX.2.2.2.2.2.1 (hW.one hj he) 0 t0 rfl ht hin hd (kk H locs ls hW hS hl)
theorem v_zast (hX : OX X cc nL own Ts D cl tys A R) (j t0 : Nat) {a : Nat} {cA : ClassId} {n : Nat} {f : Nat → Int32} {i x : Int32} (hj : dom j) (ha : loc j = a) (he : val j = .inl (cA, n, .inl f)) (ht : tys[t0]? = some (cA, .boolean)) (hin : vp_in i n) (hd : decode cc pc = .ok (.bastore, 1))
    (kk : V X D cl A dom loc (va_up val j (.inl (cA, n, .inl (upd f i.toNatClampNeg (vp_nar .boolean x))))) cells slots (pc + 1) lv st) : V X D cl A dom loc val cells slots pc lv (.int x :: .int i :: .ref a :: st) := fun H locs ls hW hS hl => by
  subst ha
  obtain ⟨ks, h1, hP, hD⟩ := hW
  obtain ⟨q, i1, i2⟩ := kl_get (loc := loc) (val := val) ((h1 j).mp hj)
  refine va_zast hX.1 hX.2.1 hX.2.2.2.2.2.1 hP hD hS q t0 (by rw [i2, he]) ht hin hd (fun H1 locs1 hP1 hD1 hS1 => ?_)
  rw [kl_set hD i1] at hP1 hD1
  exact kk H1 locs1 ls ⟨ks, h1, hP1, hD1⟩ hS1 hl
theorem v_last (hX : OX X cc nL own Ts D cl tys A R) (j t0 : Nat) {a : Nat} {cA : ClassId} {n : Nat} {f : Nat → Int64} {i : Int32} {x : Int64} (hj : dom j) (ha : loc j = a) (he : val j = .inl (cA, n, .inr (.inl f))) (ht : tys[t0]? = some (cA, .long)) (hin : vp_in i n) (hd : decode cc pc = .ok (.lastore, 1))
    (kk : V X D cl A dom loc (va_up val j (.inl (cA, n, .inr (.inl (vp_updL f i.toNatClampNeg x))))) cells slots (pc + 1) lv st) : V X D cl A dom loc val cells slots pc lv (.long x :: .int i :: .ref a :: st) := fun H locs ls hW hS hl => by
  subst ha
  obtain ⟨ks, h1, hP, hD⟩ := hW
  obtain ⟨q, i1, i2⟩ := kl_get (loc := loc) (val := val) ((h1 j).mp hj)
  refine va_last hX.1 hX.2.1 hX.2.2.2.2.2.1 hP hD hS q t0 (by rw [i2, he]) ht hin hd (fun H1 locs1 hP1 hD1 hS1 => ?_)
  rw [kl_set hD i1] at hP1 hD1
  exact kk H1 locs1 ls ⟨ks, h1, hP1, hD1⟩ hS1 hl
end KM1
end
section
section KF
/-- the good words of the tables: every method's words are its own code's word and these -/
def TT : List Cond := lw_tbl.filter goodWord
theorem TT_in {w : Cond} (i : Nat) (h : lw_tbl[i]? = some w) (g : goodWord w = true) : w ∈ TT := List.mem_filter.mpr ⟨List.mem_of_getElem? h, g⟩
theorem TT_all {ws : List Cond} (h : ∀ w ∈ ws, w ∈ lw_tbl) (g : ws.all goodWord = true) : ∀ w ∈ ws, w ∈ TT := fun w hw => List.mem_filter.mpr ⟨h w hw, List.all_eq_true.mp g w hw⟩
theorem TT_good {c : Cond} (hc : c ∈ TT) : GoodIn TT (c :: TT) := fun w hw => by
  have h : w ∈ TT := (List.mem_cons.mp hw).elim (fun e => e ▸ hc) id
  exact ⟨h, good_of_word (List.mem_filter.mp h).2⟩
theorem TT_lw {args : Array Value} {s : State} (h : ∀ w ∈ lw_tbl, w.before args s = true) : ∀ w ∈ TT, w.before args s = true := fun w hw => h w (List.mem_filter.mp hw).1
theorem kup_ne {α : Type} {f : Nat → α} {k j : Nat} {e x : α} (h : j ≠ k) (h2 : f j = x) : va_up f k e j = x := (va_up_ne f e h).trans h2
theorem kup_self {α : Type} {f : Nat → α} {k : Nat} {e : α} : va_up f k e k = e := va_up_self f k e
theorem kup_up {α : Type} {f : Nat → α} {k : Nat} {a b : α} : va_up (va_up f k a) k b = va_up f k b := by
  funext i
  by_cases h : i = k <;> simp [va_up, h]
variable {l : Launch} {D : va_G} {cl : List vw_C} {tys : List (ClassId × FieldType)} {A : Nat → Prop} {dom : Nat → Prop} {loc : Nat → Nat} {val : Nat → va_E} {Post : kT} {cc : ByteArray} {ret : Option FieldType}
/-- a contract whose words are its code's and the tables' -/
theorem kM_of {y : MethodName} {rm : Room} {maxL : Nat} {av : List Value} {lv0 : List (Option Value)} {own : String} (hy : plainName y.cls = true) (ho : y.cls = own) (hcat : ∀ w ∈ av, w.category = 1) (hlen : (lg_sl av).length ≤ maxL) (hl0 : lv0 = av.map some ++ List.replicate (maxL - av.length) none) (hl1 : av.length ≤ maxL)
    (body : ∀ X : KX, X.2.1 = l → OX X cc maxL own TT D cl tys A rm → EX X ret D cl A Post rm.cells rm.slots → (xM X).name = y.name → V X D cl A dom loc val 0 0 0 lv0 []) : kM l y (Cond.code y cc maxL ret :: TT) rm D cl tys A av dom loc val Post :=
  kM.ofV hy rfl hcat hlen hl0 hl1 (fun X h1 h2 h3 h4 => body X h1 ⟨h2.1, h2.2.1, h2.2.2.1, ho ▸ h2.2.2.2.1, fun w hw => h2.2.2.2.2.1 w (List.mem_cons_of_mem _ hw), h2.2.2.2.2.2⟩ h3 h4)
variable {X : KX} {nL : Nat} {own : String} {R : Room} {cells slots pc : Nat} {lv : List (Option Value)}
abbrev KC (X : KX) (D : va_G) (cl : List vw_C) (A : Nat → Prop) (Post : kT) (cells slots pc : Nat) (lv : List (Option Value)) (rest : List Value) : Prop := ∀ (rv : Option Value) (dom2 : Nat → Prop) (loc2 : Nat → Nat) (val2 : Nat → va_E) (k n : Nat), Post rv dom2 loc2 val2 k n → V X D cl A dom2 loc2 val2 (cells + k) (slots + n) (pc + 3) lv (rv.toList ++ rest)
abbrev KQd (y : MethodName) (n : Nat) : Prop := y.cls ≠ "java/lang/invoke/MethodHandle" ∧ y.cls ≠ "java/lang/invoke/VarHandle" ∧ (parseMethodDescriptor y.desc).map (fun d => d.parameters.length) = some n
abbrev KRm (rm : Room) (maxL : Nat) (R : Room) : Prop := rm.frames + 1 ≤ R.frames ∧ 8 + (maxL + 11) + rm.locals ≤ R.locals
/-- invokevirtual of a method of the class C itself -/
theorem c_V (hX : OX X cc nL own TT D cl tys A R) (j : Nat) {y : MethodName} {rm : Room} {bytes : ByteArray} {maxL n index ci : Nat} {ret : Option FieldType} {C : String} {T : u_T} {N : Nat} {fs : List Value} {a : Nat} {As rest st0 : List Value} (hl9 : X.2.1 = l) (hM : kM l y (Cond.code y bytes maxL ret :: TT) rm D cl tys A (.ref a :: As) dom loc val Post)
    (k1 : Cond.methodLink own index y ∈ TT) (k2 : Cond.instanceMethod y ∈ TT) (k3 : Cond.selects C y y ∈ TT) (k4 : Cond.initialized C ∈ TT) (k5 : Cond.code y bytes maxL ret ∈ TT) (hC : y.cls = C) (hq : KQd y n) (hR : KRm rm maxL R)
    (hj : dom j) (ha : loc j = a) (he : val j = .inr (ci, fs)) (hc : cl[ci]? = some (C, T, N)) (hn : As.length = n) (hlv : lv.length = nL) (hst : As.reverse ++ .ref a :: rest = st0) (hroom : (rest.map fun v => v.category).sum ≤ 8) (hd : decode cc pc = .ok (.invokevirtual index, 3)) (hf : cells + rm.cells ≤ R.cells ∧ slots + rm.slots ≤ R.slots)
    (kk : KC X D cl A Post cells slots pc lv rest) : V X D cl A dom loc val cells slots pc lv st0 := by
  subst hst
  have hx9 := hX.2.2.2.2.2.2.2.2.1
  have hg : GoodIn TT (wsV own index C y (Cond.code y bytes maxL ret :: TT)) := fun w hw => by
    have h : w ∈ TT := by
      unfold wsV at hw
      simp only [List.mem_append, List.mem_cons, List.not_mem_nil, or_false] at hw
      rcases hw with (rfl | rfl | rfl | rfl) | (rfl | hw)
      · exact k1
      · exact k2
      · exact k3
      · exact k4
      · exact k5
      · exact hw
    exact ⟨h, good_of_word (List.mem_filter.mp h).2⟩
  exact v_callV hX j (rc := (C, T, N)) hl9 hM (cwV n hX.2.2.2.2.1 hg rfl rfl rfl ⟨hC, hq⟩ (by rw [hx9]; exact hR)) hj ha he hc hn hlv hroom hd hf kk
/-- invokestatic within the class -/
theorem c_S (hX : OX X cc nL own TT D cl tys A R) {y : MethodName} {rm : Room} {bytes : ByteArray} {maxL n index : Nat} {ret : Option FieldType} {As rest st0 : List Value} (hl9 : X.2.1 = l) (hM : kM l y (Cond.code y bytes maxL ret :: TT) rm D cl tys A As dom loc val Post)
    (k1 : Cond.methodLink own index y ∈ TT) (k2 : Cond.static y ∈ TT) (k4 : Cond.initialized own ∈ TT) (k5 : Cond.code y bytes maxL ret ∈ TT) (hC : y.cls = own) (hq : KQd y n) (hR : KRm rm maxL R)
    (hn : As.length = n) (hlv : lv.length = nL) (hst : As.reverse ++ rest = st0) (hroom : (rest.map fun v => v.category).sum ≤ 8) (hd : decode cc pc = .ok (.invokestatic index, 3)) (hf : cells + rm.cells ≤ R.cells ∧ slots + rm.slots ≤ R.slots)
    (kk : KC X D cl A Post cells slots pc lv rest) : V X D cl A dom loc val cells slots pc lv st0 := by
  subst hst
  have hx9 := hX.2.2.2.2.2.2.2.2.1
  have hg : GoodIn TT (wsS own index y (Cond.code y bytes maxL ret :: TT)) := fun w hw => by
    have h : w ∈ TT := by
      unfold wsS at hw
      simp only [List.mem_append, List.mem_cons, List.not_mem_nil, or_false] at hw
      rcases hw with (rfl | rfl | rfl) | (rfl | hw)
      · exact k1
      · exact k2
      · exact k4
      · exact k5
      · exact hw
    exact ⟨h, good_of_word (List.mem_filter.mp h).2⟩
  exact v_callS hX hl9 hM (cwS n hX.2.2.2.2.1 hg rfl rfl rfl ⟨hC, hq⟩ (by rw [hx9]; exact hR)) hn hlv hroom hd hf kk
/-- invokestatic of a nest mate's -/
theorem c_SN (hX : OX X cc nL own TT D cl tys A R) {y : MethodName} {rm : Room} {bytes : ByteArray} {maxL n index : Nat} {host : String} {ret : Option FieldType} {As rest st0 : List Value} (hl9 : X.2.1 = l) (hM : kM l y (Cond.code y bytes maxL ret :: TT) rm D cl tys A As dom loc val Post)
    (k1 : Cond.methodLinkNest own index y host ∈ nfw) (k2 : Cond.static y ∈ TT) (k4 : Cond.initialized y.cls ∈ TT) (k5 : Cond.code y bytes maxL ret ∈ TT) (hq : KQd y n) (hR : KRm rm maxL R)
    (hn : As.length = n) (hlv : lv.length = nL) (hst : As.reverse ++ rest = st0) (hroom : (rest.map fun v => v.category).sum ≤ 8) (hd : decode cc pc = .ok (.invokestatic index, 3)) (hf : cells + rm.cells ≤ R.cells ∧ slots + rm.slots ≤ R.slots)
    (kk : KC X D cl A Post cells slots pc lv rest) : V X D cl A dom loc val cells slots pc lv st0 := by
  subst hst
  have hx9 := hX.2.2.2.2.2.2.2.2.1
  have hN := hX.2.2.2.2.2.2.2.2.2.now
  exact v_callSN hX hl9 hM ⟨va_cnB n hX.2.2.2.2.1 (TT_good k5) rfl rfl rfl (hN.1 _ k1) (hX.2.2.2.2.1 _ k4) hq (by rw [hx9]; exact hR), hX.2.2.2.2.1 _ k2, trivial⟩ hn hlv hroom hd hf kk
/-- invokespecial of a constructor -/
theorem c_I (hX : OX X cc nL own TT D cl tys A R) {y : MethodName} {rm : Room} {bytes : ByteArray} {maxL n index : Nat} {a : Nat} {As rest st0 : List Value} (hl9 : X.2.1 = l) (hM : kM l y (Cond.code y bytes maxL none :: TT) rm D cl tys A (.ref a :: As) dom loc val Post)
    (k1 : Cond.methodLink own index y ∈ TT) (k2 : Cond.instanceMethod y ∈ TT) (k4 : Cond.initialized y.cls ∈ TT) (k5 : Cond.code y bytes maxL none ∈ TT) (hi : y.name = "<init>") (hq : KQd y n) (hR : KRm rm maxL R)
    (hn : As.length = n) (hlv : lv.length = nL) (hst : As.reverse ++ .ref a :: rest = st0) (hroom : (rest.map fun v => v.category).sum ≤ 8) (hd : decode cc pc = .ok (.invokespecial index, 3)) (hf : cells + rm.cells ≤ R.cells ∧ slots + rm.slots ≤ R.slots)
    (kk : KC X D cl A Post cells slots pc lv rest) : V X D cl A dom loc val cells slots pc lv st0 := by
  subst hst
  have hx9 := hX.2.2.2.2.2.2.2.2.1
  exact v_callI hX hl9 hM (cwI n hX.2.2.2.2.1 (TT_good k5) rfl rfl rfl (hX.2.2.2.2.1 _ k4) (hX.2.2.2.2.1 _ k1) (hX.2.2.2.2.1 _ k2) hi hq (by rw [hx9]; exact hR)) hn hlv hroom hd hf kk
/-- invokespecial of a nest mate's constructor -/
theorem c_IN (hX : OX X cc nL own TT D cl tys A R) {y : MethodName} {rm : Room} {bytes : ByteArray} {maxL n index : Nat} {host : String} {a : Nat} {As rest st0 : List Value} (hl9 : X.2.1 = l) (hM : kM l y (Cond.code y bytes maxL none :: TT) rm D cl tys A (.ref a :: As) dom loc val Post)
    (k1 : Cond.methodLinkNest own index y host ∈ nfw) (k2 : Cond.instanceMethod y ∈ TT) (k4 : Cond.initialized y.cls ∈ TT) (k5 : Cond.code y bytes maxL none ∈ TT) (hi : y.name = "<init>") (hq : KQd y n) (hR : KRm rm maxL R)
    (hn : As.length = n) (hlv : lv.length = nL) (hst : As.reverse ++ .ref a :: rest = st0) (hroom : (rest.map fun v => v.category).sum ≤ 8) (hd : decode cc pc = .ok (.invokespecial index, 3)) (hf : cells + rm.cells ≤ R.cells ∧ slots + rm.slots ≤ R.slots)
    (kk : KC X D cl A Post cells slots pc lv rest) : V X D cl A dom loc val cells slots pc lv st0 := by
  subst hst
  have hx9 := hX.2.2.2.2.2.2.2.2.1
  have hN := hX.2.2.2.2.2.2.2.2.2.now
  exact v_callIN hX hl9 hM ⟨va_cnB n hX.2.2.2.2.1 (TT_good k5) rfl rfl rfl (hN.1 _ k1) (hX.2.2.2.2.1 _ k4) hq (by rw [hx9]; exact hR), hi, hX.2.2.2.2.1 _ k2⟩ hn hlv hroom hd hf kk
variable {st : List Value}
/-- a load of a reference out of an array of them -/
theorem v_aldr (hX : OX X cc nL own TT D cl tys A R) (j t0 : Nat) {a b : Nat} {cA : ClassId} {C : String} {n : Nat} {f : Nat → Option Nat} {i : Int32} (hj : dom j) (ha : loc j = a) (he : val j = .inl (cA, n, .inr (.inr (.inr (.inr f))))) (ht : tys[t0]? = some (cA, .object C)) (hin : vp_in i n) (hr : f i.toNatClampNeg = some b) (hd : decode cc pc = .ok (.aaload, 1)) (kk : V X D cl A dom loc val cells slots (pc + 1) lv (.ref b :: st)) : V X D cl A dom loc val cells slots pc lv (.int i :: .ref a :: st) := v_aldq hX j t0 (some b) hj ha he ht hin hr hd kk
/-- a field put, the new row of fields written out -/
theorem v_putE (hX : OX X cc nL own TT D cl tys A R) (j : Nat) {C ref : String} {T : u_T} {N ci index : Nat} {fs fs2 : List Value} {a : Nat} {v : Value} {ty : FieldType} (hin : ∀ w ∈ u_ws C T N, w ∈ TT) (ty0 : Nat → FieldType) (hty : ∀ k, k < N → parseFieldDescriptor (T k).2.2.1 = some (ty0 k)) (hnm : ∀ a, a < N → ∀ b, b < N → a ≠ b → (T a).2.1 ≠ (T b).2.1) (hj : dom j) (ha : loc j = a) (he : val j = .inr (ci, fs)) (hc : cl[ci]? = some (C, T, N)) (k : Nat) (hk : k < N) (hlink : Cond.fieldLink own index ref (T k).2.1 (T k).2.2.1 ∈ TT) (href : (T k).1 = ref) (hfin : (T k).2.2.2 = false) (ht : ty0 k = ty) (hn : narrow ty v = v) (hfit : fits ty v = true) (hlen : k < fs.length) (hd : decode cc pc = .ok (.putfield index, 3)) (hfs : fs.set k v = fs2)
    (kk : V X D cl A dom loc (va_up val j (.inr (ci, fs2))) cells slots (pc + 3) lv st) : V X D cl A dom loc val cells slots pc lv (v :: .ref a :: st) := by
  subst hfs
  exact v_put hX j hin ty0 hty hnm hj ha he hc k hk hlink href hfin ht hn hfit hlen hd kk
theorem v_putFE (hX : OX X cc nL own TT D cl tys A R) (j : Nat) {C : String} {T : u_T} {N ci index : Nat} {fs fs2 : List Value} {a : Nat} {v : Value} {ty : FieldType} (hin : ∀ w ∈ u_ws C T N, w ∈ TT) (ty0 : Nat → FieldType) (hty : ∀ k, k < N → parseFieldDescriptor (T k).2.2.1 = some (ty0 k)) (hnm : ∀ a, a < N → ∀ b, b < N → a ≠ b → (T a).2.1 ≠ (T b).2.1) (hinit : (xM X).name = "<init>") (hj : dom j) (ha : loc j = a) (he : val j = .inr (ci, fs)) (hc : cl[ci]? = some (C, T, N)) (k : Nat) (hk : k < N) (hlink : Cond.fieldLink own index own (T k).2.1 (T k).2.2.1 ∈ TT) (href : (T k).1 = own) (hfin : (T k).2.2.2 = true) (ht : ty0 k = ty) (hn : narrow ty v = v) (hfit : fits ty v = true) (hlen : k < fs.length) (hd : decode cc pc = .ok (.putfield index, 3)) (hfs : fs.set k v = fs2)
    (kk : V X D cl A dom loc (va_up val j (.inr (ci, fs2))) cells slots (pc + 3) lv st) : V X D cl A dom loc val cells slots pc lv (v :: .ref a :: st) := by
  subst hfs
  exact v_putF hX j hin ty0 hty hnm hinit hj ha he hc k hk hlink href hfin ht hn hfit hlen hd kk
theorem v_iaddE (hX : OX X cc nL own TT D cl tys A R) {x y v : Int32} (hd : decode cc pc = .ok (.iadd, 1)) (hv : x + y = v) (k : V X D cl A dom loc val cells slots (pc + 1) lv (.int v :: st)) : V X D cl A dom loc val cells slots pc lv (.int y :: .int x :: st) := v_iadd hX hd (hv ▸ k)
theorem v_isubE (hX : OX X cc nL own TT D cl tys A R) {x y v : Int32} (hd : decode cc pc = .ok (.isub, 1)) (hv : x - y = v) (k : V X D cl A dom loc val cells slots (pc + 1) lv (.int v :: st)) : V X D cl A dom loc val cells slots pc lv (.int y :: .int x :: st) := v_isub hX hd (hv ▸ k)
theorem v_imulE (hX : OX X cc nL own TT D cl tys A R) {x y v : Int32} (hd : decode cc pc = .ok (.imul, 1)) (hv : x * y = v) (k : V X D cl A dom loc val cells slots (pc + 1) lv (.int v :: st)) : V X D cl A dom loc val cells slots pc lv (.int y :: .int x :: st) := v_imul hX hd (hv ▸ k)
theorem v_iandE (hX : OX X cc nL own TT D cl tys A R) {x y v : Int32} (hd : decode cc pc = .ok (.iand, 1)) (hv : x &&& y = v) (k : V X D cl A dom loc val cells slots (pc + 1) lv (.int v :: st)) : V X D cl A dom loc val cells slots pc lv (.int y :: .int x :: st) := v_iand hX hd (hv ▸ k)
theorem v_iorE (hX : OX X cc nL own TT D cl tys A R) {x y v : Int32} (hd : decode cc pc = .ok (.ior, 1)) (hv : x ||| y = v) (k : V X D cl A dom loc val cells slots (pc + 1) lv (.int v :: st)) : V X D cl A dom loc val cells slots pc lv (.int y :: .int x :: st) := v_ior hX hd (hv ▸ k)
theorem v_ishlE (hX : OX X cc nL own TT D cl tys A R) {x y v : Int32} (hd : decode cc pc = .ok (.ishl, 1)) (hv : x <<< (y &&& 31) = v) (k : V X D cl A dom loc val cells slots (pc + 1) lv (.int v :: st)) : V X D cl A dom loc val cells slots pc lv (.int y :: .int x :: st) := v_ishl hX hd (hv ▸ k)
theorem v_ishrE (hX : OX X cc nL own TT D cl tys A R) {x y v : Int32} (hd : decode cc pc = .ok (.ishr, 1)) (hv : x >>> (y &&& 31) = v) (k : V X D cl A dom loc val cells slots (pc + 1) lv (.int v :: st)) : V X D cl A dom loc val cells slots pc lv (.int y :: .int x :: st) := v_ishr hX hd (hv ▸ k)
theorem vpb {i : Int32} {n : Nat} (h : (decide (i < 0) || decide (n ≤ i.toNatClampNeg)) = false) : vp_in i n := fun z => by
  rcases z with z | z
  · simp [z] at h
  · simp [z] at h
end KF
end
section
def RX0 : String := "ProsePages$Node"
def TX0 : u_T := fun k => match k with
  | 0 => ("ProsePages$Node", "number", "I", true)
  | 1 => ("ProsePages$Node", "kind", "I", true)
  | 2 => ("ProsePages$Node", "holder", "LProsePages$Node;", true)
  | 3 => ("ProsePages$Node", "depth", "I", true)
  | 4 => ("ProsePages$Node", "from", "I", true)
  | 5 => ("ProsePages$Node", "to", "I", false)
  | 6 => ("ProsePages$Node", "value", "I", false)
  | 7 => ("ProsePages$Node", "first", "LProsePages$Node;", false)
  | 8 => ("ProsePages$Node", "last", "LProsePages$Node;", false)
  | 9 => ("ProsePages$Node", "next", "LProsePages$Node;", false)
  | 10 => ("ProsePages$Node", "atLine", "I", false)
  | _ => ("ProsePages$Node", "onPage", "I", false)
def tyX0 : Nat → FieldType := fun k => match k with
  | 0 => .int
  | 1 => .int
  | 2 => .object "ProsePages$Node"
  | 3 => .int
  | 4 => .int
  | 5 => .int
  | 6 => .int
  | 7 => .object "ProsePages$Node"
  | 8 => .object "ProsePages$Node"
  | 9 => .object "ProsePages$Node"
  | 10 => .int
  | _ => .int
theorem nmX0 : ∀ a, a < 12 → ∀ b, b < 12 → a ≠ b → (TX0 a).2.1 ≠ (TX0 b).2.1 := by decide +kernel
theorem tyX0_ok : ∀ k, k < 12 → parseFieldDescriptor (TX0 k).2.2.1 = some (tyX0 k) := by decide +kernel
theorem inT0 : ∀ w ∈ u_ws RX0 TX0 12, w ∈ TT := TT_all (by decide +kernel) (by decide +kernel)
def RX1 : String := "ProsePages$Row"
def TX1 : u_T := fun k => match k with
  | 0 => ("ProsePages$Row", "numbers", "[I", false)
  | _ => ("ProsePages$Row", "size", "I", false)
def tyX1 : Nat → FieldType := fun k => match k with
  | 0 => .array .int
  | _ => .int
theorem nmX1 : ∀ a, a < 2 → ∀ b, b < 2 → a ≠ b → (TX1 a).2.1 ≠ (TX1 b).2.1 := by decide +kernel
theorem tyX1_ok : ∀ k, k < 2 → parseFieldDescriptor (TX1 k).2.2.1 = some (tyX1 k) := by decide +kernel
theorem inT1 : ∀ w ∈ u_ws RX1 TX1 2, w ∈ TT := TT_all (by decide +kernel) (by decide +kernel)
def RX2 : String := "ProsePages$Setter"
def TX2 : u_T := fun k => match k with
  | 0 => ("ProsePages$Setter", "told", "LProsePages$Row;", true)
  | 1 => ("ProsePages$Setter", "draft", "LProsePages$Sheet;", false)
  | 2 => ("ProsePages$Setter", "ahead", "LProsePages$Row;", true)
  | 3 => ("ProsePages$Setter", "aheadLater", "LProsePages$Row;", true)
  | 4 => ("ProsePages$Setter", "word", "LProsePages$Row;", true)
  | _ => ("ProsePages$Setter", "content", "LProsePages$Row;", true)
def tyX2 : Nat → FieldType := fun k => match k with
  | 0 => .object "ProsePages$Row"
  | 1 => .object "ProsePages$Sheet"
  | 2 => .object "ProsePages$Row"
  | 3 => .object "ProsePages$Row"
  | 4 => .object "ProsePages$Row"
  | _ => .object "ProsePages$Row"
theorem nmX2 : ∀ a, a < 6 → ∀ b, b < 6 → a ≠ b → (TX2 a).2.1 ≠ (TX2 b).2.1 := by decide +kernel
theorem tyX2_ok : ∀ k, k < 6 → parseFieldDescriptor (TX2 k).2.2.1 = some (tyX2 k) := by decide +kernel
theorem inT2 : ∀ w ∈ u_ws RX2 TX2 6, w ∈ TT := TT_all (by decide +kernel) (by decide +kernel)
def RX3 : String := "ProsePages$Sheet"
def TX3 : u_T := fun k => match k with
  | 0 => ("ProsePages$Sheet", "characters", "LProsePages$Row;", true)
  | 1 => ("ProsePages$Sheet", "starts", "LProsePages$Row;", true)
  | 2 => ("ProsePages$Sheet", "lengths", "LProsePages$Row;", true)
  | 3 => ("ProsePages$Sheet", "pageOf", "LProsePages$Row;", true)
  | 4 => ("ProsePages$Sheet", "headingLines", "LProsePages$Row;", true)
  | 5 => ("ProsePages$Sheet", "between", "LProsePages$Row;", true)
  | 6 => ("ProsePages$Sheet", "pageFirst", "LProsePages$Row;", true)
  | 7 => ("ProsePages$Sheet", "pageLines", "LProsePages$Row;", true)
  | 8 => ("ProsePages$Sheet", "rows", "I", false)
  | 9 => ("ProsePages$Sheet", "columns", "I", false)
  | _ => ("ProsePages$Sheet", "isOverfull", "Z", false)
def tyX3 : Nat → FieldType := fun k => match k with
  | 0 => .object "ProsePages$Row"
  | 1 => .object "ProsePages$Row"
  | 2 => .object "ProsePages$Row"
  | 3 => .object "ProsePages$Row"
  | 4 => .object "ProsePages$Row"
  | 5 => .object "ProsePages$Row"
  | 6 => .object "ProsePages$Row"
  | 7 => .object "ProsePages$Row"
  | 8 => .int
  | 9 => .int
  | _ => .boolean
theorem nmX3 : ∀ a, a < 11 → ∀ b, b < 11 → a ≠ b → (TX3 a).2.1 ≠ (TX3 b).2.1 := by decide +kernel
theorem tyX3_ok : ∀ k, k < 11 → parseFieldDescriptor (TX3 k).2.2.1 = some (tyX3 k) := by decide +kernel
theorem inT3 : ∀ w ∈ u_ws RX3 TX3 11, w ∈ TT := TT_all (by decide +kernel) (by decide +kernel)
def RX4 : String := "ProsePages"
def TX4 : u_T := fun k => match k with
  | 0 => ("ProsePages", "nodes", "[LProsePages$Node;", true)
  | 1 => ("ProsePages", "setter", "LProsePages$Setter;", true)
  | 2 => ("ProsePages", "body", "LProsePages$Node;", false)
  | 3 => ("ProsePages", "hand", "LProsePages$Node;", false)
  | 4 => ("ProsePages", "nodeCount", "I", false)
  | 5 => ("ProsePages", "characters", "I", false)
  | 6 => ("ProsePages", "shown", "LProsePages$Sheet;", false)
  | _ => ("ProsePages", "hasPages", "Z", false)
def tyX4 : Nat → FieldType := fun k => match k with
  | 0 => .array (.object "ProsePages$Node")
  | 1 => .object "ProsePages$Setter"
  | 2 => .object "ProsePages$Node"
  | 3 => .object "ProsePages$Node"
  | 4 => .int
  | 5 => .int
  | 6 => .object "ProsePages$Sheet"
  | _ => .boolean
theorem nmX4 : ∀ a, a < 8 → ∀ b, b < 8 → a ≠ b → (TX4 a).2.1 ≠ (TX4 b).2.1 := by decide +kernel
theorem tyX4_ok : ∀ k, k < 8 → parseFieldDescriptor (TX4 k).2.2.1 = some (tyX4 k) := by decide +kernel
theorem inT4 : ∀ w ∈ u_ws RX4 TX4 8, w ∈ TT := TT_all (by decide +kernel) (by decide +kernel)
def RX5 : String := "ProsePagesModel"
def TX5 : u_T := fun k => match k with
  | 0 => ("ProsePagesModel", "thrown", "I", false)
  | 1 => ("ProsePagesModel", "kind", "[I", true)
  | 2 => ("ProsePagesModel", "up", "[I", true)
  | 3 => ("ProsePagesModel", "number", "[I", true)
  | 4 => ("ProsePagesModel", "deep", "[I", true)
  | 5 => ("ProsePagesModel", "from", "[I", true)
  | 6 => ("ProsePagesModel", "many", "[I", true)
  | 7 => ("ProsePagesModel", "lastIn", "[I", true)
  | 8 => ("ProsePagesModel", "text", "[B", true)
  | 9 => ("ProsePagesModel", "nodes", "I", false)
  | 10 => ("ProsePagesModel", "characters", "I", false)
  | 11 => ("ProsePagesModel", "hand", "I", false)
  | 12 => ("ProsePagesModel", "length", "[I", true)
  | 13 => ("ProsePagesModel", "head", "[I", true)
  | 14 => ("ProsePagesModel", "page", "[I", true)
  | 15 => ("ProsePagesModel", "row", "[I", true)
  | 16 => ("ProsePagesModel", "between", "[Z", true)
  | 17 => ("ProsePagesModel", "seen", "[B", true)
  | 18 => ("ProsePagesModel", "lines", "I", false)
  | 19 => ("ProsePagesModel", "pageMany", "I", false)
  | 20 => ("ProsePagesModel", "rows", "I", false)
  | 21 => ("ProsePagesModel", "columns", "I", false)
  | 22 => ("ProsePagesModel", "laid", "I", false)
  | 23 => ("ProsePagesModel", "counted", "I", false)
  | 24 => ("ProsePagesModel", "pageOf", "[I", true)
  | 25 => ("ProsePagesModel", "start", "[I", true)
  | 26 => ("ProsePagesModel", "hKind", "[I", true)
  | 27 => ("ProsePagesModel", "hWidth", "[I", true)
  | 28 => ("ProsePagesModel", "hSign", "[I", true)
  | 29 => ("ProsePagesModel", "hNext", "[I", true)
  | 30 => ("ProsePagesModel", "hDue", "[Z", true)
  | 31 => ("ProsePagesModel", "hWide", "[Z", true)
  | 32 => ("ProsePagesModel", "hHad", "[Z", true)
  | 33 => ("ProsePagesModel", "hFresh", "[Z", true)
  | 34 => ("ProsePagesModel", "holders", "I", false)
  | 35 => ("ProsePagesModel", "word", "[I", true)
  | 36 => ("ProsePagesModel", "lineNow", "[I", true)
  | 37 => ("ProsePagesModel", "shown", "[I", true)
  | 38 => ("ProsePagesModel", "wordMany", "I", false)
  | 39 => ("ProsePagesModel", "nowMany", "I", false)
  | 40 => ("ProsePagesModel", "shownMany", "I", false)
  | 41 => ("ProsePagesModel", "leafWidth", "I", false)
  | 42 => ("ProsePagesModel", "leafLine", "I", false)
  | 43 => ("ProsePagesModel", "leafOpen", "Z", false)
  | _ => ("ProsePagesModel", "counts", "Z", false)
def tyX5 : Nat → FieldType := fun k => match k with
  | 0 => .int
  | 1 => .array .int
  | 2 => .array .int
  | 3 => .array .int
  | 4 => .array .int
  | 5 => .array .int
  | 6 => .array .int
  | 7 => .array .int
  | 8 => .array .byte
  | 9 => .int
  | 10 => .int
  | 11 => .int
  | 12 => .array .int
  | 13 => .array .int
  | 14 => .array .int
  | 15 => .array .int
  | 16 => .array .boolean
  | 17 => .array .byte
  | 18 => .int
  | 19 => .int
  | 20 => .int
  | 21 => .int
  | 22 => .int
  | 23 => .int
  | 24 => .array .int
  | 25 => .array .int
  | 26 => .array .int
  | 27 => .array .int
  | 28 => .array .int
  | 29 => .array .int
  | 30 => .array .boolean
  | 31 => .array .boolean
  | 32 => .array .boolean
  | 33 => .array .boolean
  | 34 => .int
  | 35 => .array .int
  | 36 => .array .int
  | 37 => .array .int
  | 38 => .int
  | 39 => .int
  | 40 => .int
  | 41 => .int
  | 42 => .int
  | 43 => .boolean
  | _ => .boolean
theorem nmX5 : ∀ a, a < 45 → ∀ b, b < 45 → a ≠ b → (TX5 a).2.1 ≠ (TX5 b).2.1 := by decide +kernel
theorem tyX5_ok : ∀ k, k < 45 → parseFieldDescriptor (TX5 k).2.2.1 = some (tyX5 k) := by decide +kernel
theorem inT5 : ∀ w ∈ u_ws RX5 TX5 45, w ∈ TT := TT_all (by decide +kernel) (by decide +kernel)
abbrev CL : List vw_C := [(RX0, TX0, 12), (RX1, TX1, 2), (RX2, TX2, 6), (RX3, TX3, 11), (RX4, TX4, 8), (RX5, TX5, 45)]
abbrev TY (cI cB cZ cJ cN : ClassId) : List (ClassId × FieldType) := [(cI, .int), (cB, .byte), (cZ, .boolean), (cJ, .long), (cN, .object "ProsePages$Node")]
abbrev rmL (k : Nat) : Room := { frames := 8 * k, cells := 100 * k, slots := 200000 * k, locals := 200 * k }
abbrev b_P_init : ByteArray := prog_1_method_1_code
abbrev y_P_init : MethodName := ⟨"ProsePages", "<init>", "()V"⟩
theorem q_P_init : KQd y_P_init 0 := by decide +kernel
abbrev b_P_begin : ByteArray := prog_1_method_2_code
abbrev y_P_begin : MethodName := ⟨"ProsePages", "begin", "(II)I"⟩
theorem q_P_begin : KQd y_P_begin 2 := by decide +kernel
abbrev b_P_end : ByteArray := prog_1_method_3_code
abbrev y_P_end : MethodName := ⟨"ProsePages", "end", "()I"⟩
theorem q_P_end : KQd y_P_end 0 := by decide +kernel
abbrev b_P_say : ByteArray := prog_1_method_4_code
abbrev y_P_say : MethodName := ⟨"ProsePages", "say", "(IIIII)I"⟩
theorem q_P_say : KQd y_P_say 5 := by decide +kernel
abbrev b_P_clear : ByteArray := prog_1_method_5_code
abbrev y_P_clear : MethodName := ⟨"ProsePages", "clear", "()V"⟩
theorem q_P_clear : KQd y_P_clear 0 := by decide +kernel
abbrev b_P_pages : ByteArray := prog_1_method_6_code
abbrev y_P_pages : MethodName := ⟨"ProsePages", "pages", "(II)I"⟩
theorem q_P_pages : KQd y_P_pages 2 := by decide +kernel
abbrev b_P_cell : ByteArray := prog_1_method_7_code
abbrev y_P_cell : MethodName := ⟨"ProsePages", "cell", "(III)I"⟩
theorem q_P_cell : KQd y_P_cell 3 := by decide +kernel
abbrev b_P_page : ByteArray := prog_1_method_8_code
abbrev y_P_page : MethodName := ⟨"ProsePages", "page", "(II)I"⟩
theorem q_P_page : KQd y_P_page 2 := by decide +kernel
abbrev b_P_line : ByteArray := prog_1_method_9_code
abbrev y_P_line : MethodName := ⟨"ProsePages", "line", "(II)I"⟩
theorem q_P_line : KQd y_P_line 2 := by decide +kernel
abbrev b_P_find : ByteArray := prog_1_method_10_code
abbrev y_P_find : MethodName := ⟨"ProsePages", "find", "(I)I"⟩
theorem q_P_find : KQd y_P_find 1 := by decide +kernel
abbrev b_P_node : ByteArray := prog_1_method_11_code
abbrev y_P_node : MethodName := ⟨"ProsePages", "node", "(II)I"⟩
theorem q_P_node : KQd y_P_node 2 := by decide +kernel
abbrev b_P_about : ByteArray := prog_1_method_12_code
abbrev y_P_about : MethodName := ⟨"ProsePages", "about", "(I)I"⟩
theorem q_P_about : KQd y_P_about 1 := by decide +kernel
abbrev b_P_isNodeRefused : ByteArray := prog_1_method_13_code
abbrev y_P_isNodeRefused : MethodName := ⟨"ProsePages", "isNodeRefused", "()Z"⟩
theorem q_P_isNodeRefused : KQd y_P_isNodeRefused 0 := by decide +kernel
abbrev b_P_addNode : ByteArray := prog_1_method_14_code
abbrev y_P_addNode : MethodName := ⟨"ProsePages", "addNode", "(II)LProsePages$Node;"⟩
theorem q_P_addNode : KQd y_P_addNode 2 := by decide +kernel
abbrev b_P_addCharacters : ByteArray := prog_1_method_15_code
abbrev y_P_addCharacters : MethodName := ⟨"ProsePages", "addCharacters", "(IIIII)V"⟩
theorem q_P_addCharacters : KQd y_P_addCharacters 5 := by decide +kernel
abbrev b_P_nodeAt : ByteArray := prog_1_method_16_code
abbrev y_P_nodeAt : MethodName := ⟨"ProsePages", "nodeAt", "(I)LProsePages$Node;"⟩
theorem q_P_nodeAt : KQd y_P_nodeAt 1 := by decide +kernel
abbrev b_P_placeNodes : ByteArray := prog_1_method_17_code
abbrev y_P_placeNodes : MethodName := ⟨"ProsePages", "placeNodes", "()V"⟩
theorem q_P_placeNodes : KQd y_P_placeNodes 0 := by decide +kernel
abbrev b_P_pageOfNode : ByteArray := prog_1_method_18_code
abbrev y_P_pageOfNode : MethodName := ⟨"ProsePages", "pageOfNode", "(LProsePages$Node;)I"⟩
theorem q_P_pageOfNode : KQd y_P_pageOfNode 1 := by decide +kernel
abbrev b_P_isNumberOf : ByteArray := prog_1_method_19_code
abbrev y_P_isNumberOf : MethodName := ⟨"ProsePages", "isNumberOf", "(II)Z"⟩
theorem q_P_isNumberOf : KQd y_P_isNumberOf 2 := by decide +kernel
abbrev b_P_isOneOf : ByteArray := prog_1_method_20_code
abbrev y_P_isOneOf : MethodName := ⟨"ProsePages", "isOneOf", "(II)Z"⟩
theorem q_P_isOneOf : KQd y_P_isOneOf 2 := by decide +kernel
abbrev b_P_isWhite : ByteArray := prog_1_method_21_code
abbrev y_P_isWhite : MethodName := ⟨"ProsePages", "isWhite", "(I)Z"⟩
theorem q_P_isWhite : KQd y_P_isWhite 1 := by decide +kernel
abbrev b_M_init : ByteArray := prog_7_method_1_code
abbrev y_M_init : MethodName := ⟨"ProsePagesModel", "<init>", "()V"⟩
theorem q_M_init : KQd y_M_init 0 := by decide +kernel
abbrev b_M_empty : ByteArray := prog_7_method_3_code
abbrev y_M_empty : MethodName := ⟨"ProsePagesModel", "empty", "()V"⟩
theorem q_M_empty : KQd y_M_empty 0 := by decide +kernel
abbrev b_M_isBlock : ByteArray := prog_7_method_4_code
abbrev y_M_isBlock : MethodName := ⟨"ProsePagesModel", "isBlock", "(I)Z"⟩
theorem q_M_isBlock : KQd y_M_isBlock 1 := by decide +kernel
abbrev b_M_isInline : ByteArray := prog_7_method_5_code
abbrev y_M_isInline : MethodName := ⟨"ProsePagesModel", "isInline", "(I)Z"⟩
theorem q_M_isInline : KQd y_M_isInline 1 := by decide +kernel
abbrev b_M_mayHold : ByteArray := prog_7_method_6_code
abbrev y_M_mayHold : MethodName := ⟨"ProsePagesModel", "mayHold", "(II)Z"⟩
theorem q_M_mayHold : KQd y_M_mayHold 2 := by decide +kernel
abbrev b_M_isFull : ByteArray := prog_7_method_7_code
abbrev y_M_isFull : MethodName := ⟨"ProsePagesModel", "isFull", "()Z"⟩
theorem q_M_isFull : KQd y_M_isFull 0 := by decide +kernel
abbrev b_M_add : ByteArray := prog_7_method_8_code
abbrev y_M_add : MethodName := ⟨"ProsePagesModel", "add", "(II)I"⟩
theorem q_M_add : KQd y_M_add 2 := by decide +kernel
abbrev b_M_begin : ByteArray := prog_7_method_9_code
abbrev y_M_begin : MethodName := ⟨"ProsePagesModel", "begin", "(II)I"⟩
theorem q_M_begin : KQd y_M_begin 2 := by decide +kernel
abbrev b_M_end : ByteArray := prog_7_method_10_code
abbrev y_M_end : MethodName := ⟨"ProsePagesModel", "end", "()I"⟩
theorem q_M_end : KQd y_M_end 0 := by decide +kernel
abbrev b_M_say : ByteArray := prog_7_method_11_code
abbrev y_M_say : MethodName := ⟨"ProsePagesModel", "say", "(IIIII)I"⟩
theorem q_M_say : KQd y_M_say 5 := by decide +kernel
abbrev b_M_clear : ByteArray := prog_7_method_12_code
abbrev y_M_clear : MethodName := ⟨"ProsePagesModel", "clear", "()V"⟩
theorem q_M_clear : KQd y_M_clear 0 := by decide +kernel
abbrev b_M_signLength : ByteArray := prog_7_method_13_code
abbrev y_M_signLength : MethodName := ⟨"ProsePagesModel", "signLength", "(I)I"⟩
theorem q_M_signLength : KQd y_M_signLength 1 := by decide +kernel
abbrev b_M_show : ByteArray := prog_7_method_14_code
abbrev y_M_show : MethodName := ⟨"ProsePagesModel", "show", "(I)V"⟩
theorem q_M_show : KQd y_M_show 1 := by decide +kernel
abbrev b_M_showNumber : ByteArray := prog_7_method_15_code
abbrev y_M_showNumber : MethodName := ⟨"ProsePagesModel", "showNumber", "(I)V"⟩
theorem q_M_showNumber : KQd y_M_showNumber 1 := by decide +kernel
abbrev b_M_showHolders : ByteArray := prog_7_method_16_code
abbrev y_M_showHolders : MethodName := ⟨"ProsePagesModel", "showHolders", "(I)V"⟩
theorem q_M_showHolders : KQd y_M_showHolders 1 := by decide +kernel
abbrev b_M_endLine : ByteArray := prog_7_method_17_code
abbrev y_M_endLine : MethodName := ⟨"ProsePagesModel", "endLine", "(Z)V"⟩
theorem q_M_endLine : KQd y_M_endLine 1 := by decide +kernel
abbrev b_M_giveLine : ByteArray := prog_7_method_18_code
abbrev y_M_giveLine : MethodName := ⟨"ProsePagesModel", "giveLine", "([III)V"⟩
theorem q_M_giveLine : KQd y_M_giveLine 3 := by decide +kernel
abbrev b_M_giveNow : ByteArray := prog_7_method_19_code
abbrev y_M_giveNow : MethodName := ⟨"ProsePagesModel", "giveNow", "()V"⟩
theorem q_M_giveNow : KQd y_M_giveNow 0 := by decide +kernel
abbrev b_M_endWord : ByteArray := prog_7_method_20_code
abbrev y_M_endWord : MethodName := ⟨"ProsePagesModel", "endWord", "()V"⟩
theorem q_M_endWord : KQd y_M_endWord 0 := by decide +kernel
abbrev b_M_hear : ByteArray := prog_7_method_21_code
abbrev y_M_hear : MethodName := ⟨"ProsePagesModel", "hear", "(I)V"⟩
theorem q_M_hear : KQd y_M_hear 1 := by decide +kernel
abbrev b_M_beginLeaf : ByteArray := prog_7_method_22_code
abbrev y_M_beginLeaf : MethodName := ⟨"ProsePagesModel", "beginLeaf", "()V"⟩
theorem q_M_beginLeaf : KQd y_M_beginLeaf 0 := by decide +kernel
abbrev b_M_endLeaf : ByteArray := prog_7_method_23_code
abbrev y_M_endLeaf : MethodName := ⟨"ProsePagesModel", "endLeaf", "()V"⟩
theorem q_M_endLeaf : KQd y_M_endLeaf 0 := by decide +kernel
abbrev b_M_hold : ByteArray := prog_7_method_24_code
abbrev y_M_hold : MethodName := ⟨"ProsePagesModel", "hold", "(IIIZ)V"⟩
theorem q_M_hold : KQd y_M_hold 4 := by decide +kernel
abbrev b_M_holdsParagraph : ByteArray := prog_7_method_25_code
abbrev y_M_holdsParagraph : MethodName := ⟨"ProsePagesModel", "holdsParagraph", "(I)Z"⟩
theorem q_M_holdsParagraph : KQd y_M_holdsParagraph 1 := by decide +kernel
abbrev b_M_holdsWideItem : ByteArray := prog_7_method_26_code
abbrev y_M_holdsWideItem : MethodName := ⟨"ProsePagesModel", "holdsWideItem", "(I)Z"⟩
theorem q_M_holdsWideItem : KQd y_M_holdsWideItem 1 := by decide +kernel
abbrev b_M_layCode : ByteArray := prog_7_method_27_code
abbrev y_M_layCode : MethodName := ⟨"ProsePagesModel", "layCode", "(I)V"⟩
theorem q_M_layCode : KQd y_M_layCode 1 := by decide +kernel
abbrev b_M_layPieces : ByteArray := prog_7_method_28_code
abbrev y_M_layPieces : MethodName := ⟨"ProsePagesModel", "layPieces", "()V"⟩
theorem q_M_layPieces : KQd y_M_layPieces 0 := by decide +kernel
abbrev b_M_beginNode : ByteArray := prog_7_method_29_code
abbrev y_M_beginNode : MethodName := ⟨"ProsePagesModel", "beginNode", "(I)V"⟩
theorem q_M_beginNode : KQd y_M_beginNode 1 := by decide +kernel
abbrev b_M_endNode : ByteArray := prog_7_method_30_code
abbrev y_M_endNode : MethodName := ⟨"ProsePagesModel", "endNode", "(I)V"⟩
theorem q_M_endNode : KQd y_M_endNode 1 := by decide +kernel
abbrev b_M_layOut : ByteArray := prog_7_method_31_code
abbrev y_M_layOut : MethodName := ⟨"ProsePagesModel", "layOut", "()V"⟩
theorem q_M_layOut : KQd y_M_layOut 0 := by decide +kernel
abbrev b_M_paginate : ByteArray := prog_7_method_32_code
abbrev y_M_paginate : MethodName := ⟨"ProsePagesModel", "paginate", "()I"⟩
theorem q_M_paginate : KQd y_M_paginate 0 := by decide +kernel
abbrev b_M_pages : ByteArray := prog_7_method_33_code
abbrev y_M_pages : MethodName := ⟨"ProsePagesModel", "pages", "(II)I"⟩
theorem q_M_pages : KQd y_M_pages 2 := by decide +kernel
abbrev b_M_cell : ByteArray := prog_7_method_34_code
abbrev y_M_cell : MethodName := ⟨"ProsePagesModel", "cell", "(III)I"⟩
theorem q_M_cell : KQd y_M_cell 3 := by decide +kernel
abbrev b_M_page : ByteArray := prog_7_method_35_code
abbrev y_M_page : MethodName := ⟨"ProsePagesModel", "page", "(II)I"⟩
theorem q_M_page : KQd y_M_page 2 := by decide +kernel
abbrev b_M_line : ByteArray := prog_7_method_36_code
abbrev y_M_line : MethodName := ⟨"ProsePagesModel", "line", "(II)I"⟩
theorem q_M_line : KQd y_M_line 2 := by decide +kernel
abbrev b_M_find : ByteArray := prog_7_method_37_code
abbrev y_M_find : MethodName := ⟨"ProsePagesModel", "find", "(I)I"⟩
theorem q_M_find : KQd y_M_find 1 := by decide +kernel
abbrev b_M_node : ByteArray := prog_7_method_38_code
abbrev y_M_node : MethodName := ⟨"ProsePagesModel", "node", "(II)I"⟩
theorem q_M_node : KQd y_M_node 2 := by decide +kernel
abbrev b_M_about : ByteArray := prog_7_method_39_code
abbrev y_M_about : MethodName := ⟨"ProsePagesModel", "about", "(I)I"⟩
theorem q_M_about : KQd y_M_about 1 := by decide +kernel
abbrev b_N_init : ByteArray := prog_2_method_1_code
abbrev y_N_init : MethodName := ⟨"ProsePages$Node", "<init>", "(IIILProsePages$Node;I)V"⟩
theorem q_N_init : KQd y_N_init 5 := by decide +kernel
abbrev b_N_isInline : ByteArray := prog_2_method_2_code
abbrev y_N_isInline : MethodName := ⟨"ProsePages$Node", "isInline", "()Z"⟩
theorem q_N_isInline : KQd y_N_isInline 0 := by decide +kernel
abbrev b_N_mayHold : ByteArray := prog_2_method_3_code
abbrev y_N_mayHold : MethodName := ⟨"ProsePages$Node", "mayHold", "(I)Z"⟩
theorem q_N_mayHold : KQd y_N_mayHold 1 := by decide +kernel
abbrev b_N_take : ByteArray := prog_2_method_4_code
abbrev y_N_take : MethodName := ⟨"ProsePages$Node", "take", "(LProsePages$Node;)V"⟩
theorem q_N_take : KQd y_N_take 1 := by decide +kernel
abbrev b_N_reachTo : ByteArray := prog_2_method_5_code
abbrev y_N_reachTo : MethodName := ⟨"ProsePages$Node", "reachTo", "(I)V"⟩
theorem q_N_reachTo : KQd y_N_reachTo 1 := by decide +kernel
abbrev b_N_lastOfPart : ByteArray := prog_2_method_6_code
abbrev y_N_lastOfPart : MethodName := ⟨"ProsePages$Node", "lastOfPart", "()LProsePages$Node;"⟩
theorem q_N_lastOfPart : KQd y_N_lastOfPart 0 := by decide +kernel
abbrev b_R_init : ByteArray := prog_3_method_1_code
abbrev y_R_init : MethodName := ⟨"ProsePages$Row", "<init>", "()V"⟩
theorem q_R_init : KQd y_R_init 0 := by decide +kernel
abbrev b_R_size : ByteArray := prog_3_method_2_code
abbrev y_R_size : MethodName := ⟨"ProsePages$Row", "size", "()I"⟩
theorem q_R_size : KQd y_R_size 0 := by decide +kernel
abbrev b_R_get : ByteArray := prog_3_method_3_code
abbrev y_R_get : MethodName := ⟨"ProsePages$Row", "get", "(I)I"⟩
theorem q_R_get : KQd y_R_get 1 := by decide +kernel
abbrev b_R_set : ByteArray := prog_3_method_4_code
abbrev y_R_set : MethodName := ⟨"ProsePages$Row", "set", "(II)V"⟩
theorem q_R_set : KQd y_R_set 2 := by decide +kernel
abbrev b_R_add : ByteArray := prog_3_method_5_code
abbrev y_R_add : MethodName := ⟨"ProsePages$Row", "add", "(I)V"⟩
theorem q_R_add : KQd y_R_add 1 := by decide +kernel
abbrev b_R_addAll : ByteArray := prog_3_method_6_code
abbrev y_R_addAll : MethodName := ⟨"ProsePages$Row", "addAll", "(LProsePages$Row;)V"⟩
theorem q_R_addAll : KQd y_R_addAll 1 := by decide +kernel
abbrev b_R_cut : ByteArray := prog_3_method_7_code
abbrev y_R_cut : MethodName := ⟨"ProsePages$Row", "cut", "(I)V"⟩
theorem q_R_cut : KQd y_R_cut 1 := by decide +kernel
abbrev b_S_init : ByteArray := prog_4_method_1_code
abbrev y_S_init : MethodName := ⟨"ProsePages$Setter", "<init>", "()V"⟩
theorem q_S_init : KQd y_S_init 0 := by decide +kernel
abbrev b_S_layParts : ByteArray := prog_4_method_2_code
abbrev y_S_layParts : MethodName := ⟨"ProsePages$Setter", "layParts", "(LProsePages$Node;I)V"⟩
theorem q_S_layParts : KQd y_S_layParts 2 := by decide +kernel
abbrev b_S_layPart : ByteArray := prog_4_method_3_code
abbrev y_S_layPart : MethodName := ⟨"ProsePages$Setter", "layPart", "(LProsePages$Node;LProsePages$Node;I)V"⟩
theorem q_S_layPart : KQd y_S_layPart 3 := by decide +kernel
abbrev b_S_addHeadingSign : ByteArray := prog_4_method_4_code
abbrev y_S_addHeadingSign : MethodName := ⟨"ProsePages$Setter", "addHeadingSign", "(II)V"⟩
theorem q_S_addHeadingSign : KQd y_S_addHeadingSign 2 := by decide +kernel
abbrev b_S_layRule : ByteArray := prog_4_method_5_code
abbrev y_S_layRule : MethodName := ⟨"ProsePages$Setter", "layRule", "(I)V"⟩
theorem q_S_layRule : KQd y_S_layRule 1 := by decide +kernel
abbrev b_S_layCode : ByteArray := prog_4_method_6_code
abbrev y_S_layCode : MethodName := ⟨"ProsePages$Setter", "layCode", "(LProsePages$Node;I)V"⟩
theorem q_S_layCode : KQd y_S_layCode 2 := by decide +kernel
abbrev b_S_layQuote : ByteArray := prog_4_method_7_code
abbrev y_S_layQuote : MethodName := ⟨"ProsePages$Setter", "layQuote", "(LProsePages$Node;I)V"⟩
theorem q_S_layQuote : KQd y_S_layQuote 2 := by decide +kernel
abbrev b_S_layItems : ByteArray := prog_4_method_8_code
abbrev y_S_layItems : MethodName := ⟨"ProsePages$Setter", "layItems", "(LProsePages$Node;I)V"⟩
theorem q_S_layItems : KQd y_S_layItems 2 := by decide +kernel
abbrev b_S_layWords : ByteArray := prog_4_method_9_code
abbrev y_S_layWords : MethodName := ⟨"ProsePages$Setter", "layWords", "(III)V"⟩
theorem q_S_layWords : KQd y_S_layWords 3 := by decide +kernel
abbrev b_S_addLetter : ByteArray := prog_4_method_10_code
abbrev y_S_addLetter : MethodName := ⟨"ProsePages$Setter", "addLetter", "(II)V"⟩
theorem q_S_addLetter : KQd y_S_addLetter 2 := by decide +kernel
abbrev b_S_endWord : ByteArray := prog_4_method_11_code
abbrev y_S_endWord : MethodName := ⟨"ProsePages$Setter", "endWord", "(I)V"⟩
theorem q_S_endWord : KQd y_S_endWord 1 := by decide +kernel
abbrev b_S_putLine : ByteArray := prog_4_method_12_code
abbrev y_S_putLine : MethodName := ⟨"ProsePages$Setter", "putLine", "()V"⟩
theorem q_S_putLine : KQd y_S_putLine 0 := by decide +kernel
abbrev b_S_putBetween : ByteArray := prog_4_method_13_code
abbrev y_S_putBetween : MethodName := ⟨"ProsePages$Setter", "putBetween", "()V"⟩
theorem q_S_putBetween : KQd y_S_putBetween 0 := by decide +kernel
abbrev b_S_addSign : ByteArray := prog_4_method_14_code
abbrev y_S_addSign : MethodName := ⟨"ProsePages$Setter", "addSign", "(II)V"⟩
theorem q_S_addSign : KQd y_S_addSign 2 := by decide +kernel
abbrev b_S_addDigits : ByteArray := prog_4_method_15_code
abbrev y_S_addDigits : MethodName := ⟨"ProsePages$Setter", "addDigits", "(I)V"⟩
theorem q_S_addDigits : KQd y_S_addDigits 1 := by decide +kernel
abbrev b_S_addAhead : ByteArray := prog_4_method_16_code
abbrev y_S_addAhead : MethodName := ⟨"ProsePages$Setter", "addAhead", "(II)V"⟩
theorem q_S_addAhead : KQd y_S_addAhead 2 := by decide +kernel
abbrev b_S_cutAhead : ByteArray := prog_4_method_17_code
abbrev y_S_cutAhead : MethodName := ⟨"ProsePages$Setter", "cutAhead", "(I)V"⟩
theorem q_S_cutAhead : KQd y_S_cutAhead 1 := by decide +kernel
abbrev b_S_hasLines : ByteArray := prog_4_method_18_code
abbrev y_S_hasLines : MethodName := ⟨"ProsePages$Setter", "hasLines", "(LProsePages$Node;LProsePages$Node;)Z"⟩
theorem q_S_hasLines : KQd y_S_hasLines 2 := by decide +kernel
abbrev b_S_holdsLines : ByteArray := prog_4_method_19_code
abbrev y_S_holdsLines : MethodName := ⟨"ProsePages$Setter", "holdsLines", "(LProsePages$Node;)Z"⟩
theorem q_S_holdsLines : KQd y_S_holdsLines 1 := by decide +kernel
abbrev b_S_holdsParagraph : ByteArray := prog_4_method_20_code
abbrev y_S_holdsParagraph : MethodName := ⟨"ProsePages$Setter", "holdsParagraph", "(LProsePages$Node;)Z"⟩
theorem q_S_holdsParagraph : KQd y_S_holdsParagraph 1 := by decide +kernel
abbrev b_S_hasWords : ByteArray := prog_4_method_21_code
abbrev y_S_hasWords : MethodName := ⟨"ProsePages$Setter", "hasWords", "(II)Z"⟩
theorem q_S_hasWords : KQd y_S_hasWords 2 := by decide +kernel
abbrev b_S_narrower : ByteArray := prog_4_method_22_code
abbrev y_S_narrower : MethodName := ⟨"ProsePages$Setter", "narrower", "(II)I"⟩
theorem q_S_narrower : KQd y_S_narrower 2 := by decide +kernel
abbrev b_T_init : ByteArray := prog_5_method_1_code
abbrev y_T_init : MethodName := ⟨"ProsePages$Sheet", "<init>", "()V"⟩
theorem q_T_init : KQd y_T_init 0 := by decide +kernel
abbrev b_T_lineCount : ByteArray := prog_5_method_2_code
abbrev y_T_lineCount : MethodName := ⟨"ProsePages$Sheet", "lineCount", "()I"⟩
theorem q_T_lineCount : KQd y_T_lineCount 0 := by decide +kernel
abbrev b_T_pageCount : ByteArray := prog_5_method_3_code
abbrev y_T_pageCount : MethodName := ⟨"ProsePages$Sheet", "pageCount", "()I"⟩
theorem q_T_pageCount : KQd y_T_pageCount 0 := by decide +kernel
abbrev b_T_reset : ByteArray := prog_5_method_4_code
abbrev y_T_reset : MethodName := ⟨"ProsePages$Sheet", "reset", "(II)V"⟩
theorem q_T_reset : KQd y_T_reset 2 := by decide +kernel
abbrev b_T_addLine : ByteArray := prog_5_method_5_code
abbrev y_T_addLine : MethodName := ⟨"ProsePages$Sheet", "addLine", "(LProsePages$Row;LProsePages$Row;I)V"⟩
theorem q_T_addLine : KQd y_T_addLine 3 := by decide +kernel
abbrev b_T_fillPages : ByteArray := prog_5_method_6_code
abbrev y_T_fillPages : MethodName := ⟨"ProsePages$Sheet", "fillPages", "()V"⟩
theorem q_T_fillPages : KQd y_T_fillPages 0 := by decide +kernel
abbrev b_T_isPageEndedBy : ByteArray := prog_5_method_7_code
abbrev y_T_isPageEndedBy : MethodName := ⟨"ProsePages$Sheet", "isPageEndedBy", "(II)Z"⟩
theorem q_T_isPageEndedBy : KQd y_T_isPageEndedBy 2 := by decide +kernel
abbrev b_T_pageFrom : ByteArray := prog_5_method_8_code
abbrev y_T_pageFrom : MethodName := ⟨"ProsePages$Sheet", "pageFrom", "(I)I"⟩
theorem q_T_pageFrom : KQd y_T_pageFrom 1 := by decide +kernel
abbrev b_T_character : ByteArray := prog_5_method_9_code
abbrev y_T_character : MethodName := ⟨"ProsePages$Sheet", "character", "(III)I"⟩
theorem q_T_character : KQd y_T_character 3 := by decide +kernel
abbrev b_L_begin : ByteArray := method_3_code
abbrev y_L_begin : MethodName := ⟨"ProsePagesLaw", "begin", "(LProsePages;II[J)I"⟩
theorem q_L_begin : KQd y_L_begin 4 := by decide +kernel
abbrev b_L_say : ByteArray := method_4_code
abbrev y_L_say : MethodName := ⟨"ProsePagesLaw", "say", "(LProsePages;IIIII[J)I"⟩
theorem q_L_say : KQd y_L_say 7 := by decide +kernel
abbrev b_L_pages : ByteArray := method_5_code
abbrev y_L_pages : MethodName := ⟨"ProsePagesLaw", "pages", "(LProsePages;II[J)I"⟩
theorem q_L_pages : KQd y_L_pages 4 := by decide +kernel
abbrev b_L_law : ByteArray := code
end
section
theorem d_P_init_0 : decode b_P_init 0 = .ok (.aload_n 0, 1) := by decide +kernel
theorem d_P_init_1 : decode b_P_init 1 = .ok (.invokespecial 3, 3) := by decide +kernel
theorem d_P_init_4 : decode b_P_init 4 = .ok (.aload_n 0, 1) := by decide +kernel
theorem d_P_init_5 : decode b_P_init 5 = .ok (.sipush (300), 3) := by decide +kernel
theorem d_P_init_8 : decode b_P_init 8 = .ok (.anewarray 9, 3) := by decide +kernel
theorem d_P_init_11 : decode b_P_init 11 = .ok (.putfield 11, 3) := by decide +kernel
theorem d_P_init_14 : decode b_P_init 14 = .ok (.aload_n 0, 1) := by decide +kernel
theorem d_P_init_15 : decode b_P_init 15 = .ok (.new 15, 3) := by decide +kernel
theorem d_P_init_18 : decode b_P_init 18 = .ok (.dup, 1) := by decide +kernel
theorem d_P_init_19 : decode b_P_init 19 = .ok (.invokespecial 17, 3) := by decide +kernel
theorem d_P_init_22 : decode b_P_init 22 = .ok (.putfield 18, 3) := by decide +kernel
theorem d_P_init_25 : decode b_P_init 25 = .ok (.aload_n 0, 1) := by decide +kernel
theorem d_P_init_26 : decode b_P_init 26 = .ok (.new 22, 3) := by decide +kernel
theorem d_P_init_29 : decode b_P_init 29 = .ok (.dup, 1) := by decide +kernel
theorem d_P_init_30 : decode b_P_init 30 = .ok (.invokespecial 24, 3) := by decide +kernel
theorem d_P_init_33 : decode b_P_init 33 = .ok (.putfield 25, 3) := by decide +kernel
theorem d_P_init_36 : decode b_P_init 36 = .ok (.aload_n 0, 1) := by decide +kernel
theorem d_P_init_37 : decode b_P_init 37 = .ok (.new 9, 3) := by decide +kernel
theorem d_P_init_40 : decode b_P_init 40 = .ok (.dup, 1) := by decide +kernel
theorem d_P_init_41 : decode b_P_init 41 = .ok (.iconst 0, 1) := by decide +kernel
theorem d_P_init_42 : decode b_P_init 42 = .ok (.iconst (-1), 1) := by decide +kernel
theorem d_P_init_43 : decode b_P_init 43 = .ok (.iconst 0, 1) := by decide +kernel
theorem d_P_init_44 : decode b_P_init 44 = .ok (.aconst_null, 1) := by decide +kernel
theorem d_P_init_45 : decode b_P_init 45 = .ok (.iconst 0, 1) := by decide +kernel
theorem d_P_init_46 : decode b_P_init 46 = .ok (.invokespecial 29, 3) := by decide +kernel
theorem d_P_init_49 : decode b_P_init 49 = .ok (.putfield 32, 3) := by decide +kernel
theorem d_P_init_52 : decode b_P_init 52 = .ok (.aload_n 0, 1) := by decide +kernel
theorem d_P_init_53 : decode b_P_init 53 = .ok (.aload_n 0, 1) := by decide +kernel
theorem d_P_init_54 : decode b_P_init 54 = .ok (.getfield 32, 3) := by decide +kernel
theorem d_P_init_57 : decode b_P_init 57 = .ok (.putfield 36, 3) := by decide +kernel
theorem d_P_init_60 : decode b_P_init 60 = .ok (.aload_n 0, 1) := by decide +kernel
theorem d_P_init_61 : decode b_P_init 61 = .ok (.getfield 11, 3) := by decide +kernel
theorem d_P_init_64 : decode b_P_init 64 = .ok (.iconst 0, 1) := by decide +kernel
theorem d_P_init_65 : decode b_P_init 65 = .ok (.aload_n 0, 1) := by decide +kernel
theorem d_P_init_66 : decode b_P_init 66 = .ok (.getfield 32, 3) := by decide +kernel
theorem d_P_init_69 : decode b_P_init 69 = .ok (.aastore, 1) := by decide +kernel
theorem d_P_init_70 : decode b_P_init 70 = .ok (.aload_n 0, 1) := by decide +kernel
theorem d_P_init_71 : decode b_P_init 71 = .ok (.iconst 1, 1) := by decide +kernel
theorem d_P_init_72 : decode b_P_init 72 = .ok (.putfield 39, 3) := by decide +kernel
theorem d_P_init_75 : decode b_P_init 75 = .ok (.return_, 1) := by decide +kernel
theorem d_P_begin_0 : decode b_P_begin 0 = .ok (.aload_n 0, 1) := by decide +kernel
theorem d_P_begin_1 : decode b_P_begin 1 = .ok (.invokevirtual 43, 3) := by decide +kernel
theorem d_P_begin_4 : decode b_P_begin 4 = .ok (.ifCond .eq (13), 3) := by decide +kernel
theorem d_P_begin_7 : decode b_P_begin 7 = .ok (.new 47, 3) := by decide +kernel
theorem d_P_begin_10 : decode b_P_begin 10 = .ok (.dup, 1) := by decide +kernel
theorem d_P_begin_11 : decode b_P_begin 11 = .ok (.ldc 49, 2) := by decide +kernel
theorem d_P_begin_13 : decode b_P_begin 13 = .ok (.invokespecial 51, 3) := by decide +kernel
theorem d_P_begin_16 : decode b_P_begin 16 = .ok (.athrow, 1) := by decide +kernel
theorem d_P_begin_17 : decode b_P_begin 17 = .ok (.iload_n 1, 1) := by decide +kernel
theorem d_P_begin_18 : decode b_P_begin 18 = .ok (.ifCond .lt (20), 3) := by decide +kernel
theorem d_P_begin_21 : decode b_P_begin 21 = .ok (.iload_n 1, 1) := by decide +kernel
theorem d_P_begin_22 : decode b_P_begin 22 = .ok (.bipush (9), 2) := by decide +kernel
theorem d_P_begin_24 : decode b_P_begin 24 = .ok (.if_icmp .gt (14), 3) := by decide +kernel
theorem d_P_begin_27 : decode b_P_begin 27 = .ok (.aload_n 0, 1) := by decide +kernel
theorem d_P_begin_28 : decode b_P_begin 28 = .ok (.getfield 36, 3) := by decide +kernel
theorem d_P_begin_31 : decode b_P_begin 31 = .ok (.iload_n 1, 1) := by decide +kernel
theorem d_P_begin_32 : decode b_P_begin 32 = .ok (.invokevirtual 54, 3) := by decide +kernel
theorem d_P_begin_35 : decode b_P_begin 35 = .ok (.ifCond .ne (13), 3) := by decide +kernel
theorem d_P_begin_38 : decode b_P_begin 38 = .ok (.new 58, 3) := by decide +kernel
theorem d_P_begin_41 : decode b_P_begin 41 = .ok (.dup, 1) := by decide +kernel
theorem d_P_begin_42 : decode b_P_begin 42 = .ok (.ldc 60, 2) := by decide +kernel
theorem d_P_begin_44 : decode b_P_begin 44 = .ok (.invokespecial 62, 3) := by decide +kernel
theorem d_P_begin_47 : decode b_P_begin 47 = .ok (.athrow, 1) := by decide +kernel
theorem d_P_begin_48 : decode b_P_begin 48 = .ok (.iload_n 1, 1) := by decide +kernel
theorem d_P_begin_49 : decode b_P_begin 49 = .ok (.iload_n 2, 1) := by decide +kernel
theorem d_P_begin_50 : decode b_P_begin 50 = .ok (.invokestatic 63, 3) := by decide +kernel
theorem d_P_begin_53 : decode b_P_begin 53 = .ok (.ifCond .ne (13), 3) := by decide +kernel
theorem d_P_begin_56 : decode b_P_begin 56 = .ok (.new 58, 3) := by decide +kernel
theorem d_P_begin_59 : decode b_P_begin 59 = .ok (.dup, 1) := by decide +kernel
theorem d_P_begin_60 : decode b_P_begin 60 = .ok (.ldc 67, 2) := by decide +kernel
theorem d_P_begin_62 : decode b_P_begin 62 = .ok (.invokespecial 62, 3) := by decide +kernel
theorem d_P_begin_65 : decode b_P_begin 65 = .ok (.athrow, 1) := by decide +kernel
theorem d_P_begin_66 : decode b_P_begin 66 = .ok (.aload_n 0, 1) := by decide +kernel
theorem d_P_begin_67 : decode b_P_begin 67 = .ok (.iload_n 1, 1) := by decide +kernel
theorem d_P_begin_68 : decode b_P_begin 68 = .ok (.iload_n 1, 1) := by decide +kernel
theorem d_P_begin_69 : decode b_P_begin 69 = .ok (.iconst 1, 1) := by decide +kernel
theorem d_P_begin_70 : decode b_P_begin 70 = .ok (.if_icmp .eq (9), 3) := by decide +kernel
theorem d_P_begin_73 : decode b_P_begin 73 = .ok (.iload_n 1, 1) := by decide +kernel
theorem d_P_begin_74 : decode b_P_begin 74 = .ok (.bipush (6), 2) := by decide +kernel
theorem d_P_begin_76 : decode b_P_begin 76 = .ok (.if_icmp .ne (7), 3) := by decide +kernel
theorem d_P_begin_79 : decode b_P_begin 79 = .ok (.iload_n 2, 1) := by decide +kernel
theorem d_P_begin_80 : decode b_P_begin 80 = .ok (.goto (4), 3) := by decide +kernel
theorem d_P_begin_83 : decode b_P_begin 83 = .ok (.iconst 0, 1) := by decide +kernel
theorem d_P_begin_84 : decode b_P_begin 84 = .ok (.invokevirtual 69, 3) := by decide +kernel
theorem d_P_begin_87 : decode b_P_begin 87 = .ok (.astore_n 3, 1) := by decide +kernel
theorem d_P_begin_88 : decode b_P_begin 88 = .ok (.iload_n 1, 1) := by decide +kernel
theorem d_P_begin_89 : decode b_P_begin 89 = .ok (.bipush (9), 2) := by decide +kernel
theorem d_P_begin_91 : decode b_P_begin 91 = .ok (.if_icmp .ne (30), 3) := by decide +kernel
theorem d_P_begin_94 : decode b_P_begin 94 = .ok (.aload_n 0, 1) := by decide +kernel
theorem d_P_begin_95 : decode b_P_begin 95 = .ok (.getfield 18, 3) := by decide +kernel
theorem d_P_begin_98 : decode b_P_begin 98 = .ok (.getfield 73, 3) := by decide +kernel
theorem d_P_begin_101 : decode b_P_begin 101 = .ok (.sipush (256), 3) := by decide +kernel
theorem d_P_begin_104 : decode b_P_begin 104 = .ok (.invokevirtual 77, 3) := by decide +kernel
theorem d_P_begin_107 : decode b_P_begin 107 = .ok (.aload_n 3, 1) := by decide +kernel
theorem d_P_begin_108 : decode b_P_begin 108 = .ok (.aload_n 0, 1) := by decide +kernel
theorem d_P_begin_109 : decode b_P_begin 109 = .ok (.getfield 18, 3) := by decide +kernel
theorem d_P_begin_112 : decode b_P_begin 112 = .ok (.getfield 73, 3) := by decide +kernel
theorem d_P_begin_115 : decode b_P_begin 115 = .ok (.invokevirtual 83, 3) := by decide +kernel
theorem d_P_begin_118 : decode b_P_begin 118 = .ok (.invokevirtual 87, 3) := by decide +kernel
theorem d_P_begin_121 : decode b_P_begin 121 = .ok (.iload_n 1, 1) := by decide +kernel
theorem d_P_begin_122 : decode b_P_begin 122 = .ok (.sipush (-1541), 3) := by decide +kernel
theorem d_P_begin_125 : decode b_P_begin 125 = .ok (.invokestatic 90, 3) := by decide +kernel
theorem d_P_begin_128 : decode b_P_begin 128 = .ok (.ifCond .eq (8), 3) := by decide +kernel
theorem d_P_begin_131 : decode b_P_begin 131 = .ok (.aload_n 0, 1) := by decide +kernel
theorem d_P_begin_132 : decode b_P_begin 132 = .ok (.aload_n 3, 1) := by decide +kernel
theorem d_P_begin_133 : decode b_P_begin 133 = .ok (.putfield 36, 3) := by decide +kernel
theorem d_P_begin_136 : decode b_P_begin 136 = .ok (.aload_n 3, 1) := by decide +kernel
theorem d_P_begin_137 : decode b_P_begin 137 = .ok (.getfield 93, 3) := by decide +kernel
theorem d_P_begin_140 : decode b_P_begin 140 = .ok (.ireturn, 1) := by decide +kernel
theorem d_P_end_0 : decode b_P_end 0 = .ok (.aload_n 0, 1) := by decide +kernel
theorem d_P_end_1 : decode b_P_end 1 = .ok (.getfield 36, 3) := by decide +kernel
theorem d_P_end_4 : decode b_P_end 4 = .ok (.getfield 96, 3) := by decide +kernel
theorem d_P_end_7 : decode b_P_end 7 = .ok (.ifnonnull (5), 3) := by decide +kernel
theorem d_P_end_10 : decode b_P_end 10 = .ok (.iconst (-1), 1) := by decide +kernel
theorem d_P_end_11 : decode b_P_end 11 = .ok (.ireturn, 1) := by decide +kernel
theorem d_P_end_12 : decode b_P_end 12 = .ok (.aload_n 0, 1) := by decide +kernel
theorem d_P_end_13 : decode b_P_end 13 = .ok (.aload_n 0, 1) := by decide +kernel
theorem d_P_end_14 : decode b_P_end 14 = .ok (.getfield 36, 3) := by decide +kernel
theorem d_P_end_17 : decode b_P_end 17 = .ok (.getfield 96, 3) := by decide +kernel
theorem d_P_end_20 : decode b_P_end 20 = .ok (.putfield 36, 3) := by decide +kernel
theorem d_P_end_23 : decode b_P_end 23 = .ok (.aload_n 0, 1) := by decide +kernel
theorem d_P_end_24 : decode b_P_end 24 = .ok (.getfield 36, 3) := by decide +kernel
theorem d_P_end_27 : decode b_P_end 27 = .ok (.getfield 93, 3) := by decide +kernel
theorem d_P_end_30 : decode b_P_end 30 = .ok (.ireturn, 1) := by decide +kernel
theorem d_P_say_0 : decode b_P_say 0 = .ok (.iload 5, 2) := by decide +kernel
theorem d_P_say_2 : decode b_P_say 2 = .ok (.iconst 1, 1) := by decide +kernel
theorem d_P_say_3 : decode b_P_say 3 = .ok (.if_icmp .lt (21), 3) := by decide +kernel
theorem d_P_say_6 : decode b_P_say 6 = .ok (.iload 5, 2) := by decide +kernel
theorem d_P_say_8 : decode b_P_say 8 = .ok (.iconst 4, 1) := by decide +kernel
theorem d_P_say_9 : decode b_P_say 9 = .ok (.if_icmp .gt (15), 3) := by decide +kernel
theorem d_P_say_12 : decode b_P_say 12 = .ok (.aload_n 0, 1) := by decide +kernel
theorem d_P_say_13 : decode b_P_say 13 = .ok (.getfield 36, 3) := by decide +kernel
theorem d_P_say_16 : decode b_P_say 16 = .ok (.bipush (10), 2) := by decide +kernel
theorem d_P_say_18 : decode b_P_say 18 = .ok (.invokevirtual 54, 3) := by decide +kernel
theorem d_P_say_21 : decode b_P_say 21 = .ok (.ifCond .ne (13), 3) := by decide +kernel
theorem d_P_say_24 : decode b_P_say 24 = .ok (.new 58, 3) := by decide +kernel
theorem d_P_say_27 : decode b_P_say 27 = .ok (.dup, 1) := by decide +kernel
theorem d_P_say_28 : decode b_P_say 28 = .ok (.ldc 99, 2) := by decide +kernel
theorem d_P_say_30 : decode b_P_say 30 = .ok (.invokespecial 62, 3) := by decide +kernel
theorem d_P_say_33 : decode b_P_say 33 = .ok (.athrow, 1) := by decide +kernel
theorem d_P_say_34 : decode b_P_say 34 = .ok (.aload_n 0, 1) := by decide +kernel
theorem d_P_say_35 : decode b_P_say 35 = .ok (.getfield 101, 3) := by decide +kernel
theorem d_P_say_38 : decode b_P_say 38 = .ok (.iload 5, 2) := by decide +kernel
theorem d_P_say_40 : decode b_P_say 40 = .ok (.iadd, 1) := by decide +kernel
theorem d_P_say_41 : decode b_P_say 41 = .ok (.sipush (4000), 3) := by decide +kernel
theorem d_P_say_44 : decode b_P_say 44 = .ok (.if_icmp .le (13), 3) := by decide +kernel
theorem d_P_say_47 : decode b_P_say 47 = .ok (.new 47, 3) := by decide +kernel
theorem d_P_say_50 : decode b_P_say 50 = .ok (.dup, 1) := by decide +kernel
theorem d_P_say_51 : decode b_P_say 51 = .ok (.ldc 104, 2) := by decide +kernel
theorem d_P_say_53 : decode b_P_say 53 = .ok (.invokespecial 51, 3) := by decide +kernel
theorem d_P_say_56 : decode b_P_say 56 = .ok (.athrow, 1) := by decide +kernel
theorem d_P_say_57 : decode b_P_say 57 = .ok (.aload_n 0, 1) := by decide +kernel
theorem d_P_say_58 : decode b_P_say 58 = .ok (.getfield 36, 3) := by decide +kernel
theorem d_P_say_61 : decode b_P_say 61 = .ok (.getfield 106, 3) := by decide +kernel
theorem d_P_say_64 : decode b_P_say 64 = .ok (.astore 6, 2) := by decide +kernel
theorem d_P_say_66 : decode b_P_say 66 = .ok (.aload 6, 2) := by decide +kernel
theorem d_P_say_68 : decode b_P_say 68 = .ok (.ifnull (13), 3) := by decide +kernel
theorem d_P_say_71 : decode b_P_say 71 = .ok (.aload 6, 2) := by decide +kernel
theorem d_P_say_73 : decode b_P_say 73 = .ok (.getfield 109, 3) := by decide +kernel
theorem d_P_say_76 : decode b_P_say 76 = .ok (.bipush (10), 2) := by decide +kernel
theorem d_P_say_78 : decode b_P_say 78 = .ok (.if_icmp .eq (29), 3) := by decide +kernel
theorem d_P_say_81 : decode b_P_say 81 = .ok (.aload_n 0, 1) := by decide +kernel
theorem d_P_say_82 : decode b_P_say 82 = .ok (.invokevirtual 43, 3) := by decide +kernel
theorem d_P_say_85 : decode b_P_say 85 = .ok (.ifCond .eq (13), 3) := by decide +kernel
theorem d_P_say_88 : decode b_P_say 88 = .ok (.new 47, 3) := by decide +kernel
theorem d_P_say_91 : decode b_P_say 91 = .ok (.dup, 1) := by decide +kernel
theorem d_P_say_92 : decode b_P_say 92 = .ok (.ldc 49, 2) := by decide +kernel
theorem d_P_say_94 : decode b_P_say 94 = .ok (.invokespecial 51, 3) := by decide +kernel
theorem d_P_say_97 : decode b_P_say 97 = .ok (.athrow, 1) := by decide +kernel
theorem d_P_say_98 : decode b_P_say 98 = .ok (.aload_n 0, 1) := by decide +kernel
theorem d_P_say_99 : decode b_P_say 99 = .ok (.bipush (10), 2) := by decide +kernel
theorem d_P_say_101 : decode b_P_say 101 = .ok (.iconst 0, 1) := by decide +kernel
theorem d_P_say_102 : decode b_P_say 102 = .ok (.invokevirtual 69, 3) := by decide +kernel
theorem d_P_say_105 : decode b_P_say 105 = .ok (.astore 6, 2) := by decide +kernel
theorem d_P_say_107 : decode b_P_say 107 = .ok (.aload_n 0, 1) := by decide +kernel
theorem d_P_say_108 : decode b_P_say 108 = .ok (.iload_n 1, 1) := by decide +kernel
theorem d_P_say_109 : decode b_P_say 109 = .ok (.iload_n 2, 1) := by decide +kernel
theorem d_P_say_110 : decode b_P_say 110 = .ok (.iload_n 3, 1) := by decide +kernel
theorem d_P_say_111 : decode b_P_say 111 = .ok (.iload 4, 2) := by decide +kernel
theorem d_P_say_113 : decode b_P_say 113 = .ok (.iload 5, 2) := by decide +kernel
theorem d_P_say_115 : decode b_P_say 115 = .ok (.invokevirtual 112, 3) := by decide +kernel
theorem d_P_say_118 : decode b_P_say 118 = .ok (.aload 6, 2) := by decide +kernel
theorem d_P_say_120 : decode b_P_say 120 = .ok (.dup, 1) := by decide +kernel
theorem d_P_say_121 : decode b_P_say 121 = .ok (.getfield 116, 3) := by decide +kernel
theorem d_P_say_124 : decode b_P_say 124 = .ok (.iload 5, 2) := by decide +kernel
theorem d_P_say_126 : decode b_P_say 126 = .ok (.iadd, 1) := by decide +kernel
theorem d_P_say_127 : decode b_P_say 127 = .ok (.putfield 116, 3) := by decide +kernel
theorem d_P_say_130 : decode b_P_say 130 = .ok (.aload 6, 2) := by decide +kernel
theorem d_P_say_132 : decode b_P_say 132 = .ok (.aload_n 0, 1) := by decide +kernel
theorem d_P_say_133 : decode b_P_say 133 = .ok (.getfield 18, 3) := by decide +kernel
theorem d_P_say_136 : decode b_P_say 136 = .ok (.getfield 73, 3) := by decide +kernel
theorem d_P_say_139 : decode b_P_say 139 = .ok (.invokevirtual 83, 3) := by decide +kernel
theorem d_P_say_142 : decode b_P_say 142 = .ok (.invokevirtual 87, 3) := by decide +kernel
theorem d_P_say_145 : decode b_P_say 145 = .ok (.aload 6, 2) := by decide +kernel
theorem d_P_say_147 : decode b_P_say 147 = .ok (.getfield 93, 3) := by decide +kernel
theorem d_P_say_150 : decode b_P_say 150 = .ok (.ireturn, 1) := by decide +kernel
theorem d_P_clear_0 : decode b_P_clear 0 = .ok (.aload_n 0, 1) := by decide +kernel
theorem d_P_clear_1 : decode b_P_clear 1 = .ok (.getfield 18, 3) := by decide +kernel
theorem d_P_clear_4 : decode b_P_clear 4 = .ok (.getfield 73, 3) := by decide +kernel
theorem d_P_clear_7 : decode b_P_clear 7 = .ok (.iconst 0, 1) := by decide +kernel
theorem d_P_clear_8 : decode b_P_clear 8 = .ok (.invokevirtual 119, 3) := by decide +kernel
theorem d_P_clear_11 : decode b_P_clear 11 = .ok (.aload_n 0, 1) := by decide +kernel
theorem d_P_clear_12 : decode b_P_clear 12 = .ok (.iconst 0, 1) := by decide +kernel
theorem d_P_clear_13 : decode b_P_clear 13 = .ok (.putfield 101, 3) := by decide +kernel
theorem d_P_clear_16 : decode b_P_clear 16 = .ok (.aload_n 0, 1) := by decide +kernel
theorem d_P_clear_17 : decode b_P_clear 17 = .ok (.new 9, 3) := by decide +kernel
theorem d_P_clear_20 : decode b_P_clear 20 = .ok (.dup, 1) := by decide +kernel
theorem d_P_clear_21 : decode b_P_clear 21 = .ok (.iconst 0, 1) := by decide +kernel
theorem d_P_clear_22 : decode b_P_clear 22 = .ok (.iconst (-1), 1) := by decide +kernel
theorem d_P_clear_23 : decode b_P_clear 23 = .ok (.iconst 0, 1) := by decide +kernel
theorem d_P_clear_24 : decode b_P_clear 24 = .ok (.aconst_null, 1) := by decide +kernel
theorem d_P_clear_25 : decode b_P_clear 25 = .ok (.iconst 0, 1) := by decide +kernel
theorem d_P_clear_26 : decode b_P_clear 26 = .ok (.invokespecial 29, 3) := by decide +kernel
theorem d_P_clear_29 : decode b_P_clear 29 = .ok (.putfield 32, 3) := by decide +kernel
theorem d_P_clear_32 : decode b_P_clear 32 = .ok (.aload_n 0, 1) := by decide +kernel
theorem d_P_clear_33 : decode b_P_clear 33 = .ok (.aload_n 0, 1) := by decide +kernel
theorem d_P_clear_34 : decode b_P_clear 34 = .ok (.getfield 32, 3) := by decide +kernel
theorem d_P_clear_37 : decode b_P_clear 37 = .ok (.putfield 36, 3) := by decide +kernel
theorem d_P_clear_40 : decode b_P_clear 40 = .ok (.aload_n 0, 1) := by decide +kernel
theorem d_P_clear_41 : decode b_P_clear 41 = .ok (.getfield 11, 3) := by decide +kernel
theorem d_P_clear_44 : decode b_P_clear 44 = .ok (.iconst 0, 1) := by decide +kernel
theorem d_P_clear_45 : decode b_P_clear 45 = .ok (.aload_n 0, 1) := by decide +kernel
theorem d_P_clear_46 : decode b_P_clear 46 = .ok (.getfield 32, 3) := by decide +kernel
theorem d_P_clear_49 : decode b_P_clear 49 = .ok (.aastore, 1) := by decide +kernel
theorem d_P_clear_50 : decode b_P_clear 50 = .ok (.aload_n 0, 1) := by decide +kernel
theorem d_P_clear_51 : decode b_P_clear 51 = .ok (.iconst 1, 1) := by decide +kernel
theorem d_P_clear_52 : decode b_P_clear 52 = .ok (.putfield 39, 3) := by decide +kernel
theorem d_P_clear_55 : decode b_P_clear 55 = .ok (.aload_n 0, 1) := by decide +kernel
theorem d_P_clear_56 : decode b_P_clear 56 = .ok (.iconst 0, 1) := by decide +kernel
theorem d_P_clear_57 : decode b_P_clear 57 = .ok (.putfield 122, 3) := by decide +kernel
theorem d_P_clear_60 : decode b_P_clear 60 = .ok (.return_, 1) := by decide +kernel
theorem d_P_pages_0 : decode b_P_pages 0 = .ok (.iload_n 1, 1) := by decide +kernel
theorem d_P_pages_1 : decode b_P_pages 1 = .ok (.iconst 5, 1) := by decide +kernel
theorem d_P_pages_2 : decode b_P_pages 2 = .ok (.if_icmp .lt (21), 3) := by decide +kernel
theorem d_P_pages_5 : decode b_P_pages 5 = .ok (.iload_n 1, 1) := by decide +kernel
theorem d_P_pages_6 : decode b_P_pages 6 = .ok (.bipush (40), 2) := by decide +kernel
theorem d_P_pages_8 : decode b_P_pages 8 = .ok (.if_icmp .gt (15), 3) := by decide +kernel
theorem d_P_pages_11 : decode b_P_pages 11 = .ok (.iload_n 2, 1) := by decide +kernel
theorem d_P_pages_12 : decode b_P_pages 12 = .ok (.bipush (8), 2) := by decide +kernel
theorem d_P_pages_14 : decode b_P_pages 14 = .ok (.if_icmp .lt (9), 3) := by decide +kernel
theorem d_P_pages_17 : decode b_P_pages 17 = .ok (.iload_n 2, 1) := by decide +kernel
theorem d_P_pages_18 : decode b_P_pages 18 = .ok (.bipush (60), 2) := by decide +kernel
theorem d_P_pages_20 : decode b_P_pages 20 = .ok (.if_icmp .le (13), 3) := by decide +kernel
theorem d_P_pages_23 : decode b_P_pages 23 = .ok (.new 58, 3) := by decide +kernel
theorem d_P_pages_26 : decode b_P_pages 26 = .ok (.dup, 1) := by decide +kernel
theorem d_P_pages_27 : decode b_P_pages 27 = .ok (.ldc 126, 2) := by decide +kernel
theorem d_P_pages_29 : decode b_P_pages 29 = .ok (.invokespecial 62, 3) := by decide +kernel
theorem d_P_pages_32 : decode b_P_pages 32 = .ok (.athrow, 1) := by decide +kernel
theorem d_P_pages_33 : decode b_P_pages 33 = .ok (.aload_n 0, 1) := by decide +kernel
theorem d_P_pages_34 : decode b_P_pages 34 = .ok (.getfield 18, 3) := by decide +kernel
theorem d_P_pages_37 : decode b_P_pages 37 = .ok (.getfield 128, 3) := by decide +kernel
theorem d_P_pages_40 : decode b_P_pages 40 = .ok (.astore_n 3, 1) := by decide +kernel
theorem d_P_pages_41 : decode b_P_pages 41 = .ok (.aload_n 3, 1) := by decide +kernel
theorem d_P_pages_42 : decode b_P_pages 42 = .ok (.iload_n 1, 1) := by decide +kernel
theorem d_P_pages_43 : decode b_P_pages 43 = .ok (.iload_n 2, 1) := by decide +kernel
theorem d_P_pages_44 : decode b_P_pages 44 = .ok (.invokevirtual 131, 3) := by decide +kernel
theorem d_P_pages_47 : decode b_P_pages 47 = .ok (.aload_n 0, 1) := by decide +kernel
theorem d_P_pages_48 : decode b_P_pages 48 = .ok (.getfield 18, 3) := by decide +kernel
theorem d_P_pages_51 : decode b_P_pages 51 = .ok (.aload_n 0, 1) := by decide +kernel
theorem d_P_pages_52 : decode b_P_pages 52 = .ok (.getfield 32, 3) := by decide +kernel
theorem d_P_pages_55 : decode b_P_pages 55 = .ok (.iload_n 2, 1) := by decide +kernel
theorem d_P_pages_56 : decode b_P_pages 56 = .ok (.invokevirtual 135, 3) := by decide +kernel
theorem d_P_pages_59 : decode b_P_pages 59 = .ok (.aload_n 3, 1) := by decide +kernel
theorem d_P_pages_60 : decode b_P_pages 60 = .ok (.getfield 139, 3) := by decide +kernel
theorem d_P_pages_63 : decode b_P_pages 63 = .ok (.ifCond .eq (13), 3) := by decide +kernel
theorem d_P_pages_66 : decode b_P_pages 66 = .ok (.new 47, 3) := by decide +kernel
theorem d_P_pages_69 : decode b_P_pages 69 = .ok (.dup, 1) := by decide +kernel
theorem d_P_pages_70 : decode b_P_pages 70 = .ok (.ldc 142, 2) := by decide +kernel
theorem d_P_pages_72 : decode b_P_pages 72 = .ok (.invokespecial 51, 3) := by decide +kernel
theorem d_P_pages_75 : decode b_P_pages 75 = .ok (.athrow, 1) := by decide +kernel
theorem d_P_pages_76 : decode b_P_pages 76 = .ok (.aload_n 3, 1) := by decide +kernel
theorem d_P_pages_77 : decode b_P_pages 77 = .ok (.invokevirtual 144, 3) := by decide +kernel
theorem d_P_pages_80 : decode b_P_pages 80 = .ok (.aload_n 0, 1) := by decide +kernel
theorem d_P_pages_81 : decode b_P_pages 81 = .ok (.getfield 18, 3) := by decide +kernel
theorem d_P_pages_84 : decode b_P_pages 84 = .ok (.aload_n 0, 1) := by decide +kernel
theorem d_P_pages_85 : decode b_P_pages 85 = .ok (.getfield 25, 3) := by decide +kernel
theorem d_P_pages_88 : decode b_P_pages 88 = .ok (.putfield 128, 3) := by decide +kernel
theorem d_P_pages_91 : decode b_P_pages 91 = .ok (.aload_n 0, 1) := by decide +kernel
theorem d_P_pages_92 : decode b_P_pages 92 = .ok (.aload_n 3, 1) := by decide +kernel
theorem d_P_pages_93 : decode b_P_pages 93 = .ok (.putfield 25, 3) := by decide +kernel
theorem d_P_pages_96 : decode b_P_pages 96 = .ok (.aload_n 0, 1) := by decide +kernel
theorem d_P_pages_97 : decode b_P_pages 97 = .ok (.iconst 1, 1) := by decide +kernel
theorem d_P_pages_98 : decode b_P_pages 98 = .ok (.putfield 122, 3) := by decide +kernel
theorem d_P_pages_101 : decode b_P_pages 101 = .ok (.aload_n 0, 1) := by decide +kernel
theorem d_P_pages_102 : decode b_P_pages 102 = .ok (.invokevirtual 147, 3) := by decide +kernel
theorem d_P_pages_105 : decode b_P_pages 105 = .ok (.aload_n 0, 1) := by decide +kernel
theorem d_P_pages_106 : decode b_P_pages 106 = .ok (.getfield 25, 3) := by decide +kernel
theorem d_P_pages_109 : decode b_P_pages 109 = .ok (.invokevirtual 150, 3) := by decide +kernel
theorem d_P_pages_112 : decode b_P_pages 112 = .ok (.ireturn, 1) := by decide +kernel
theorem d_P_cell_0 : decode b_P_cell 0 = .ok (.aload_n 0, 1) := by decide +kernel
theorem d_P_cell_1 : decode b_P_cell 1 = .ok (.getfield 122, 3) := by decide +kernel
theorem d_P_cell_4 : decode b_P_cell 4 = .ok (.ifCond .eq (16), 3) := by decide +kernel
theorem d_P_cell_7 : decode b_P_cell 7 = .ok (.aload_n 0, 1) := by decide +kernel
theorem d_P_cell_8 : decode b_P_cell 8 = .ok (.getfield 25, 3) := by decide +kernel
theorem d_P_cell_11 : decode b_P_cell 11 = .ok (.iload_n 1, 1) := by decide +kernel
theorem d_P_cell_12 : decode b_P_cell 12 = .ok (.iload_n 2, 1) := by decide +kernel
theorem d_P_cell_13 : decode b_P_cell 13 = .ok (.iload_n 3, 1) := by decide +kernel
theorem d_P_cell_14 : decode b_P_cell 14 = .ok (.invokevirtual 153, 3) := by decide +kernel
theorem d_P_cell_17 : decode b_P_cell 17 = .ok (.goto (4), 3) := by decide +kernel
theorem d_P_cell_20 : decode b_P_cell 20 = .ok (.iconst (-1), 1) := by decide +kernel
theorem d_P_cell_21 : decode b_P_cell 21 = .ok (.ireturn, 1) := by decide +kernel
theorem d_P_page_0 : decode b_P_page 0 = .ok (.aload_n 0, 1) := by decide +kernel
theorem d_P_page_1 : decode b_P_page 1 = .ok (.getfield 122, 3) := by decide +kernel
theorem d_P_page_4 : decode b_P_page 4 = .ok (.ifCond .eq (18), 3) := by decide +kernel
theorem d_P_page_7 : decode b_P_page 7 = .ok (.iload_n 1, 1) := by decide +kernel
theorem d_P_page_8 : decode b_P_page 8 = .ok (.ifCond .lt (14), 3) := by decide +kernel
theorem d_P_page_11 : decode b_P_page 11 = .ok (.iload_n 1, 1) := by decide +kernel
theorem d_P_page_12 : decode b_P_page 12 = .ok (.aload_n 0, 1) := by decide +kernel
theorem d_P_page_13 : decode b_P_page 13 = .ok (.getfield 25, 3) := by decide +kernel
theorem d_P_page_16 : decode b_P_page 16 = .ok (.invokevirtual 150, 3) := by decide +kernel
theorem d_P_page_19 : decode b_P_page 19 = .ok (.if_icmp .lt (5), 3) := by decide +kernel
theorem d_P_page_22 : decode b_P_page 22 = .ok (.iconst (-1), 1) := by decide +kernel
theorem d_P_page_23 : decode b_P_page 23 = .ok (.ireturn, 1) := by decide +kernel
theorem d_P_page_24 : decode b_P_page 24 = .ok (.iload_n 2, 1) := by decide +kernel
theorem d_P_page_25 : decode b_P_page 25 = .ok (.lookupswitch (51) #[(0, 27), (1, 39)], 27) := by decide +kernel
theorem d_P_page_52 : decode b_P_page 52 = .ok (.aload_n 0, 1) := by decide +kernel
theorem d_P_page_53 : decode b_P_page 53 = .ok (.getfield 25, 3) := by decide +kernel
theorem d_P_page_56 : decode b_P_page 56 = .ok (.getfield 157, 3) := by decide +kernel
theorem d_P_page_59 : decode b_P_page 59 = .ok (.iload_n 1, 1) := by decide +kernel
theorem d_P_page_60 : decode b_P_page 60 = .ok (.invokevirtual 160, 3) := by decide +kernel
theorem d_P_page_63 : decode b_P_page 63 = .ok (.ireturn, 1) := by decide +kernel
theorem d_P_page_64 : decode b_P_page 64 = .ok (.aload_n 0, 1) := by decide +kernel
theorem d_P_page_65 : decode b_P_page 65 = .ok (.getfield 25, 3) := by decide +kernel
theorem d_P_page_68 : decode b_P_page 68 = .ok (.getfield 164, 3) := by decide +kernel
theorem d_P_page_71 : decode b_P_page 71 = .ok (.iload_n 1, 1) := by decide +kernel
theorem d_P_page_72 : decode b_P_page 72 = .ok (.invokevirtual 160, 3) := by decide +kernel
theorem d_P_page_75 : decode b_P_page 75 = .ok (.ireturn, 1) := by decide +kernel
theorem d_P_page_76 : decode b_P_page 76 = .ok (.iconst (-1), 1) := by decide +kernel
theorem d_P_page_77 : decode b_P_page 77 = .ok (.ireturn, 1) := by decide +kernel
theorem d_P_line_0 : decode b_P_line 0 = .ok (.aload_n 0, 1) := by decide +kernel
theorem d_P_line_1 : decode b_P_line 1 = .ok (.getfield 122, 3) := by decide +kernel
theorem d_P_line_4 : decode b_P_line 4 = .ok (.ifCond .eq (18), 3) := by decide +kernel
theorem d_P_line_7 : decode b_P_line 7 = .ok (.iload_n 1, 1) := by decide +kernel
theorem d_P_line_8 : decode b_P_line 8 = .ok (.ifCond .lt (14), 3) := by decide +kernel
theorem d_P_line_11 : decode b_P_line 11 = .ok (.iload_n 1, 1) := by decide +kernel
theorem d_P_line_12 : decode b_P_line 12 = .ok (.aload_n 0, 1) := by decide +kernel
theorem d_P_line_13 : decode b_P_line 13 = .ok (.getfield 25, 3) := by decide +kernel
theorem d_P_line_16 : decode b_P_line 16 = .ok (.invokevirtual 167, 3) := by decide +kernel
theorem d_P_line_19 : decode b_P_line 19 = .ok (.if_icmp .lt (5), 3) := by decide +kernel
theorem d_P_line_22 : decode b_P_line 22 = .ok (.iconst (-1), 1) := by decide +kernel
theorem d_P_line_23 : decode b_P_line 23 = .ok (.ireturn, 1) := by decide +kernel
theorem d_P_line_24 : decode b_P_line 24 = .ok (.iload_n 2, 1) := by decide +kernel
theorem d_P_line_25 : decode b_P_line 25 = .ok (.tableswitch (71) (0) (2) #[27, 39, 51], 27) := by decide +kernel
theorem d_P_line_52 : decode b_P_line 52 = .ok (.aload_n 0, 1) := by decide +kernel
theorem d_P_line_53 : decode b_P_line 53 = .ok (.getfield 25, 3) := by decide +kernel
theorem d_P_line_56 : decode b_P_line 56 = .ok (.getfield 170, 3) := by decide +kernel
theorem d_P_line_59 : decode b_P_line 59 = .ok (.iload_n 1, 1) := by decide +kernel
theorem d_P_line_60 : decode b_P_line 60 = .ok (.invokevirtual 160, 3) := by decide +kernel
theorem d_P_line_63 : decode b_P_line 63 = .ok (.ireturn, 1) := by decide +kernel
theorem d_P_line_64 : decode b_P_line 64 = .ok (.aload_n 0, 1) := by decide +kernel
theorem d_P_line_65 : decode b_P_line 65 = .ok (.getfield 25, 3) := by decide +kernel
theorem d_P_line_68 : decode b_P_line 68 = .ok (.getfield 173, 3) := by decide +kernel
theorem d_P_line_71 : decode b_P_line 71 = .ok (.iload_n 1, 1) := by decide +kernel
theorem d_P_line_72 : decode b_P_line 72 = .ok (.invokevirtual 160, 3) := by decide +kernel
theorem d_P_line_75 : decode b_P_line 75 = .ok (.ireturn, 1) := by decide +kernel
theorem d_P_line_76 : decode b_P_line 76 = .ok (.aload_n 0, 1) := by decide +kernel
theorem d_P_line_77 : decode b_P_line 77 = .ok (.getfield 25, 3) := by decide +kernel
theorem d_P_line_80 : decode b_P_line 80 = .ok (.getfield 176, 3) := by decide +kernel
theorem d_P_line_83 : decode b_P_line 83 = .ok (.iload_n 1, 1) := by decide +kernel
theorem d_P_line_84 : decode b_P_line 84 = .ok (.invokevirtual 160, 3) := by decide +kernel
theorem d_P_line_87 : decode b_P_line 87 = .ok (.ifCond .le (7), 3) := by decide +kernel
theorem d_P_line_90 : decode b_P_line 90 = .ok (.iconst 1, 1) := by decide +kernel
theorem d_P_line_91 : decode b_P_line 91 = .ok (.goto (4), 3) := by decide +kernel
theorem d_P_line_94 : decode b_P_line 94 = .ok (.iconst 0, 1) := by decide +kernel
theorem d_P_line_95 : decode b_P_line 95 = .ok (.ireturn, 1) := by decide +kernel
theorem d_P_line_96 : decode b_P_line 96 = .ok (.iconst (-1), 1) := by decide +kernel
theorem d_P_line_97 : decode b_P_line 97 = .ok (.ireturn, 1) := by decide +kernel
theorem d_P_find_0 : decode b_P_find 0 = .ok (.aload_n 0, 1) := by decide +kernel
theorem d_P_find_1 : decode b_P_find 1 = .ok (.iload_n 1, 1) := by decide +kernel
theorem d_P_find_2 : decode b_P_find 2 = .ok (.invokevirtual 179, 3) := by decide +kernel
theorem d_P_find_5 : decode b_P_find 5 = .ok (.astore_n 2, 1) := by decide +kernel
theorem d_P_find_6 : decode b_P_find 6 = .ok (.aload_n 2, 1) := by decide +kernel
theorem d_P_find_7 : decode b_P_find 7 = .ok (.ifnull (10), 3) := by decide +kernel
theorem d_P_find_10 : decode b_P_find 10 = .ok (.aload_n 0, 1) := by decide +kernel
theorem d_P_find_11 : decode b_P_find 11 = .ok (.getfield 122, 3) := by decide +kernel
theorem d_P_find_14 : decode b_P_find 14 = .ok (.ifCond .ne (7), 3) := by decide +kernel
theorem d_P_find_17 : decode b_P_find 17 = .ok (.iconst (-1), 1) := by decide +kernel
theorem d_P_find_18 : decode b_P_find 18 = .ok (.goto (7), 3) := by decide +kernel
theorem d_P_find_21 : decode b_P_find 21 = .ok (.aload_n 2, 1) := by decide +kernel
theorem d_P_find_22 : decode b_P_find 22 = .ok (.getfield 183, 3) := by decide +kernel
theorem d_P_find_25 : decode b_P_find 25 = .ok (.ireturn, 1) := by decide +kernel
theorem d_P_node_0 : decode b_P_node 0 = .ok (.aload_n 0, 1) := by decide +kernel
theorem d_P_node_1 : decode b_P_node 1 = .ok (.iload_n 1, 1) := by decide +kernel
theorem d_P_node_2 : decode b_P_node 2 = .ok (.invokevirtual 179, 3) := by decide +kernel
theorem d_P_node_5 : decode b_P_node 5 = .ok (.astore_n 3, 1) := by decide +kernel
theorem d_P_node_6 : decode b_P_node 6 = .ok (.aload_n 3, 1) := by decide +kernel
theorem d_P_node_7 : decode b_P_node 7 = .ok (.ifnonnull (5), 3) := by decide +kernel
theorem d_P_node_10 : decode b_P_node 10 = .ok (.iconst (-1), 1) := by decide +kernel
theorem d_P_node_11 : decode b_P_node 11 = .ok (.ireturn, 1) := by decide +kernel
theorem d_P_node_12 : decode b_P_node 12 = .ok (.iload_n 2, 1) := by decide +kernel
theorem d_P_node_13 : decode b_P_node 13 = .ok (.tableswitch (56) (0) (2) #[27, 32, 51], 27) := by decide +kernel
theorem d_P_node_40 : decode b_P_node 40 = .ok (.aload_n 3, 1) := by decide +kernel
theorem d_P_node_41 : decode b_P_node 41 = .ok (.getfield 109, 3) := by decide +kernel
theorem d_P_node_44 : decode b_P_node 44 = .ok (.ireturn, 1) := by decide +kernel
theorem d_P_node_45 : decode b_P_node 45 = .ok (.aload_n 3, 1) := by decide +kernel
theorem d_P_node_46 : decode b_P_node 46 = .ok (.getfield 96, 3) := by decide +kernel
theorem d_P_node_49 : decode b_P_node 49 = .ok (.ifnonnull (7), 3) := by decide +kernel
theorem d_P_node_52 : decode b_P_node 52 = .ok (.iconst (-1), 1) := by decide +kernel
theorem d_P_node_53 : decode b_P_node 53 = .ok (.goto (10), 3) := by decide +kernel
theorem d_P_node_56 : decode b_P_node 56 = .ok (.aload_n 3, 1) := by decide +kernel
end
section
theorem d_P_node_57 : decode b_P_node 57 = .ok (.getfield 96, 3) := by decide +kernel
theorem d_P_node_60 : decode b_P_node 60 = .ok (.getfield 93, 3) := by decide +kernel
theorem d_P_node_63 : decode b_P_node 63 = .ok (.ireturn, 1) := by decide +kernel
theorem d_P_node_64 : decode b_P_node 64 = .ok (.aload_n 3, 1) := by decide +kernel
theorem d_P_node_65 : decode b_P_node 65 = .ok (.getfield 116, 3) := by decide +kernel
theorem d_P_node_68 : decode b_P_node 68 = .ok (.ireturn, 1) := by decide +kernel
theorem d_P_node_69 : decode b_P_node 69 = .ok (.iconst (-1), 1) := by decide +kernel
theorem d_P_node_70 : decode b_P_node 70 = .ok (.ireturn, 1) := by decide +kernel
theorem d_P_about_0 : decode b_P_about 0 = .ok (.iload_n 1, 1) := by decide +kernel
theorem d_P_about_1 : decode b_P_about 1 = .ok (.tableswitch (137) (0) (6) #[43, 48, 53, 61, 80, 99, 118], 43) := by decide +kernel
theorem d_P_about_44 : decode b_P_about 44 = .ok (.aload_n 0, 1) := by decide +kernel
theorem d_P_about_45 : decode b_P_about 45 = .ok (.getfield 39, 3) := by decide +kernel
theorem d_P_about_48 : decode b_P_about 48 = .ok (.ireturn, 1) := by decide +kernel
theorem d_P_about_49 : decode b_P_about 49 = .ok (.aload_n 0, 1) := by decide +kernel
theorem d_P_about_50 : decode b_P_about 50 = .ok (.getfield 101, 3) := by decide +kernel
theorem d_P_about_53 : decode b_P_about 53 = .ok (.ireturn, 1) := by decide +kernel
theorem d_P_about_54 : decode b_P_about 54 = .ok (.aload_n 0, 1) := by decide +kernel
theorem d_P_about_55 : decode b_P_about 55 = .ok (.getfield 36, 3) := by decide +kernel
theorem d_P_about_58 : decode b_P_about 58 = .ok (.getfield 93, 3) := by decide +kernel
theorem d_P_about_61 : decode b_P_about 61 = .ok (.ireturn, 1) := by decide +kernel
theorem d_P_about_62 : decode b_P_about 62 = .ok (.aload_n 0, 1) := by decide +kernel
theorem d_P_about_63 : decode b_P_about 63 = .ok (.getfield 122, 3) := by decide +kernel
theorem d_P_about_66 : decode b_P_about 66 = .ok (.ifCond .eq (13), 3) := by decide +kernel
theorem d_P_about_69 : decode b_P_about 69 = .ok (.aload_n 0, 1) := by decide +kernel
theorem d_P_about_70 : decode b_P_about 70 = .ok (.getfield 25, 3) := by decide +kernel
theorem d_P_about_73 : decode b_P_about 73 = .ok (.invokevirtual 150, 3) := by decide +kernel
theorem d_P_about_76 : decode b_P_about 76 = .ok (.goto (4), 3) := by decide +kernel
theorem d_P_about_79 : decode b_P_about 79 = .ok (.iconst 0, 1) := by decide +kernel
theorem d_P_about_80 : decode b_P_about 80 = .ok (.ireturn, 1) := by decide +kernel
theorem d_P_about_81 : decode b_P_about 81 = .ok (.aload_n 0, 1) := by decide +kernel
theorem d_P_about_82 : decode b_P_about 82 = .ok (.getfield 122, 3) := by decide +kernel
theorem d_P_about_85 : decode b_P_about 85 = .ok (.ifCond .eq (13), 3) := by decide +kernel
theorem d_P_about_88 : decode b_P_about 88 = .ok (.aload_n 0, 1) := by decide +kernel
theorem d_P_about_89 : decode b_P_about 89 = .ok (.getfield 25, 3) := by decide +kernel
theorem d_P_about_92 : decode b_P_about 92 = .ok (.invokevirtual 167, 3) := by decide +kernel
theorem d_P_about_95 : decode b_P_about 95 = .ok (.goto (4), 3) := by decide +kernel
theorem d_P_about_98 : decode b_P_about 98 = .ok (.iconst 0, 1) := by decide +kernel
theorem d_P_about_99 : decode b_P_about 99 = .ok (.ireturn, 1) := by decide +kernel
theorem d_P_about_100 : decode b_P_about 100 = .ok (.aload_n 0, 1) := by decide +kernel
theorem d_P_about_101 : decode b_P_about 101 = .ok (.getfield 122, 3) := by decide +kernel
theorem d_P_about_104 : decode b_P_about 104 = .ok (.ifCond .eq (13), 3) := by decide +kernel
theorem d_P_about_107 : decode b_P_about 107 = .ok (.aload_n 0, 1) := by decide +kernel
theorem d_P_about_108 : decode b_P_about 108 = .ok (.getfield 25, 3) := by decide +kernel
theorem d_P_about_111 : decode b_P_about 111 = .ok (.getfield 186, 3) := by decide +kernel
theorem d_P_about_114 : decode b_P_about 114 = .ok (.goto (4), 3) := by decide +kernel
theorem d_P_about_117 : decode b_P_about 117 = .ok (.iconst 0, 1) := by decide +kernel
theorem d_P_about_118 : decode b_P_about 118 = .ok (.ireturn, 1) := by decide +kernel
theorem d_P_about_119 : decode b_P_about 119 = .ok (.aload_n 0, 1) := by decide +kernel
theorem d_P_about_120 : decode b_P_about 120 = .ok (.getfield 122, 3) := by decide +kernel
theorem d_P_about_123 : decode b_P_about 123 = .ok (.ifCond .eq (13), 3) := by decide +kernel
theorem d_P_about_126 : decode b_P_about 126 = .ok (.aload_n 0, 1) := by decide +kernel
theorem d_P_about_127 : decode b_P_about 127 = .ok (.getfield 25, 3) := by decide +kernel
theorem d_P_about_130 : decode b_P_about 130 = .ok (.getfield 189, 3) := by decide +kernel
theorem d_P_about_133 : decode b_P_about 133 = .ok (.goto (4), 3) := by decide +kernel
theorem d_P_about_136 : decode b_P_about 136 = .ok (.iconst 0, 1) := by decide +kernel
theorem d_P_about_137 : decode b_P_about 137 = .ok (.ireturn, 1) := by decide +kernel
theorem d_P_about_138 : decode b_P_about 138 = .ok (.iconst (-1), 1) := by decide +kernel
theorem d_P_about_139 : decode b_P_about 139 = .ok (.ireturn, 1) := by decide +kernel
theorem d_P_isNodeRefused_0 : decode b_P_isNodeRefused 0 = .ok (.aload_n 0, 1) := by decide +kernel
theorem d_P_isNodeRefused_1 : decode b_P_isNodeRefused 1 = .ok (.getfield 39, 3) := by decide +kernel
theorem d_P_isNodeRefused_4 : decode b_P_isNodeRefused 4 = .ok (.sipush (300), 3) := by decide +kernel
theorem d_P_isNodeRefused_7 : decode b_P_isNodeRefused 7 = .ok (.if_icmp .ge (15), 3) := by decide +kernel
theorem d_P_isNodeRefused_10 : decode b_P_isNodeRefused 10 = .ok (.aload_n 0, 1) := by decide +kernel
theorem d_P_isNodeRefused_11 : decode b_P_isNodeRefused 11 = .ok (.getfield 36, 3) := by decide +kernel
theorem d_P_isNodeRefused_14 : decode b_P_isNodeRefused 14 = .ok (.getfield 192, 3) := by decide +kernel
theorem d_P_isNodeRefused_17 : decode b_P_isNodeRefused 17 = .ok (.bipush (12), 2) := by decide +kernel
theorem d_P_isNodeRefused_19 : decode b_P_isNodeRefused 19 = .ok (.if_icmp .lt (7), 3) := by decide +kernel
theorem d_P_isNodeRefused_22 : decode b_P_isNodeRefused 22 = .ok (.iconst 1, 1) := by decide +kernel
theorem d_P_isNodeRefused_23 : decode b_P_isNodeRefused 23 = .ok (.goto (4), 3) := by decide +kernel
theorem d_P_isNodeRefused_26 : decode b_P_isNodeRefused 26 = .ok (.iconst 0, 1) := by decide +kernel
theorem d_P_isNodeRefused_27 : decode b_P_isNodeRefused 27 = .ok (.ireturn, 1) := by decide +kernel
theorem d_P_addNode_0 : decode b_P_addNode 0 = .ok (.new 9, 3) := by decide +kernel
theorem d_P_addNode_3 : decode b_P_addNode 3 = .ok (.dup, 1) := by decide +kernel
theorem d_P_addNode_4 : decode b_P_addNode 4 = .ok (.aload_n 0, 1) := by decide +kernel
theorem d_P_addNode_5 : decode b_P_addNode 5 = .ok (.getfield 39, 3) := by decide +kernel
theorem d_P_addNode_8 : decode b_P_addNode 8 = .ok (.iload_n 1, 1) := by decide +kernel
theorem d_P_addNode_9 : decode b_P_addNode 9 = .ok (.iload_n 2, 1) := by decide +kernel
theorem d_P_addNode_10 : decode b_P_addNode 10 = .ok (.aload_n 0, 1) := by decide +kernel
theorem d_P_addNode_11 : decode b_P_addNode 11 = .ok (.getfield 36, 3) := by decide +kernel
theorem d_P_addNode_14 : decode b_P_addNode 14 = .ok (.aload_n 0, 1) := by decide +kernel
theorem d_P_addNode_15 : decode b_P_addNode 15 = .ok (.getfield 18, 3) := by decide +kernel
theorem d_P_addNode_18 : decode b_P_addNode 18 = .ok (.getfield 73, 3) := by decide +kernel
theorem d_P_addNode_21 : decode b_P_addNode 21 = .ok (.invokevirtual 83, 3) := by decide +kernel
theorem d_P_addNode_24 : decode b_P_addNode 24 = .ok (.invokespecial 29, 3) := by decide +kernel
theorem d_P_addNode_27 : decode b_P_addNode 27 = .ok (.astore_n 3, 1) := by decide +kernel
theorem d_P_addNode_28 : decode b_P_addNode 28 = .ok (.aload_n 0, 1) := by decide +kernel
theorem d_P_addNode_29 : decode b_P_addNode 29 = .ok (.getfield 36, 3) := by decide +kernel
theorem d_P_addNode_32 : decode b_P_addNode 32 = .ok (.aload_n 3, 1) := by decide +kernel
theorem d_P_addNode_33 : decode b_P_addNode 33 = .ok (.invokevirtual 195, 3) := by decide +kernel
theorem d_P_addNode_36 : decode b_P_addNode 36 = .ok (.aload_n 0, 1) := by decide +kernel
theorem d_P_addNode_37 : decode b_P_addNode 37 = .ok (.getfield 39, 3) := by decide +kernel
theorem d_P_addNode_40 : decode b_P_addNode 40 = .ok (.aload_n 0, 1) := by decide +kernel
theorem d_P_addNode_41 : decode b_P_addNode 41 = .ok (.getfield 11, 3) := by decide +kernel
theorem d_P_addNode_44 : decode b_P_addNode 44 = .ok (.arraylength, 1) := by decide +kernel
theorem d_P_addNode_45 : decode b_P_addNode 45 = .ok (.if_icmp .ge (23), 3) := by decide +kernel
theorem d_P_addNode_48 : decode b_P_addNode 48 = .ok (.aload_n 0, 1) := by decide +kernel
theorem d_P_addNode_49 : decode b_P_addNode 49 = .ok (.getfield 11, 3) := by decide +kernel
theorem d_P_addNode_52 : decode b_P_addNode 52 = .ok (.aload_n 0, 1) := by decide +kernel
theorem d_P_addNode_53 : decode b_P_addNode 53 = .ok (.getfield 39, 3) := by decide +kernel
theorem d_P_addNode_56 : decode b_P_addNode 56 = .ok (.aload_n 3, 1) := by decide +kernel
theorem d_P_addNode_57 : decode b_P_addNode 57 = .ok (.aastore, 1) := by decide +kernel
theorem d_P_addNode_58 : decode b_P_addNode 58 = .ok (.aload_n 0, 1) := by decide +kernel
theorem d_P_addNode_59 : decode b_P_addNode 59 = .ok (.dup, 1) := by decide +kernel
theorem d_P_addNode_60 : decode b_P_addNode 60 = .ok (.getfield 39, 3) := by decide +kernel
theorem d_P_addNode_63 : decode b_P_addNode 63 = .ok (.iconst 1, 1) := by decide +kernel
theorem d_P_addNode_64 : decode b_P_addNode 64 = .ok (.iadd, 1) := by decide +kernel
theorem d_P_addNode_65 : decode b_P_addNode 65 = .ok (.putfield 39, 3) := by decide +kernel
theorem d_P_addNode_68 : decode b_P_addNode 68 = .ok (.aload_n 3, 1) := by decide +kernel
theorem d_P_addNode_69 : decode b_P_addNode 69 = .ok (.areturn, 1) := by decide +kernel
theorem d_P_addCharacters_0 : decode b_P_addCharacters 0 = .ok (.aload_n 0, 1) := by decide +kernel
theorem d_P_addCharacters_1 : decode b_P_addCharacters 1 = .ok (.getfield 18, 3) := by decide +kernel
theorem d_P_addCharacters_4 : decode b_P_addCharacters 4 = .ok (.getfield 73, 3) := by decide +kernel
theorem d_P_addCharacters_7 : decode b_P_addCharacters 7 = .ok (.iload_n 1, 1) := by decide +kernel
theorem d_P_addCharacters_8 : decode b_P_addCharacters 8 = .ok (.sipush (255), 3) := by decide +kernel
theorem d_P_addCharacters_11 : decode b_P_addCharacters 11 = .ok (.iand, 1) := by decide +kernel
theorem d_P_addCharacters_12 : decode b_P_addCharacters 12 = .ok (.invokevirtual 77, 3) := by decide +kernel
theorem d_P_addCharacters_15 : decode b_P_addCharacters 15 = .ok (.iload 5, 2) := by decide +kernel
theorem d_P_addCharacters_17 : decode b_P_addCharacters 17 = .ok (.iconst 1, 1) := by decide +kernel
theorem d_P_addCharacters_18 : decode b_P_addCharacters 18 = .ok (.if_icmp .le (18), 3) := by decide +kernel
theorem d_P_addCharacters_21 : decode b_P_addCharacters 21 = .ok (.aload_n 0, 1) := by decide +kernel
theorem d_P_addCharacters_22 : decode b_P_addCharacters 22 = .ok (.getfield 18, 3) := by decide +kernel
theorem d_P_addCharacters_25 : decode b_P_addCharacters 25 = .ok (.getfield 73, 3) := by decide +kernel
theorem d_P_addCharacters_28 : decode b_P_addCharacters 28 = .ok (.iload_n 2, 1) := by decide +kernel
theorem d_P_addCharacters_29 : decode b_P_addCharacters 29 = .ok (.sipush (255), 3) := by decide +kernel
theorem d_P_addCharacters_32 : decode b_P_addCharacters 32 = .ok (.iand, 1) := by decide +kernel
theorem d_P_addCharacters_33 : decode b_P_addCharacters 33 = .ok (.invokevirtual 77, 3) := by decide +kernel
theorem d_P_addCharacters_36 : decode b_P_addCharacters 36 = .ok (.iload 5, 2) := by decide +kernel
theorem d_P_addCharacters_38 : decode b_P_addCharacters 38 = .ok (.iconst 2, 1) := by decide +kernel
theorem d_P_addCharacters_39 : decode b_P_addCharacters 39 = .ok (.if_icmp .le (18), 3) := by decide +kernel
theorem d_P_addCharacters_42 : decode b_P_addCharacters 42 = .ok (.aload_n 0, 1) := by decide +kernel
theorem d_P_addCharacters_43 : decode b_P_addCharacters 43 = .ok (.getfield 18, 3) := by decide +kernel
theorem d_P_addCharacters_46 : decode b_P_addCharacters 46 = .ok (.getfield 73, 3) := by decide +kernel
theorem d_P_addCharacters_49 : decode b_P_addCharacters 49 = .ok (.iload_n 3, 1) := by decide +kernel
theorem d_P_addCharacters_50 : decode b_P_addCharacters 50 = .ok (.sipush (255), 3) := by decide +kernel
theorem d_P_addCharacters_53 : decode b_P_addCharacters 53 = .ok (.iand, 1) := by decide +kernel
theorem d_P_addCharacters_54 : decode b_P_addCharacters 54 = .ok (.invokevirtual 77, 3) := by decide +kernel
theorem d_P_addCharacters_57 : decode b_P_addCharacters 57 = .ok (.iload 5, 2) := by decide +kernel
theorem d_P_addCharacters_59 : decode b_P_addCharacters 59 = .ok (.iconst 3, 1) := by decide +kernel
theorem d_P_addCharacters_60 : decode b_P_addCharacters 60 = .ok (.if_icmp .le (19), 3) := by decide +kernel
theorem d_P_addCharacters_63 : decode b_P_addCharacters 63 = .ok (.aload_n 0, 1) := by decide +kernel
theorem d_P_addCharacters_64 : decode b_P_addCharacters 64 = .ok (.getfield 18, 3) := by decide +kernel
theorem d_P_addCharacters_67 : decode b_P_addCharacters 67 = .ok (.getfield 73, 3) := by decide +kernel
theorem d_P_addCharacters_70 : decode b_P_addCharacters 70 = .ok (.iload 4, 2) := by decide +kernel
theorem d_P_addCharacters_72 : decode b_P_addCharacters 72 = .ok (.sipush (255), 3) := by decide +kernel
theorem d_P_addCharacters_75 : decode b_P_addCharacters 75 = .ok (.iand, 1) := by decide +kernel
theorem d_P_addCharacters_76 : decode b_P_addCharacters 76 = .ok (.invokevirtual 77, 3) := by decide +kernel
theorem d_P_addCharacters_79 : decode b_P_addCharacters 79 = .ok (.aload_n 0, 1) := by decide +kernel
theorem d_P_addCharacters_80 : decode b_P_addCharacters 80 = .ok (.dup, 1) := by decide +kernel
theorem d_P_addCharacters_81 : decode b_P_addCharacters 81 = .ok (.getfield 101, 3) := by decide +kernel
theorem d_P_addCharacters_84 : decode b_P_addCharacters 84 = .ok (.iload 5, 2) := by decide +kernel
theorem d_P_addCharacters_86 : decode b_P_addCharacters 86 = .ok (.iadd, 1) := by decide +kernel
theorem d_P_addCharacters_87 : decode b_P_addCharacters 87 = .ok (.putfield 101, 3) := by decide +kernel
theorem d_P_addCharacters_90 : decode b_P_addCharacters 90 = .ok (.return_, 1) := by decide +kernel
theorem d_P_nodeAt_0 : decode b_P_nodeAt 0 = .ok (.iload_n 1, 1) := by decide +kernel
theorem d_P_nodeAt_1 : decode b_P_nodeAt 1 = .ok (.ifCond .lt (29), 3) := by decide +kernel
theorem d_P_nodeAt_4 : decode b_P_nodeAt 4 = .ok (.iload_n 1, 1) := by decide +kernel
theorem d_P_nodeAt_5 : decode b_P_nodeAt 5 = .ok (.aload_n 0, 1) := by decide +kernel
theorem d_P_nodeAt_6 : decode b_P_nodeAt 6 = .ok (.getfield 39, 3) := by decide +kernel
theorem d_P_nodeAt_9 : decode b_P_nodeAt 9 = .ok (.if_icmp .ge (21), 3) := by decide +kernel
theorem d_P_nodeAt_12 : decode b_P_nodeAt 12 = .ok (.iload_n 1, 1) := by decide +kernel
theorem d_P_nodeAt_13 : decode b_P_nodeAt 13 = .ok (.aload_n 0, 1) := by decide +kernel
theorem d_P_nodeAt_14 : decode b_P_nodeAt 14 = .ok (.getfield 11, 3) := by decide +kernel
theorem d_P_nodeAt_17 : decode b_P_nodeAt 17 = .ok (.arraylength, 1) := by decide +kernel
theorem d_P_nodeAt_18 : decode b_P_nodeAt 18 = .ok (.if_icmp .ge (12), 3) := by decide +kernel
theorem d_P_nodeAt_21 : decode b_P_nodeAt 21 = .ok (.aload_n 0, 1) := by decide +kernel
theorem d_P_nodeAt_22 : decode b_P_nodeAt 22 = .ok (.getfield 11, 3) := by decide +kernel
theorem d_P_nodeAt_25 : decode b_P_nodeAt 25 = .ok (.iload_n 1, 1) := by decide +kernel
theorem d_P_nodeAt_26 : decode b_P_nodeAt 26 = .ok (.aaload, 1) := by decide +kernel
theorem d_P_nodeAt_27 : decode b_P_nodeAt 27 = .ok (.goto (4), 3) := by decide +kernel
theorem d_P_nodeAt_30 : decode b_P_nodeAt 30 = .ok (.aconst_null, 1) := by decide +kernel
theorem d_P_nodeAt_31 : decode b_P_nodeAt 31 = .ok (.areturn, 1) := by decide +kernel
theorem d_P_placeNodes_0 : decode b_P_placeNodes 0 = .ok (.iconst 0, 1) := by decide +kernel
theorem d_P_placeNodes_1 : decode b_P_placeNodes 1 = .ok (.istore_n 1, 1) := by decide +kernel
theorem d_P_placeNodes_2 : decode b_P_placeNodes 2 = .ok (.iload_n 1, 1) := by decide +kernel
theorem d_P_placeNodes_3 : decode b_P_placeNodes 3 = .ok (.aload_n 0, 1) := by decide +kernel
theorem d_P_placeNodes_4 : decode b_P_placeNodes 4 = .ok (.getfield 39, 3) := by decide +kernel
theorem d_P_placeNodes_7 : decode b_P_placeNodes 7 = .ok (.if_icmp .ge (28), 3) := by decide +kernel
theorem d_P_placeNodes_10 : decode b_P_placeNodes 10 = .ok (.aload_n 0, 1) := by decide +kernel
theorem d_P_placeNodes_11 : decode b_P_placeNodes 11 = .ok (.iload_n 1, 1) := by decide +kernel
theorem d_P_placeNodes_12 : decode b_P_placeNodes 12 = .ok (.invokevirtual 179, 3) := by decide +kernel
theorem d_P_placeNodes_15 : decode b_P_placeNodes 15 = .ok (.astore_n 2, 1) := by decide +kernel
theorem d_P_placeNodes_16 : decode b_P_placeNodes 16 = .ok (.aload_n 2, 1) := by decide +kernel
theorem d_P_placeNodes_17 : decode b_P_placeNodes 17 = .ok (.ifnull (12), 3) := by decide +kernel
theorem d_P_placeNodes_20 : decode b_P_placeNodes 20 = .ok (.aload_n 2, 1) := by decide +kernel
theorem d_P_placeNodes_21 : decode b_P_placeNodes 21 = .ok (.aload_n 0, 1) := by decide +kernel
theorem d_P_placeNodes_22 : decode b_P_placeNodes 22 = .ok (.aload_n 2, 1) := by decide +kernel
theorem d_P_placeNodes_23 : decode b_P_placeNodes 23 = .ok (.invokevirtual 199, 3) := by decide +kernel
theorem d_P_placeNodes_26 : decode b_P_placeNodes 26 = .ok (.putfield 183, 3) := by decide +kernel
theorem d_P_placeNodes_29 : decode b_P_placeNodes 29 = .ok (.iinc 1 (1), 3) := by decide +kernel
theorem d_P_placeNodes_32 : decode b_P_placeNodes 32 = .ok (.goto (-30), 3) := by decide +kernel
theorem d_P_placeNodes_35 : decode b_P_placeNodes 35 = .ok (.return_, 1) := by decide +kernel
theorem d_P_pageOfNode_0 : decode b_P_pageOfNode 0 = .ok (.aload_n 1, 1) := by decide +kernel
theorem d_P_pageOfNode_1 : decode b_P_pageOfNode 1 = .ok (.getfield 96, 3) := by decide +kernel
theorem d_P_pageOfNode_4 : decode b_P_pageOfNode 4 = .ok (.astore_n 2, 1) := by decide +kernel
theorem d_P_pageOfNode_5 : decode b_P_pageOfNode 5 = .ok (.aload_n 2, 1) := by decide +kernel
theorem d_P_pageOfNode_6 : decode b_P_pageOfNode 6 = .ok (.ifnull (24), 3) := by decide +kernel
theorem d_P_pageOfNode_9 : decode b_P_pageOfNode 9 = .ok (.aload_n 1, 1) := by decide +kernel
theorem d_P_pageOfNode_10 : decode b_P_pageOfNode 10 = .ok (.invokevirtual 203, 3) := by decide +kernel
theorem d_P_pageOfNode_13 : decode b_P_pageOfNode 13 = .ok (.ifCond .eq (17), 3) := by decide +kernel
theorem d_P_pageOfNode_16 : decode b_P_pageOfNode 16 = .ok (.aload_n 2, 1) := by decide +kernel
theorem d_P_pageOfNode_17 : decode b_P_pageOfNode 17 = .ok (.getfield 109, 3) := by decide +kernel
theorem d_P_pageOfNode_20 : decode b_P_pageOfNode 20 = .ok (.bipush (7), 2) := by decide +kernel
theorem d_P_pageOfNode_22 : decode b_P_pageOfNode 22 = .ok (.if_icmp .eq (8), 3) := by decide +kernel
theorem d_P_pageOfNode_25 : decode b_P_pageOfNode 25 = .ok (.aload_n 2, 1) := by decide +kernel
theorem d_P_pageOfNode_26 : decode b_P_pageOfNode 26 = .ok (.getfield 183, 3) := by decide +kernel
theorem d_P_pageOfNode_29 : decode b_P_pageOfNode 29 = .ok (.ireturn, 1) := by decide +kernel
theorem d_P_pageOfNode_30 : decode b_P_pageOfNode 30 = .ok (.aload_n 0, 1) := by decide +kernel
theorem d_P_pageOfNode_31 : decode b_P_pageOfNode 31 = .ok (.getfield 25, 3) := by decide +kernel
theorem d_P_pageOfNode_34 : decode b_P_pageOfNode 34 = .ok (.aload_n 1, 1) := by decide +kernel
theorem d_P_pageOfNode_35 : decode b_P_pageOfNode 35 = .ok (.getfield 206, 3) := by decide +kernel
theorem d_P_pageOfNode_38 : decode b_P_pageOfNode 38 = .ok (.invokevirtual 209, 3) := by decide +kernel
theorem d_P_pageOfNode_41 : decode b_P_pageOfNode 41 = .ok (.ireturn, 1) := by decide +kernel
theorem d_P_isNumberOf_0 : decode b_P_isNumberOf 0 = .ok (.iload_n 0, 1) := by decide +kernel
theorem d_P_isNumberOf_1 : decode b_P_isNumberOf 1 = .ok (.iconst 1, 1) := by decide +kernel
theorem d_P_isNumberOf_2 : decode b_P_isNumberOf 2 = .ok (.if_icmp .ne (20), 3) := by decide +kernel
theorem d_P_isNumberOf_5 : decode b_P_isNumberOf 5 = .ok (.iload_n 1, 1) := by decide +kernel
theorem d_P_isNumberOf_6 : decode b_P_isNumberOf 6 = .ok (.iconst 1, 1) := by decide +kernel
theorem d_P_isNumberOf_7 : decode b_P_isNumberOf 7 = .ok (.if_icmp .lt (13), 3) := by decide +kernel
theorem d_P_isNumberOf_10 : decode b_P_isNumberOf 10 = .ok (.iload_n 1, 1) := by decide +kernel
theorem d_P_isNumberOf_11 : decode b_P_isNumberOf 11 = .ok (.bipush (6), 2) := by decide +kernel
theorem d_P_isNumberOf_13 : decode b_P_isNumberOf 13 = .ok (.if_icmp .gt (7), 3) := by decide +kernel
theorem d_P_isNumberOf_16 : decode b_P_isNumberOf 16 = .ok (.iconst 1, 1) := by decide +kernel
theorem d_P_isNumberOf_17 : decode b_P_isNumberOf 17 = .ok (.goto (4), 3) := by decide +kernel
theorem d_P_isNumberOf_20 : decode b_P_isNumberOf 20 = .ok (.iconst 0, 1) := by decide +kernel
theorem d_P_isNumberOf_21 : decode b_P_isNumberOf 21 = .ok (.ireturn, 1) := by decide +kernel
theorem d_P_isNumberOf_22 : decode b_P_isNumberOf 22 = .ok (.iload_n 0, 1) := by decide +kernel
theorem d_P_isNumberOf_23 : decode b_P_isNumberOf 23 = .ok (.bipush (6), 2) := by decide +kernel
theorem d_P_isNumberOf_25 : decode b_P_isNumberOf 25 = .ok (.if_icmp .ne (13), 3) := by decide +kernel
theorem d_P_isNumberOf_28 : decode b_P_isNumberOf 28 = .ok (.iload_n 1, 1) := by decide +kernel
theorem d_P_isNumberOf_29 : decode b_P_isNumberOf 29 = .ok (.ifCond .lt (13), 3) := by decide +kernel
theorem d_P_isNumberOf_32 : decode b_P_isNumberOf 32 = .ok (.iload_n 1, 1) := by decide +kernel
theorem d_P_isNumberOf_33 : decode b_P_isNumberOf 33 = .ok (.ldc 212, 2) := by decide +kernel
theorem d_P_isNumberOf_35 : decode b_P_isNumberOf 35 = .ok (.if_icmp .gt (7), 3) := by decide +kernel
theorem d_P_isNumberOf_38 : decode b_P_isNumberOf 38 = .ok (.iconst 1, 1) := by decide +kernel
theorem d_P_isNumberOf_39 : decode b_P_isNumberOf 39 = .ok (.goto (4), 3) := by decide +kernel
theorem d_P_isNumberOf_42 : decode b_P_isNumberOf 42 = .ok (.iconst 0, 1) := by decide +kernel
theorem d_P_isNumberOf_43 : decode b_P_isNumberOf 43 = .ok (.ireturn, 1) := by decide +kernel
theorem d_P_isOneOf_0 : decode b_P_isOneOf 0 = .ok (.iload_n 0, 1) := by decide +kernel
theorem d_P_isOneOf_1 : decode b_P_isOneOf 1 = .ok (.ifCond .lt (22), 3) := by decide +kernel
theorem d_P_isOneOf_4 : decode b_P_isOneOf 4 = .ok (.iload_n 0, 1) := by decide +kernel
theorem d_P_isOneOf_5 : decode b_P_isOneOf 5 = .ok (.bipush (10), 2) := by decide +kernel
theorem d_P_isOneOf_7 : decode b_P_isOneOf 7 = .ok (.if_icmp .gt (16), 3) := by decide +kernel
theorem d_P_isOneOf_10 : decode b_P_isOneOf 10 = .ok (.iload_n 1, 1) := by decide +kernel
theorem d_P_isOneOf_11 : decode b_P_isOneOf 11 = .ok (.iload_n 0, 1) := by decide +kernel
theorem d_P_isOneOf_12 : decode b_P_isOneOf 12 = .ok (.ishr, 1) := by decide +kernel
theorem d_P_isOneOf_13 : decode b_P_isOneOf 13 = .ok (.iconst 1, 1) := by decide +kernel
theorem d_P_isOneOf_14 : decode b_P_isOneOf 14 = .ok (.iand, 1) := by decide +kernel
theorem d_P_isOneOf_15 : decode b_P_isOneOf 15 = .ok (.iconst 1, 1) := by decide +kernel
theorem d_P_isOneOf_16 : decode b_P_isOneOf 16 = .ok (.if_icmp .ne (7), 3) := by decide +kernel
theorem d_P_isOneOf_19 : decode b_P_isOneOf 19 = .ok (.iconst 1, 1) := by decide +kernel
theorem d_P_isOneOf_20 : decode b_P_isOneOf 20 = .ok (.goto (4), 3) := by decide +kernel
theorem d_P_isOneOf_23 : decode b_P_isOneOf 23 = .ok (.iconst 0, 1) := by decide +kernel
theorem d_P_isOneOf_24 : decode b_P_isOneOf 24 = .ok (.ireturn, 1) := by decide +kernel
theorem d_P_isWhite_0 : decode b_P_isWhite 0 = .ok (.iload_n 0, 1) := by decide +kernel
theorem d_P_isWhite_1 : decode b_P_isWhite 1 = .ok (.bipush (9), 2) := by decide +kernel
theorem d_P_isWhite_3 : decode b_P_isWhite 3 = .ok (.if_icmp .eq (21), 3) := by decide +kernel
theorem d_P_isWhite_6 : decode b_P_isWhite 6 = .ok (.iload_n 0, 1) := by decide +kernel
theorem d_P_isWhite_7 : decode b_P_isWhite 7 = .ok (.bipush (10), 2) := by decide +kernel
theorem d_P_isWhite_9 : decode b_P_isWhite 9 = .ok (.if_icmp .eq (15), 3) := by decide +kernel
theorem d_P_isWhite_12 : decode b_P_isWhite 12 = .ok (.iload_n 0, 1) := by decide +kernel
theorem d_P_isWhite_13 : decode b_P_isWhite 13 = .ok (.bipush (13), 2) := by decide +kernel
theorem d_P_isWhite_15 : decode b_P_isWhite 15 = .ok (.if_icmp .eq (9), 3) := by decide +kernel
theorem d_P_isWhite_18 : decode b_P_isWhite 18 = .ok (.iload_n 0, 1) := by decide +kernel
theorem d_P_isWhite_19 : decode b_P_isWhite 19 = .ok (.bipush (32), 2) := by decide +kernel
theorem d_P_isWhite_21 : decode b_P_isWhite 21 = .ok (.if_icmp .ne (7), 3) := by decide +kernel
theorem d_P_isWhite_24 : decode b_P_isWhite 24 = .ok (.iconst 1, 1) := by decide +kernel
theorem d_P_isWhite_25 : decode b_P_isWhite 25 = .ok (.goto (4), 3) := by decide +kernel
theorem d_P_isWhite_28 : decode b_P_isWhite 28 = .ok (.iconst 0, 1) := by decide +kernel
theorem d_P_isWhite_29 : decode b_P_isWhite 29 = .ok (.ireturn, 1) := by decide +kernel
theorem d_M_init_0 : decode b_M_init 0 = .ok (.aload_n 0, 1) := by decide +kernel
theorem d_M_init_1 : decode b_M_init 1 = .ok (.invokespecial 1, 3) := by decide +kernel
theorem d_M_init_4 : decode b_M_init 4 = .ok (.aload_n 0, 1) := by decide +kernel
theorem d_M_init_5 : decode b_M_init 5 = .ok (.sipush (300), 3) := by decide +kernel
theorem d_M_init_8 : decode b_M_init 8 = .ok (.newarray .int, 2) := by decide +kernel
theorem d_M_init_10 : decode b_M_init 10 = .ok (.putfield 7, 3) := by decide +kernel
theorem d_M_init_13 : decode b_M_init 13 = .ok (.aload_n 0, 1) := by decide +kernel
theorem d_M_init_14 : decode b_M_init 14 = .ok (.sipush (300), 3) := by decide +kernel
theorem d_M_init_17 : decode b_M_init 17 = .ok (.newarray .int, 2) := by decide +kernel
theorem d_M_init_19 : decode b_M_init 19 = .ok (.putfield 13, 3) := by decide +kernel
theorem d_M_init_22 : decode b_M_init 22 = .ok (.aload_n 0, 1) := by decide +kernel
theorem d_M_init_23 : decode b_M_init 23 = .ok (.sipush (300), 3) := by decide +kernel
theorem d_M_init_26 : decode b_M_init 26 = .ok (.newarray .int, 2) := by decide +kernel
theorem d_M_init_28 : decode b_M_init 28 = .ok (.putfield 16, 3) := by decide +kernel
theorem d_M_init_31 : decode b_M_init 31 = .ok (.aload_n 0, 1) := by decide +kernel
theorem d_M_init_32 : decode b_M_init 32 = .ok (.sipush (300), 3) := by decide +kernel
theorem d_M_init_35 : decode b_M_init 35 = .ok (.newarray .int, 2) := by decide +kernel
theorem d_M_init_37 : decode b_M_init 37 = .ok (.putfield 19, 3) := by decide +kernel
theorem d_M_init_40 : decode b_M_init 40 = .ok (.aload_n 0, 1) := by decide +kernel
theorem d_M_init_41 : decode b_M_init 41 = .ok (.sipush (300), 3) := by decide +kernel
theorem d_M_init_44 : decode b_M_init 44 = .ok (.newarray .int, 2) := by decide +kernel
theorem d_M_init_46 : decode b_M_init 46 = .ok (.putfield 22, 3) := by decide +kernel
theorem d_M_init_49 : decode b_M_init 49 = .ok (.aload_n 0, 1) := by decide +kernel
theorem d_M_init_50 : decode b_M_init 50 = .ok (.sipush (300), 3) := by decide +kernel
theorem d_M_init_53 : decode b_M_init 53 = .ok (.newarray .int, 2) := by decide +kernel
theorem d_M_init_55 : decode b_M_init 55 = .ok (.putfield 25, 3) := by decide +kernel
theorem d_M_init_58 : decode b_M_init 58 = .ok (.aload_n 0, 1) := by decide +kernel
theorem d_M_init_59 : decode b_M_init 59 = .ok (.sipush (300), 3) := by decide +kernel
theorem d_M_init_62 : decode b_M_init 62 = .ok (.newarray .int, 2) := by decide +kernel
theorem d_M_init_64 : decode b_M_init 64 = .ok (.putfield 28, 3) := by decide +kernel
theorem d_M_init_67 : decode b_M_init 67 = .ok (.aload_n 0, 1) := by decide +kernel
theorem d_M_init_68 : decode b_M_init 68 = .ok (.sipush (4000), 3) := by decide +kernel
theorem d_M_init_71 : decode b_M_init 71 = .ok (.newarray .byte, 2) := by decide +kernel
theorem d_M_init_73 : decode b_M_init 73 = .ok (.putfield 31, 3) := by decide +kernel
theorem d_M_init_76 : decode b_M_init 76 = .ok (.aload_n 0, 1) := by decide +kernel
theorem d_M_init_77 : decode b_M_init 77 = .ok (.sipush (1501), 3) := by decide +kernel
theorem d_M_init_80 : decode b_M_init 80 = .ok (.newarray .int, 2) := by decide +kernel
theorem d_M_init_82 : decode b_M_init 82 = .ok (.putfield 35, 3) := by decide +kernel
theorem d_M_init_85 : decode b_M_init 85 = .ok (.aload_n 0, 1) := by decide +kernel
theorem d_M_init_86 : decode b_M_init 86 = .ok (.sipush (1501), 3) := by decide +kernel
theorem d_M_init_89 : decode b_M_init 89 = .ok (.newarray .int, 2) := by decide +kernel
theorem d_M_init_91 : decode b_M_init 91 = .ok (.putfield 38, 3) := by decide +kernel
theorem d_M_init_94 : decode b_M_init 94 = .ok (.aload_n 0, 1) := by decide +kernel
theorem d_M_init_95 : decode b_M_init 95 = .ok (.sipush (1501), 3) := by decide +kernel
theorem d_M_init_98 : decode b_M_init 98 = .ok (.newarray .int, 2) := by decide +kernel
theorem d_M_init_100 : decode b_M_init 100 = .ok (.putfield 41, 3) := by decide +kernel
theorem d_M_init_103 : decode b_M_init 103 = .ok (.aload_n 0, 1) := by decide +kernel
theorem d_M_init_104 : decode b_M_init 104 = .ok (.sipush (1501), 3) := by decide +kernel
theorem d_M_init_107 : decode b_M_init 107 = .ok (.newarray .int, 2) := by decide +kernel
theorem d_M_init_109 : decode b_M_init 109 = .ok (.putfield 44, 3) := by decide +kernel
theorem d_M_init_112 : decode b_M_init 112 = .ok (.aload_n 0, 1) := by decide +kernel
theorem d_M_init_113 : decode b_M_init 113 = .ok (.sipush (1501), 3) := by decide +kernel
theorem d_M_init_116 : decode b_M_init 116 = .ok (.newarray .boolean, 2) := by decide +kernel
theorem d_M_init_118 : decode b_M_init 118 = .ok (.putfield 47, 3) := by decide +kernel
theorem d_M_init_121 : decode b_M_init 121 = .ok (.aload_n 0, 1) := by decide +kernel
theorem d_M_init_122 : decode b_M_init 122 = .ok (.ldc 51, 2) := by decide +kernel
theorem d_M_init_124 : decode b_M_init 124 = .ok (.newarray .byte, 2) := by decide +kernel
theorem d_M_init_126 : decode b_M_init 126 = .ok (.putfield 52, 3) := by decide +kernel
theorem d_M_init_129 : decode b_M_init 129 = .ok (.aload_n 0, 1) := by decide +kernel
theorem d_M_init_130 : decode b_M_init 130 = .ok (.sipush (300), 3) := by decide +kernel
theorem d_M_init_133 : decode b_M_init 133 = .ok (.newarray .int, 2) := by decide +kernel
theorem d_M_init_135 : decode b_M_init 135 = .ok (.putfield 55, 3) := by decide +kernel
theorem d_M_init_138 : decode b_M_init 138 = .ok (.aload_n 0, 1) := by decide +kernel
theorem d_M_init_139 : decode b_M_init 139 = .ok (.sipush (300), 3) := by decide +kernel
theorem d_M_init_142 : decode b_M_init 142 = .ok (.newarray .int, 2) := by decide +kernel
theorem d_M_init_144 : decode b_M_init 144 = .ok (.putfield 58, 3) := by decide +kernel
theorem d_M_init_147 : decode b_M_init 147 = .ok (.aload_n 0, 1) := by decide +kernel
theorem d_M_init_148 : decode b_M_init 148 = .ok (.bipush (14), 2) := by decide +kernel
theorem d_M_init_150 : decode b_M_init 150 = .ok (.newarray .int, 2) := by decide +kernel
theorem d_M_init_152 : decode b_M_init 152 = .ok (.putfield 61, 3) := by decide +kernel
theorem d_M_init_155 : decode b_M_init 155 = .ok (.aload_n 0, 1) := by decide +kernel
theorem d_M_init_156 : decode b_M_init 156 = .ok (.bipush (14), 2) := by decide +kernel
theorem d_M_init_158 : decode b_M_init 158 = .ok (.newarray .int, 2) := by decide +kernel
theorem d_M_init_160 : decode b_M_init 160 = .ok (.putfield 64, 3) := by decide +kernel
theorem d_M_init_163 : decode b_M_init 163 = .ok (.aload_n 0, 1) := by decide +kernel
theorem d_M_init_164 : decode b_M_init 164 = .ok (.bipush (14), 2) := by decide +kernel
theorem d_M_init_166 : decode b_M_init 166 = .ok (.newarray .int, 2) := by decide +kernel
theorem d_M_init_168 : decode b_M_init 168 = .ok (.putfield 67, 3) := by decide +kernel
theorem d_M_init_171 : decode b_M_init 171 = .ok (.aload_n 0, 1) := by decide +kernel
theorem d_M_init_172 : decode b_M_init 172 = .ok (.bipush (14), 2) := by decide +kernel
theorem d_M_init_174 : decode b_M_init 174 = .ok (.newarray .int, 2) := by decide +kernel
theorem d_M_init_176 : decode b_M_init 176 = .ok (.putfield 70, 3) := by decide +kernel
theorem d_M_init_179 : decode b_M_init 179 = .ok (.aload_n 0, 1) := by decide +kernel
theorem d_M_init_180 : decode b_M_init 180 = .ok (.bipush (14), 2) := by decide +kernel
theorem d_M_init_182 : decode b_M_init 182 = .ok (.newarray .boolean, 2) := by decide +kernel
theorem d_M_init_184 : decode b_M_init 184 = .ok (.putfield 73, 3) := by decide +kernel
theorem d_M_init_187 : decode b_M_init 187 = .ok (.aload_n 0, 1) := by decide +kernel
theorem d_M_init_188 : decode b_M_init 188 = .ok (.bipush (14), 2) := by decide +kernel
theorem d_M_init_190 : decode b_M_init 190 = .ok (.newarray .boolean, 2) := by decide +kernel
theorem d_M_init_192 : decode b_M_init 192 = .ok (.putfield 76, 3) := by decide +kernel
theorem d_M_init_195 : decode b_M_init 195 = .ok (.aload_n 0, 1) := by decide +kernel
theorem d_M_init_196 : decode b_M_init 196 = .ok (.bipush (14), 2) := by decide +kernel
theorem d_M_init_198 : decode b_M_init 198 = .ok (.newarray .boolean, 2) := by decide +kernel
theorem d_M_init_200 : decode b_M_init 200 = .ok (.putfield 79, 3) := by decide +kernel
theorem d_M_init_203 : decode b_M_init 203 = .ok (.aload_n 0, 1) := by decide +kernel
theorem d_M_init_204 : decode b_M_init 204 = .ok (.bipush (14), 2) := by decide +kernel
theorem d_M_init_206 : decode b_M_init 206 = .ok (.newarray .boolean, 2) := by decide +kernel
theorem d_M_init_208 : decode b_M_init 208 = .ok (.putfield 82, 3) := by decide +kernel
theorem d_M_init_211 : decode b_M_init 211 = .ok (.aload_n 0, 1) := by decide +kernel
theorem d_M_init_212 : decode b_M_init 212 = .ok (.sipush (4010), 3) := by decide +kernel
theorem d_M_init_215 : decode b_M_init 215 = .ok (.newarray .int, 2) := by decide +kernel
theorem d_M_init_217 : decode b_M_init 217 = .ok (.putfield 85, 3) := by decide +kernel
theorem d_M_init_220 : decode b_M_init 220 = .ok (.aload_n 0, 1) := by decide +kernel
theorem d_M_init_221 : decode b_M_init 221 = .ok (.sipush (4010), 3) := by decide +kernel
theorem d_M_init_224 : decode b_M_init 224 = .ok (.newarray .int, 2) := by decide +kernel
theorem d_M_init_226 : decode b_M_init 226 = .ok (.putfield 88, 3) := by decide +kernel
theorem d_M_init_229 : decode b_M_init 229 = .ok (.aload_n 0, 1) := by decide +kernel
theorem d_M_init_230 : decode b_M_init 230 = .ok (.sipush (4300), 3) := by decide +kernel
theorem d_M_init_233 : decode b_M_init 233 = .ok (.newarray .int, 2) := by decide +kernel
theorem d_M_init_235 : decode b_M_init 235 = .ok (.putfield 91, 3) := by decide +kernel
theorem d_M_init_238 : decode b_M_init 238 = .ok (.aload_n 0, 1) := by decide +kernel
theorem d_M_init_239 : decode b_M_init 239 = .ok (.invokevirtual 94, 3) := by decide +kernel
theorem d_M_init_242 : decode b_M_init 242 = .ok (.return_, 1) := by decide +kernel
theorem d_M_empty_0 : decode b_M_empty 0 = .ok (.aload_n 0, 1) := by decide +kernel
theorem d_M_empty_1 : decode b_M_empty 1 = .ok (.getfield 7, 3) := by decide +kernel
theorem d_M_empty_4 : decode b_M_empty 4 = .ok (.iconst 0, 1) := by decide +kernel
theorem d_M_empty_5 : decode b_M_empty 5 = .ok (.bipush (11), 2) := by decide +kernel
theorem d_M_empty_7 : decode b_M_empty 7 = .ok (.iastore, 1) := by decide +kernel
theorem d_M_empty_8 : decode b_M_empty 8 = .ok (.aload_n 0, 1) := by decide +kernel
theorem d_M_empty_9 : decode b_M_empty 9 = .ok (.getfield 13, 3) := by decide +kernel
theorem d_M_empty_12 : decode b_M_empty 12 = .ok (.iconst 0, 1) := by decide +kernel
theorem d_M_empty_13 : decode b_M_empty 13 = .ok (.iconst (-1), 1) := by decide +kernel
theorem d_M_empty_14 : decode b_M_empty 14 = .ok (.iastore, 1) := by decide +kernel
theorem d_M_empty_15 : decode b_M_empty 15 = .ok (.aload_n 0, 1) := by decide +kernel
theorem d_M_empty_16 : decode b_M_empty 16 = .ok (.getfield 19, 3) := by decide +kernel
theorem d_M_empty_19 : decode b_M_empty 19 = .ok (.iconst 0, 1) := by decide +kernel
theorem d_M_empty_20 : decode b_M_empty 20 = .ok (.iconst 1, 1) := by decide +kernel
theorem d_M_empty_21 : decode b_M_empty 21 = .ok (.iastore, 1) := by decide +kernel
theorem d_M_empty_22 : decode b_M_empty 22 = .ok (.aload_n 0, 1) := by decide +kernel
theorem d_M_empty_23 : decode b_M_empty 23 = .ok (.getfield 28, 3) := by decide +kernel
theorem d_M_empty_26 : decode b_M_empty 26 = .ok (.iconst 0, 1) := by decide +kernel
end
section
theorem d_M_empty_27 : decode b_M_empty 27 = .ok (.iconst (-1), 1) := by decide +kernel
theorem d_M_empty_28 : decode b_M_empty 28 = .ok (.iastore, 1) := by decide +kernel
theorem d_M_empty_29 : decode b_M_empty 29 = .ok (.aload_n 0, 1) := by decide +kernel
theorem d_M_empty_30 : decode b_M_empty 30 = .ok (.getfield 16, 3) := by decide +kernel
theorem d_M_empty_33 : decode b_M_empty 33 = .ok (.iconst 0, 1) := by decide +kernel
theorem d_M_empty_34 : decode b_M_empty 34 = .ok (.iconst 0, 1) := by decide +kernel
theorem d_M_empty_35 : decode b_M_empty 35 = .ok (.iastore, 1) := by decide +kernel
theorem d_M_empty_36 : decode b_M_empty 36 = .ok (.aload_n 0, 1) := by decide +kernel
theorem d_M_empty_37 : decode b_M_empty 37 = .ok (.getfield 25, 3) := by decide +kernel
theorem d_M_empty_40 : decode b_M_empty 40 = .ok (.iconst 0, 1) := by decide +kernel
theorem d_M_empty_41 : decode b_M_empty 41 = .ok (.iconst 0, 1) := by decide +kernel
theorem d_M_empty_42 : decode b_M_empty 42 = .ok (.iastore, 1) := by decide +kernel
theorem d_M_empty_43 : decode b_M_empty 43 = .ok (.aload_n 0, 1) := by decide +kernel
theorem d_M_empty_44 : decode b_M_empty 44 = .ok (.iconst 1, 1) := by decide +kernel
theorem d_M_empty_45 : decode b_M_empty 45 = .ok (.putfield 101, 3) := by decide +kernel
theorem d_M_empty_48 : decode b_M_empty 48 = .ok (.aload_n 0, 1) := by decide +kernel
theorem d_M_empty_49 : decode b_M_empty 49 = .ok (.iconst 0, 1) := by decide +kernel
theorem d_M_empty_50 : decode b_M_empty 50 = .ok (.putfield 104, 3) := by decide +kernel
theorem d_M_empty_53 : decode b_M_empty 53 = .ok (.aload_n 0, 1) := by decide +kernel
theorem d_M_empty_54 : decode b_M_empty 54 = .ok (.iconst 0, 1) := by decide +kernel
theorem d_M_empty_55 : decode b_M_empty 55 = .ok (.putfield 107, 3) := by decide +kernel
theorem d_M_empty_58 : decode b_M_empty 58 = .ok (.aload_n 0, 1) := by decide +kernel
theorem d_M_empty_59 : decode b_M_empty 59 = .ok (.iconst 0, 1) := by decide +kernel
theorem d_M_empty_60 : decode b_M_empty 60 = .ok (.putfield 110, 3) := by decide +kernel
theorem d_M_empty_63 : decode b_M_empty 63 = .ok (.aload_n 0, 1) := by decide +kernel
theorem d_M_empty_64 : decode b_M_empty 64 = .ok (.iconst 0, 1) := by decide +kernel
theorem d_M_empty_65 : decode b_M_empty 65 = .ok (.putfield 113, 3) := by decide +kernel
theorem d_M_empty_68 : decode b_M_empty 68 = .ok (.aload_n 0, 1) := by decide +kernel
theorem d_M_empty_69 : decode b_M_empty 69 = .ok (.iconst 0, 1) := by decide +kernel
theorem d_M_empty_70 : decode b_M_empty 70 = .ok (.putfield 116, 3) := by decide +kernel
theorem d_M_empty_73 : decode b_M_empty 73 = .ok (.aload_n 0, 1) := by decide +kernel
theorem d_M_empty_74 : decode b_M_empty 74 = .ok (.iconst 0, 1) := by decide +kernel
theorem d_M_empty_75 : decode b_M_empty 75 = .ok (.putfield 119, 3) := by decide +kernel
theorem d_M_empty_78 : decode b_M_empty 78 = .ok (.aload_n 0, 1) := by decide +kernel
theorem d_M_empty_79 : decode b_M_empty 79 = .ok (.iconst 0, 1) := by decide +kernel
theorem d_M_empty_80 : decode b_M_empty 80 = .ok (.putfield 122, 3) := by decide +kernel
theorem d_M_empty_83 : decode b_M_empty 83 = .ok (.return_, 1) := by decide +kernel
theorem d_M_isBlock_0 : decode b_M_isBlock 0 = .ok (.iload_n 0, 1) := by decide +kernel
theorem d_M_isBlock_1 : decode b_M_isBlock 1 = .ok (.ifCond .lt (13), 3) := by decide +kernel
theorem d_M_isBlock_4 : decode b_M_isBlock 4 = .ok (.iload_n 0, 1) := by decide +kernel
theorem d_M_isBlock_5 : decode b_M_isBlock 5 = .ok (.bipush (6), 2) := by decide +kernel
theorem d_M_isBlock_7 : decode b_M_isBlock 7 = .ok (.if_icmp .gt (7), 3) := by decide +kernel
theorem d_M_isBlock_10 : decode b_M_isBlock 10 = .ok (.iconst 1, 1) := by decide +kernel
theorem d_M_isBlock_11 : decode b_M_isBlock 11 = .ok (.goto (4), 3) := by decide +kernel
theorem d_M_isBlock_14 : decode b_M_isBlock 14 = .ok (.iconst 0, 1) := by decide +kernel
theorem d_M_isBlock_15 : decode b_M_isBlock 15 = .ok (.ireturn, 1) := by decide +kernel
theorem d_M_isInline_0 : decode b_M_isInline 0 = .ok (.iload_n 0, 1) := by decide +kernel
theorem d_M_isInline_1 : decode b_M_isInline 1 = .ok (.bipush (8), 2) := by decide +kernel
theorem d_M_isInline_3 : decode b_M_isInline 3 = .ok (.if_icmp .lt (13), 3) := by decide +kernel
theorem d_M_isInline_6 : decode b_M_isInline 6 = .ok (.iload_n 0, 1) := by decide +kernel
theorem d_M_isInline_7 : decode b_M_isInline 7 = .ok (.bipush (10), 2) := by decide +kernel
theorem d_M_isInline_9 : decode b_M_isInline 9 = .ok (.if_icmp .gt (7), 3) := by decide +kernel
theorem d_M_isInline_12 : decode b_M_isInline 12 = .ok (.iconst 1, 1) := by decide +kernel
theorem d_M_isInline_13 : decode b_M_isInline 13 = .ok (.goto (4), 3) := by decide +kernel
theorem d_M_isInline_16 : decode b_M_isInline 16 = .ok (.iconst 0, 1) := by decide +kernel
theorem d_M_isInline_17 : decode b_M_isInline 17 = .ok (.ireturn, 1) := by decide +kernel
theorem d_M_mayHold_0 : decode b_M_mayHold 0 = .ok (.iload_n 0, 1) := by decide +kernel
theorem d_M_mayHold_1 : decode b_M_mayHold 1 = .ok (.tableswitch (117) (0) (11) #[100, 100, 117, 105, 63, 68, 68, 80, 100, 117, 117, 63], 63) := by decide +kernel
theorem d_M_mayHold_64 : decode b_M_mayHold 64 = .ok (.iload_n 1, 1) := by decide +kernel
theorem d_M_mayHold_65 : decode b_M_mayHold 65 = .ok (.invokestatic 125, 3) := by decide +kernel
theorem d_M_mayHold_68 : decode b_M_mayHold 68 = .ok (.ireturn, 1) := by decide +kernel
theorem d_M_mayHold_69 : decode b_M_mayHold 69 = .ok (.iload_n 1, 1) := by decide +kernel
theorem d_M_mayHold_70 : decode b_M_mayHold 70 = .ok (.bipush (7), 2) := by decide +kernel
theorem d_M_mayHold_72 : decode b_M_mayHold 72 = .ok (.if_icmp .ne (7), 3) := by decide +kernel
theorem d_M_mayHold_75 : decode b_M_mayHold 75 = .ok (.iconst 1, 1) := by decide +kernel
theorem d_M_mayHold_76 : decode b_M_mayHold 76 = .ok (.goto (4), 3) := by decide +kernel
theorem d_M_mayHold_79 : decode b_M_mayHold 79 = .ok (.iconst 0, 1) := by decide +kernel
theorem d_M_mayHold_80 : decode b_M_mayHold 80 = .ok (.ireturn, 1) := by decide +kernel
theorem d_M_mayHold_81 : decode b_M_mayHold 81 = .ok (.iload_n 1, 1) := by decide +kernel
theorem d_M_mayHold_82 : decode b_M_mayHold 82 = .ok (.invokestatic 125, 3) := by decide +kernel
theorem d_M_mayHold_85 : decode b_M_mayHold 85 = .ok (.ifCond .ne (10), 3) := by decide +kernel
theorem d_M_mayHold_88 : decode b_M_mayHold 88 = .ok (.iload_n 1, 1) := by decide +kernel
theorem d_M_mayHold_89 : decode b_M_mayHold 89 = .ok (.invokestatic 129, 3) := by decide +kernel
theorem d_M_mayHold_92 : decode b_M_mayHold 92 = .ok (.ifCond .eq (7), 3) := by decide +kernel
theorem d_M_mayHold_95 : decode b_M_mayHold 95 = .ok (.iconst 1, 1) := by decide +kernel
theorem d_M_mayHold_96 : decode b_M_mayHold 96 = .ok (.goto (4), 3) := by decide +kernel
theorem d_M_mayHold_99 : decode b_M_mayHold 99 = .ok (.iconst 0, 1) := by decide +kernel
theorem d_M_mayHold_100 : decode b_M_mayHold 100 = .ok (.ireturn, 1) := by decide +kernel
theorem d_M_mayHold_101 : decode b_M_mayHold 101 = .ok (.iload_n 1, 1) := by decide +kernel
theorem d_M_mayHold_102 : decode b_M_mayHold 102 = .ok (.invokestatic 129, 3) := by decide +kernel
theorem d_M_mayHold_105 : decode b_M_mayHold 105 = .ok (.ireturn, 1) := by decide +kernel
theorem d_M_mayHold_106 : decode b_M_mayHold 106 = .ok (.iload_n 1, 1) := by decide +kernel
theorem d_M_mayHold_107 : decode b_M_mayHold 107 = .ok (.bipush (10), 2) := by decide +kernel
theorem d_M_mayHold_109 : decode b_M_mayHold 109 = .ok (.if_icmp .ne (7), 3) := by decide +kernel
theorem d_M_mayHold_112 : decode b_M_mayHold 112 = .ok (.iconst 1, 1) := by decide +kernel
theorem d_M_mayHold_113 : decode b_M_mayHold 113 = .ok (.goto (4), 3) := by decide +kernel
theorem d_M_mayHold_116 : decode b_M_mayHold 116 = .ok (.iconst 0, 1) := by decide +kernel
theorem d_M_mayHold_117 : decode b_M_mayHold 117 = .ok (.ireturn, 1) := by decide +kernel
theorem d_M_mayHold_118 : decode b_M_mayHold 118 = .ok (.iconst 0, 1) := by decide +kernel
theorem d_M_mayHold_119 : decode b_M_mayHold 119 = .ok (.ireturn, 1) := by decide +kernel
theorem d_M_isFull_0 : decode b_M_isFull 0 = .ok (.aload_n 0, 1) := by decide +kernel
theorem d_M_isFull_1 : decode b_M_isFull 1 = .ok (.getfield 101, 3) := by decide +kernel
theorem d_M_isFull_4 : decode b_M_isFull 4 = .ok (.sipush (300), 3) := by decide +kernel
theorem d_M_isFull_7 : decode b_M_isFull 7 = .ok (.if_icmp .eq (17), 3) := by decide +kernel
theorem d_M_isFull_10 : decode b_M_isFull 10 = .ok (.aload_n 0, 1) := by decide +kernel
theorem d_M_isFull_11 : decode b_M_isFull 11 = .ok (.getfield 19, 3) := by decide +kernel
theorem d_M_isFull_14 : decode b_M_isFull 14 = .ok (.aload_n 0, 1) := by decide +kernel
theorem d_M_isFull_15 : decode b_M_isFull 15 = .ok (.getfield 107, 3) := by decide +kernel
theorem d_M_isFull_18 : decode b_M_isFull 18 = .ok (.iaload, 1) := by decide +kernel
theorem d_M_isFull_19 : decode b_M_isFull 19 = .ok (.bipush (12), 2) := by decide +kernel
theorem d_M_isFull_21 : decode b_M_isFull 21 = .ok (.if_icmp .ne (7), 3) := by decide +kernel
theorem d_M_isFull_24 : decode b_M_isFull 24 = .ok (.iconst 1, 1) := by decide +kernel
theorem d_M_isFull_25 : decode b_M_isFull 25 = .ok (.goto (4), 3) := by decide +kernel
theorem d_M_isFull_28 : decode b_M_isFull 28 = .ok (.iconst 0, 1) := by decide +kernel
theorem d_M_isFull_29 : decode b_M_isFull 29 = .ok (.ireturn, 1) := by decide +kernel
theorem d_M_add_0 : decode b_M_add 0 = .ok (.aload_n 0, 1) := by decide +kernel
theorem d_M_add_1 : decode b_M_add 1 = .ok (.getfield 101, 3) := by decide +kernel
theorem d_M_add_4 : decode b_M_add 4 = .ok (.istore_n 3, 1) := by decide +kernel
theorem d_M_add_5 : decode b_M_add 5 = .ok (.aload_n 0, 1) := by decide +kernel
theorem d_M_add_6 : decode b_M_add 6 = .ok (.getfield 7, 3) := by decide +kernel
theorem d_M_add_9 : decode b_M_add 9 = .ok (.iload_n 3, 1) := by decide +kernel
theorem d_M_add_10 : decode b_M_add 10 = .ok (.iload_n 1, 1) := by decide +kernel
theorem d_M_add_11 : decode b_M_add 11 = .ok (.iastore, 1) := by decide +kernel
theorem d_M_add_12 : decode b_M_add 12 = .ok (.aload_n 0, 1) := by decide +kernel
theorem d_M_add_13 : decode b_M_add 13 = .ok (.getfield 13, 3) := by decide +kernel
theorem d_M_add_16 : decode b_M_add 16 = .ok (.iload_n 3, 1) := by decide +kernel
theorem d_M_add_17 : decode b_M_add 17 = .ok (.aload_n 0, 1) := by decide +kernel
theorem d_M_add_18 : decode b_M_add 18 = .ok (.getfield 107, 3) := by decide +kernel
theorem d_M_add_21 : decode b_M_add 21 = .ok (.iastore, 1) := by decide +kernel
theorem d_M_add_22 : decode b_M_add 22 = .ok (.aload_n 0, 1) := by decide +kernel
theorem d_M_add_23 : decode b_M_add 23 = .ok (.getfield 16, 3) := by decide +kernel
theorem d_M_add_26 : decode b_M_add 26 = .ok (.iload_n 3, 1) := by decide +kernel
theorem d_M_add_27 : decode b_M_add 27 = .ok (.iload_n 2, 1) := by decide +kernel
theorem d_M_add_28 : decode b_M_add 28 = .ok (.iastore, 1) := by decide +kernel
theorem d_M_add_29 : decode b_M_add 29 = .ok (.aload_n 0, 1) := by decide +kernel
theorem d_M_add_30 : decode b_M_add 30 = .ok (.getfield 19, 3) := by decide +kernel
theorem d_M_add_33 : decode b_M_add 33 = .ok (.iload_n 3, 1) := by decide +kernel
theorem d_M_add_34 : decode b_M_add 34 = .ok (.aload_n 0, 1) := by decide +kernel
theorem d_M_add_35 : decode b_M_add 35 = .ok (.getfield 19, 3) := by decide +kernel
theorem d_M_add_38 : decode b_M_add 38 = .ok (.aload_n 0, 1) := by decide +kernel
theorem d_M_add_39 : decode b_M_add 39 = .ok (.getfield 107, 3) := by decide +kernel
theorem d_M_add_42 : decode b_M_add 42 = .ok (.iaload, 1) := by decide +kernel
theorem d_M_add_43 : decode b_M_add 43 = .ok (.iconst 1, 1) := by decide +kernel
theorem d_M_add_44 : decode b_M_add 44 = .ok (.iadd, 1) := by decide +kernel
theorem d_M_add_45 : decode b_M_add 45 = .ok (.iastore, 1) := by decide +kernel
theorem d_M_add_46 : decode b_M_add 46 = .ok (.aload_n 0, 1) := by decide +kernel
theorem d_M_add_47 : decode b_M_add 47 = .ok (.getfield 22, 3) := by decide +kernel
theorem d_M_add_50 : decode b_M_add 50 = .ok (.iload_n 3, 1) := by decide +kernel
theorem d_M_add_51 : decode b_M_add 51 = .ok (.aload_n 0, 1) := by decide +kernel
theorem d_M_add_52 : decode b_M_add 52 = .ok (.getfield 104, 3) := by decide +kernel
theorem d_M_add_55 : decode b_M_add 55 = .ok (.iastore, 1) := by decide +kernel
theorem d_M_add_56 : decode b_M_add 56 = .ok (.aload_n 0, 1) := by decide +kernel
theorem d_M_add_57 : decode b_M_add 57 = .ok (.getfield 25, 3) := by decide +kernel
theorem d_M_add_60 : decode b_M_add 60 = .ok (.iload_n 3, 1) := by decide +kernel
theorem d_M_add_61 : decode b_M_add 61 = .ok (.iconst 0, 1) := by decide +kernel
theorem d_M_add_62 : decode b_M_add 62 = .ok (.iastore, 1) := by decide +kernel
theorem d_M_add_63 : decode b_M_add 63 = .ok (.aload_n 0, 1) := by decide +kernel
theorem d_M_add_64 : decode b_M_add 64 = .ok (.getfield 28, 3) := by decide +kernel
theorem d_M_add_67 : decode b_M_add 67 = .ok (.iload_n 3, 1) := by decide +kernel
theorem d_M_add_68 : decode b_M_add 68 = .ok (.iconst (-1), 1) := by decide +kernel
theorem d_M_add_69 : decode b_M_add 69 = .ok (.iastore, 1) := by decide +kernel
theorem d_M_add_70 : decode b_M_add 70 = .ok (.aload_n 0, 1) := by decide +kernel
theorem d_M_add_71 : decode b_M_add 71 = .ok (.getfield 28, 3) := by decide +kernel
theorem d_M_add_74 : decode b_M_add 74 = .ok (.aload_n 0, 1) := by decide +kernel
theorem d_M_add_75 : decode b_M_add 75 = .ok (.getfield 107, 3) := by decide +kernel
theorem d_M_add_78 : decode b_M_add 78 = .ok (.iload_n 3, 1) := by decide +kernel
theorem d_M_add_79 : decode b_M_add 79 = .ok (.iastore, 1) := by decide +kernel
theorem d_M_add_80 : decode b_M_add 80 = .ok (.aload_n 0, 1) := by decide +kernel
theorem d_M_add_81 : decode b_M_add 81 = .ok (.dup, 1) := by decide +kernel
theorem d_M_add_82 : decode b_M_add 82 = .ok (.getfield 101, 3) := by decide +kernel
theorem d_M_add_85 : decode b_M_add 85 = .ok (.iconst 1, 1) := by decide +kernel
theorem d_M_add_86 : decode b_M_add 86 = .ok (.iadd, 1) := by decide +kernel
theorem d_M_add_87 : decode b_M_add 87 = .ok (.putfield 101, 3) := by decide +kernel
theorem d_M_add_90 : decode b_M_add 90 = .ok (.iload_n 3, 1) := by decide +kernel
theorem d_M_add_91 : decode b_M_add 91 = .ok (.ireturn, 1) := by decide +kernel
theorem d_M_begin_0 : decode b_M_begin 0 = .ok (.iload_n 1, 1) := by decide +kernel
theorem d_M_begin_1 : decode b_M_begin 1 = .ok (.ifCond .lt (61), 3) := by decide +kernel
theorem d_M_begin_4 : decode b_M_begin 4 = .ok (.iload_n 1, 1) := by decide +kernel
theorem d_M_begin_5 : decode b_M_begin 5 = .ok (.bipush (9), 2) := by decide +kernel
theorem d_M_begin_7 : decode b_M_begin 7 = .ok (.if_icmp .gt (55), 3) := by decide +kernel
theorem d_M_begin_10 : decode b_M_begin 10 = .ok (.aload_n 0, 1) := by decide +kernel
theorem d_M_begin_11 : decode b_M_begin 11 = .ok (.getfield 7, 3) := by decide +kernel
theorem d_M_begin_14 : decode b_M_begin 14 = .ok (.aload_n 0, 1) := by decide +kernel
theorem d_M_begin_15 : decode b_M_begin 15 = .ok (.getfield 107, 3) := by decide +kernel
theorem d_M_begin_18 : decode b_M_begin 18 = .ok (.iaload, 1) := by decide +kernel
theorem d_M_begin_19 : decode b_M_begin 19 = .ok (.iload_n 1, 1) := by decide +kernel
theorem d_M_begin_20 : decode b_M_begin 20 = .ok (.invokestatic 132, 3) := by decide +kernel
theorem d_M_begin_23 : decode b_M_begin 23 = .ok (.ifCond .eq (39), 3) := by decide +kernel
theorem d_M_begin_26 : decode b_M_begin 26 = .ok (.iload_n 1, 1) := by decide +kernel
theorem d_M_begin_27 : decode b_M_begin 27 = .ok (.iconst 1, 1) := by decide +kernel
theorem d_M_begin_28 : decode b_M_begin 28 = .ok (.if_icmp .ne (14), 3) := by decide +kernel
theorem d_M_begin_31 : decode b_M_begin 31 = .ok (.iload_n 2, 1) := by decide +kernel
theorem d_M_begin_32 : decode b_M_begin 32 = .ok (.iconst 1, 1) := by decide +kernel
theorem d_M_begin_33 : decode b_M_begin 33 = .ok (.if_icmp .lt (29), 3) := by decide +kernel
theorem d_M_begin_36 : decode b_M_begin 36 = .ok (.iload_n 2, 1) := by decide +kernel
theorem d_M_begin_37 : decode b_M_begin 37 = .ok (.bipush (6), 2) := by decide +kernel
theorem d_M_begin_39 : decode b_M_begin 39 = .ok (.if_icmp .gt (23), 3) := by decide +kernel
theorem d_M_begin_42 : decode b_M_begin 42 = .ok (.iload_n 1, 1) := by decide +kernel
theorem d_M_begin_43 : decode b_M_begin 43 = .ok (.bipush (6), 2) := by decide +kernel
theorem d_M_begin_45 : decode b_M_begin 45 = .ok (.if_icmp .ne (13), 3) := by decide +kernel
theorem d_M_begin_48 : decode b_M_begin 48 = .ok (.iload_n 2, 1) := by decide +kernel
theorem d_M_begin_49 : decode b_M_begin 49 = .ok (.ifCond .lt (13), 3) := by decide +kernel
theorem d_M_begin_52 : decode b_M_begin 52 = .ok (.iload_n 2, 1) := by decide +kernel
theorem d_M_begin_53 : decode b_M_begin 53 = .ok (.ldc 136, 2) := by decide +kernel
theorem d_M_begin_55 : decode b_M_begin 55 = .ok (.if_icmp .gt (7), 3) := by decide +kernel
theorem d_M_begin_58 : decode b_M_begin 58 = .ok (.iconst 1, 1) := by decide +kernel
theorem d_M_begin_59 : decode b_M_begin 59 = .ok (.goto (4), 3) := by decide +kernel
theorem d_M_begin_62 : decode b_M_begin 62 = .ok (.iconst 0, 1) := by decide +kernel
theorem d_M_begin_63 : decode b_M_begin 63 = .ok (.istore_n 3, 1) := by decide +kernel
theorem d_M_begin_64 : decode b_M_begin 64 = .ok (.aload_n 0, 1) := by decide +kernel
theorem d_M_begin_65 : decode b_M_begin 65 = .ok (.aload_n 0, 1) := by decide +kernel
theorem d_M_begin_66 : decode b_M_begin 66 = .ok (.invokevirtual 137, 3) := by decide +kernel
theorem d_M_begin_69 : decode b_M_begin 69 = .ok (.ifCond .eq (7), 3) := by decide +kernel
theorem d_M_begin_72 : decode b_M_begin 72 = .ok (.iconst 1, 1) := by decide +kernel
theorem d_M_begin_73 : decode b_M_begin 73 = .ok (.goto (12), 3) := by decide +kernel
theorem d_M_begin_76 : decode b_M_begin 76 = .ok (.iload_n 3, 1) := by decide +kernel
theorem d_M_begin_77 : decode b_M_begin 77 = .ok (.ifCond .eq (7), 3) := by decide +kernel
theorem d_M_begin_80 : decode b_M_begin 80 = .ok (.iconst 0, 1) := by decide +kernel
theorem d_M_begin_81 : decode b_M_begin 81 = .ok (.goto (4), 3) := by decide +kernel
theorem d_M_begin_84 : decode b_M_begin 84 = .ok (.iconst 2, 1) := by decide +kernel
theorem d_M_begin_85 : decode b_M_begin 85 = .ok (.putfield 97, 3) := by decide +kernel
theorem d_M_begin_88 : decode b_M_begin 88 = .ok (.aload_n 0, 1) := by decide +kernel
theorem d_M_begin_89 : decode b_M_begin 89 = .ok (.getfield 97, 3) := by decide +kernel
theorem d_M_begin_92 : decode b_M_begin 92 = .ok (.ifCond .le (5), 3) := by decide +kernel
theorem d_M_begin_95 : decode b_M_begin 95 = .ok (.iconst 0, 1) := by decide +kernel
theorem d_M_begin_96 : decode b_M_begin 96 = .ok (.ireturn, 1) := by decide +kernel
theorem d_M_begin_97 : decode b_M_begin 97 = .ok (.aload_n 0, 1) := by decide +kernel
theorem d_M_begin_98 : decode b_M_begin 98 = .ok (.iload_n 1, 1) := by decide +kernel
theorem d_M_begin_99 : decode b_M_begin 99 = .ok (.iload_n 1, 1) := by decide +kernel
theorem d_M_begin_100 : decode b_M_begin 100 = .ok (.iconst 1, 1) := by decide +kernel
theorem d_M_begin_101 : decode b_M_begin 101 = .ok (.if_icmp .eq (9), 3) := by decide +kernel
theorem d_M_begin_104 : decode b_M_begin 104 = .ok (.iload_n 1, 1) := by decide +kernel
theorem d_M_begin_105 : decode b_M_begin 105 = .ok (.bipush (6), 2) := by decide +kernel
theorem d_M_begin_107 : decode b_M_begin 107 = .ok (.if_icmp .ne (7), 3) := by decide +kernel
theorem d_M_begin_110 : decode b_M_begin 110 = .ok (.iload_n 2, 1) := by decide +kernel
theorem d_M_begin_111 : decode b_M_begin 111 = .ok (.goto (4), 3) := by decide +kernel
theorem d_M_begin_114 : decode b_M_begin 114 = .ok (.iconst 0, 1) := by decide +kernel
theorem d_M_begin_115 : decode b_M_begin 115 = .ok (.invokevirtual 141, 3) := by decide +kernel
theorem d_M_begin_118 : decode b_M_begin 118 = .ok (.istore 4, 2) := by decide +kernel
theorem d_M_begin_120 : decode b_M_begin 120 = .ok (.iload_n 1, 1) := by decide +kernel
theorem d_M_begin_121 : decode b_M_begin 121 = .ok (.iconst 2, 1) := by decide +kernel
theorem d_M_begin_122 : decode b_M_begin 122 = .ok (.if_icmp .eq (15), 3) := by decide +kernel
theorem d_M_begin_125 : decode b_M_begin 125 = .ok (.iload_n 1, 1) := by decide +kernel
theorem d_M_begin_126 : decode b_M_begin 126 = .ok (.bipush (9), 2) := by decide +kernel
theorem d_M_begin_128 : decode b_M_begin 128 = .ok (.if_icmp .eq (9), 3) := by decide +kernel
theorem d_M_begin_131 : decode b_M_begin 131 = .ok (.aload_n 0, 1) := by decide +kernel
theorem d_M_begin_132 : decode b_M_begin 132 = .ok (.iload 4, 2) := by decide +kernel
theorem d_M_begin_134 : decode b_M_begin 134 = .ok (.putfield 107, 3) := by decide +kernel
theorem d_M_begin_137 : decode b_M_begin 137 = .ok (.iload 4, 2) := by decide +kernel
theorem d_M_begin_139 : decode b_M_begin 139 = .ok (.ireturn, 1) := by decide +kernel
theorem d_M_end_0 : decode b_M_end 0 = .ok (.aload_n 0, 1) := by decide +kernel
theorem d_M_end_1 : decode b_M_end 1 = .ok (.iconst 0, 1) := by decide +kernel
theorem d_M_end_2 : decode b_M_end 2 = .ok (.putfield 97, 3) := by decide +kernel
theorem d_M_end_5 : decode b_M_end 5 = .ok (.aload_n 0, 1) := by decide +kernel
theorem d_M_end_6 : decode b_M_end 6 = .ok (.getfield 107, 3) := by decide +kernel
theorem d_M_end_9 : decode b_M_end 9 = .ok (.ifCond .ne (5), 3) := by decide +kernel
theorem d_M_end_12 : decode b_M_end 12 = .ok (.iconst (-1), 1) := by decide +kernel
theorem d_M_end_13 : decode b_M_end 13 = .ok (.ireturn, 1) := by decide +kernel
theorem d_M_end_14 : decode b_M_end 14 = .ok (.aload_n 0, 1) := by decide +kernel
theorem d_M_end_15 : decode b_M_end 15 = .ok (.aload_n 0, 1) := by decide +kernel
theorem d_M_end_16 : decode b_M_end 16 = .ok (.getfield 13, 3) := by decide +kernel
theorem d_M_end_19 : decode b_M_end 19 = .ok (.aload_n 0, 1) := by decide +kernel
theorem d_M_end_20 : decode b_M_end 20 = .ok (.getfield 107, 3) := by decide +kernel
theorem d_M_end_23 : decode b_M_end 23 = .ok (.iaload, 1) := by decide +kernel
theorem d_M_end_24 : decode b_M_end 24 = .ok (.putfield 107, 3) := by decide +kernel
theorem d_M_end_27 : decode b_M_end 27 = .ok (.aload_n 0, 1) := by decide +kernel
theorem d_M_end_28 : decode b_M_end 28 = .ok (.getfield 107, 3) := by decide +kernel
theorem d_M_end_31 : decode b_M_end 31 = .ok (.ireturn, 1) := by decide +kernel
theorem d_M_say_0 : decode b_M_say 0 = .ok (.aload_n 0, 1) := by decide +kernel
theorem d_M_say_1 : decode b_M_say 1 = .ok (.getfield 28, 3) := by decide +kernel
theorem d_M_say_4 : decode b_M_say 4 = .ok (.aload_n 0, 1) := by decide +kernel
theorem d_M_say_5 : decode b_M_say 5 = .ok (.getfield 107, 3) := by decide +kernel
theorem d_M_say_8 : decode b_M_say 8 = .ok (.iaload, 1) := by decide +kernel
theorem d_M_say_9 : decode b_M_say 9 = .ok (.iconst (-1), 1) := by decide +kernel
theorem d_M_say_10 : decode b_M_say 10 = .ok (.if_icmp .eq (22), 3) := by decide +kernel
theorem d_M_say_13 : decode b_M_say 13 = .ok (.aload_n 0, 1) := by decide +kernel
theorem d_M_say_14 : decode b_M_say 14 = .ok (.getfield 7, 3) := by decide +kernel
theorem d_M_say_17 : decode b_M_say 17 = .ok (.aload_n 0, 1) := by decide +kernel
theorem d_M_say_18 : decode b_M_say 18 = .ok (.getfield 28, 3) := by decide +kernel
theorem d_M_say_21 : decode b_M_say 21 = .ok (.aload_n 0, 1) := by decide +kernel
theorem d_M_say_22 : decode b_M_say 22 = .ok (.getfield 107, 3) := by decide +kernel
theorem d_M_say_25 : decode b_M_say 25 = .ok (.iaload, 1) := by decide +kernel
theorem d_M_say_26 : decode b_M_say 26 = .ok (.iaload, 1) := by decide +kernel
theorem d_M_say_27 : decode b_M_say 27 = .ok (.bipush (10), 2) := by decide +kernel
theorem d_M_say_29 : decode b_M_say 29 = .ok (.if_icmp .eq (7), 3) := by decide +kernel
theorem d_M_say_32 : decode b_M_say 32 = .ok (.iconst 1, 1) := by decide +kernel
theorem d_M_say_33 : decode b_M_say 33 = .ok (.goto (4), 3) := by decide +kernel
theorem d_M_say_36 : decode b_M_say 36 = .ok (.iconst 0, 1) := by decide +kernel
theorem d_M_say_37 : decode b_M_say 37 = .ok (.istore 6, 2) := by decide +kernel
theorem d_M_say_39 : decode b_M_say 39 = .ok (.aload_n 0, 1) := by decide +kernel
theorem d_M_say_40 : decode b_M_say 40 = .ok (.iload 5, 2) := by decide +kernel
theorem d_M_say_42 : decode b_M_say 42 = .ok (.iconst 1, 1) := by decide +kernel
theorem d_M_say_43 : decode b_M_say 43 = .ok (.if_icmp .lt (26), 3) := by decide +kernel
theorem d_M_say_46 : decode b_M_say 46 = .ok (.iload 5, 2) := by decide +kernel
theorem d_M_say_48 : decode b_M_say 48 = .ok (.iconst 4, 1) := by decide +kernel
theorem d_M_say_49 : decode b_M_say 49 = .ok (.if_icmp .gt (20), 3) := by decide +kernel
theorem d_M_say_52 : decode b_M_say 52 = .ok (.aload_n 0, 1) := by decide +kernel
theorem d_M_say_53 : decode b_M_say 53 = .ok (.getfield 7, 3) := by decide +kernel
theorem d_M_say_56 : decode b_M_say 56 = .ok (.aload_n 0, 1) := by decide +kernel
theorem d_M_say_57 : decode b_M_say 57 = .ok (.getfield 107, 3) := by decide +kernel
theorem d_M_say_60 : decode b_M_say 60 = .ok (.iaload, 1) := by decide +kernel
theorem d_M_say_61 : decode b_M_say 61 = .ok (.bipush (10), 2) := by decide +kernel
theorem d_M_say_63 : decode b_M_say 63 = .ok (.invokestatic 132, 3) := by decide +kernel
theorem d_M_say_66 : decode b_M_say 66 = .ok (.ifCond .ne (7), 3) := by decide +kernel
theorem d_M_say_69 : decode b_M_say 69 = .ok (.iconst 1, 1) := by decide +kernel
theorem d_M_say_70 : decode b_M_say 70 = .ok (.goto (33), 3) := by decide +kernel
theorem d_M_say_73 : decode b_M_say 73 = .ok (.aload_n 0, 1) := by decide +kernel
theorem d_M_say_74 : decode b_M_say 74 = .ok (.getfield 104, 3) := by decide +kernel
theorem d_M_say_77 : decode b_M_say 77 = .ok (.iload 5, 2) := by decide +kernel
theorem d_M_say_79 : decode b_M_say 79 = .ok (.iadd, 1) := by decide +kernel
theorem d_M_say_80 : decode b_M_say 80 = .ok (.sipush (4000), 3) := by decide +kernel
theorem d_M_say_83 : decode b_M_say 83 = .ok (.if_icmp .gt (15), 3) := by decide +kernel
theorem d_M_say_86 : decode b_M_say 86 = .ok (.iload 6, 2) := by decide +kernel
theorem d_M_say_88 : decode b_M_say 88 = .ok (.ifCond .eq (14), 3) := by decide +kernel
theorem d_M_say_91 : decode b_M_say 91 = .ok (.aload_n 0, 1) := by decide +kernel
theorem d_M_say_92 : decode b_M_say 92 = .ok (.invokevirtual 137, 3) := by decide +kernel
theorem d_M_say_95 : decode b_M_say 95 = .ok (.ifCond .eq (7), 3) := by decide +kernel
theorem d_M_say_98 : decode b_M_say 98 = .ok (.iconst 2, 1) := by decide +kernel
theorem d_M_say_99 : decode b_M_say 99 = .ok (.goto (4), 3) := by decide +kernel
theorem d_M_say_102 : decode b_M_say 102 = .ok (.iconst 0, 1) := by decide +kernel
theorem d_M_say_103 : decode b_M_say 103 = .ok (.putfield 97, 3) := by decide +kernel
theorem d_M_say_106 : decode b_M_say 106 = .ok (.aload_n 0, 1) := by decide +kernel
theorem d_M_say_107 : decode b_M_say 107 = .ok (.getfield 97, 3) := by decide +kernel
theorem d_M_say_110 : decode b_M_say 110 = .ok (.ifCond .le (5), 3) := by decide +kernel
theorem d_M_say_113 : decode b_M_say 113 = .ok (.iconst 0, 1) := by decide +kernel
theorem d_M_say_114 : decode b_M_say 114 = .ok (.ireturn, 1) := by decide +kernel
theorem d_M_say_115 : decode b_M_say 115 = .ok (.iload 6, 2) := by decide +kernel
theorem d_M_say_117 : decode b_M_say 117 = .ok (.ifCond .eq (13), 3) := by decide +kernel
theorem d_M_say_120 : decode b_M_say 120 = .ok (.aload_n 0, 1) := by decide +kernel
theorem d_M_say_121 : decode b_M_say 121 = .ok (.bipush (10), 2) := by decide +kernel
theorem d_M_say_123 : decode b_M_say 123 = .ok (.iconst 0, 1) := by decide +kernel
theorem d_M_say_124 : decode b_M_say 124 = .ok (.invokevirtual 141, 3) := by decide +kernel
theorem d_M_say_127 : decode b_M_say 127 = .ok (.goto (12), 3) := by decide +kernel
theorem d_M_say_130 : decode b_M_say 130 = .ok (.aload_n 0, 1) := by decide +kernel
theorem d_M_say_131 : decode b_M_say 131 = .ok (.getfield 28, 3) := by decide +kernel
theorem d_M_say_134 : decode b_M_say 134 = .ok (.aload_n 0, 1) := by decide +kernel
theorem d_M_say_135 : decode b_M_say 135 = .ok (.getfield 107, 3) := by decide +kernel
theorem d_M_say_138 : decode b_M_say 138 = .ok (.iaload, 1) := by decide +kernel
theorem d_M_say_139 : decode b_M_say 139 = .ok (.istore 7, 2) := by decide +kernel
theorem d_M_say_141 : decode b_M_say 141 = .ok (.iconst 0, 1) := by decide +kernel
theorem d_M_say_142 : decode b_M_say 142 = .ok (.istore 8, 2) := by decide +kernel
theorem d_M_say_144 : decode b_M_say 144 = .ok (.iload 8, 2) := by decide +kernel
theorem d_M_say_146 : decode b_M_say 146 = .ok (.iload 5, 2) := by decide +kernel
theorem d_M_say_148 : decode b_M_say 148 = .ok (.if_icmp .ge (60), 3) := by decide +kernel
theorem d_M_say_151 : decode b_M_say 151 = .ok (.aload_n 0, 1) := by decide +kernel
theorem d_M_say_152 : decode b_M_say 152 = .ok (.getfield 31, 3) := by decide +kernel
theorem d_M_say_155 : decode b_M_say 155 = .ok (.aload_n 0, 1) := by decide +kernel
theorem d_M_say_156 : decode b_M_say 156 = .ok (.getfield 104, 3) := by decide +kernel
theorem d_M_say_159 : decode b_M_say 159 = .ok (.iload 8, 2) := by decide +kernel
theorem d_M_say_161 : decode b_M_say 161 = .ok (.ifCond .ne (7), 3) := by decide +kernel
theorem d_M_say_164 : decode b_M_say 164 = .ok (.iload_n 1, 1) := by decide +kernel
theorem d_M_say_165 : decode b_M_say 165 = .ok (.goto (25), 3) := by decide +kernel
theorem d_M_say_168 : decode b_M_say 168 = .ok (.iload 8, 2) := by decide +kernel
theorem d_M_say_170 : decode b_M_say 170 = .ok (.iconst 1, 1) := by decide +kernel
theorem d_M_say_171 : decode b_M_say 171 = .ok (.if_icmp .ne (7), 3) := by decide +kernel
theorem d_M_say_174 : decode b_M_say 174 = .ok (.iload_n 2, 1) := by decide +kernel
theorem d_M_say_175 : decode b_M_say 175 = .ok (.goto (15), 3) := by decide +kernel
theorem d_M_say_178 : decode b_M_say 178 = .ok (.iload 8, 2) := by decide +kernel
theorem d_M_say_180 : decode b_M_say 180 = .ok (.iconst 2, 1) := by decide +kernel
theorem d_M_say_181 : decode b_M_say 181 = .ok (.if_icmp .ne (7), 3) := by decide +kernel
theorem d_M_say_184 : decode b_M_say 184 = .ok (.iload_n 3, 1) := by decide +kernel
theorem d_M_say_185 : decode b_M_say 185 = .ok (.goto (5), 3) := by decide +kernel
theorem d_M_say_188 : decode b_M_say 188 = .ok (.iload 4, 2) := by decide +kernel
theorem d_M_say_190 : decode b_M_say 190 = .ok (.i2b, 1) := by decide +kernel
theorem d_M_say_191 : decode b_M_say 191 = .ok (.bastore, 1) := by decide +kernel
theorem d_M_say_192 : decode b_M_say 192 = .ok (.aload_n 0, 1) := by decide +kernel
theorem d_M_say_193 : decode b_M_say 193 = .ok (.dup, 1) := by decide +kernel
theorem d_M_say_194 : decode b_M_say 194 = .ok (.getfield 104, 3) := by decide +kernel
theorem d_M_say_197 : decode b_M_say 197 = .ok (.iconst 1, 1) := by decide +kernel
theorem d_M_say_198 : decode b_M_say 198 = .ok (.iadd, 1) := by decide +kernel
theorem d_M_say_199 : decode b_M_say 199 = .ok (.putfield 104, 3) := by decide +kernel
theorem d_M_say_202 : decode b_M_say 202 = .ok (.iinc 8 (1), 3) := by decide +kernel
theorem d_M_say_205 : decode b_M_say 205 = .ok (.goto (-61), 3) := by decide +kernel
theorem d_M_say_208 : decode b_M_say 208 = .ok (.aload_n 0, 1) := by decide +kernel
theorem d_M_say_209 : decode b_M_say 209 = .ok (.getfield 25, 3) := by decide +kernel
theorem d_M_say_212 : decode b_M_say 212 = .ok (.iload 7, 2) := by decide +kernel
theorem d_M_say_214 : decode b_M_say 214 = .ok (.dup2, 1) := by decide +kernel
theorem d_M_say_215 : decode b_M_say 215 = .ok (.iaload, 1) := by decide +kernel
theorem d_M_say_216 : decode b_M_say 216 = .ok (.iload 5, 2) := by decide +kernel
theorem d_M_say_218 : decode b_M_say 218 = .ok (.iadd, 1) := by decide +kernel
theorem d_M_say_219 : decode b_M_say 219 = .ok (.iastore, 1) := by decide +kernel
theorem d_M_say_220 : decode b_M_say 220 = .ok (.iload 7, 2) := by decide +kernel
theorem d_M_say_222 : decode b_M_say 222 = .ok (.ireturn, 1) := by decide +kernel
theorem d_M_clear_0 : decode b_M_clear 0 = .ok (.aload_n 0, 1) := by decide +kernel
theorem d_M_clear_1 : decode b_M_clear 1 = .ok (.iconst 0, 1) := by decide +kernel
theorem d_M_clear_2 : decode b_M_clear 2 = .ok (.putfield 97, 3) := by decide +kernel
theorem d_M_clear_5 : decode b_M_clear 5 = .ok (.aload_n 0, 1) := by decide +kernel
theorem d_M_clear_6 : decode b_M_clear 6 = .ok (.invokevirtual 94, 3) := by decide +kernel
theorem d_M_clear_9 : decode b_M_clear 9 = .ok (.return_, 1) := by decide +kernel
theorem d_M_signLength_0 : decode b_M_signLength 0 = .ok (.iload_n 0, 1) := by decide +kernel
theorem d_M_signLength_1 : decode b_M_signLength 1 = .ok (.ifCond .ge (5), 3) := by decide +kernel
theorem d_M_signLength_4 : decode b_M_signLength 4 = .ok (.iconst 2, 1) := by decide +kernel
theorem d_M_signLength_5 : decode b_M_signLength 5 = .ok (.ireturn, 1) := by decide +kernel
theorem d_M_signLength_6 : decode b_M_signLength 6 = .ok (.iconst 3, 1) := by decide +kernel
theorem d_M_signLength_7 : decode b_M_signLength 7 = .ok (.istore_n 1, 1) := by decide +kernel
theorem d_M_signLength_8 : decode b_M_signLength 8 = .ok (.iload_n 0, 1) := by decide +kernel
theorem d_M_signLength_9 : decode b_M_signLength 9 = .ok (.istore_n 2, 1) := by decide +kernel
theorem d_M_signLength_10 : decode b_M_signLength 10 = .ok (.iload_n 2, 1) := by decide +kernel
theorem d_M_signLength_11 : decode b_M_signLength 11 = .ok (.bipush (9), 2) := by decide +kernel
theorem d_M_signLength_13 : decode b_M_signLength 13 = .ok (.if_icmp .le (14), 3) := by decide +kernel
theorem d_M_signLength_16 : decode b_M_signLength 16 = .ok (.iinc 1 (1), 3) := by decide +kernel
theorem d_M_signLength_19 : decode b_M_signLength 19 = .ok (.iload_n 2, 1) := by decide +kernel
theorem d_M_signLength_20 : decode b_M_signLength 20 = .ok (.bipush (10), 2) := by decide +kernel
theorem d_M_signLength_22 : decode b_M_signLength 22 = .ok (.idiv, 1) := by decide +kernel
theorem d_M_signLength_23 : decode b_M_signLength 23 = .ok (.istore_n 2, 1) := by decide +kernel
theorem d_M_signLength_24 : decode b_M_signLength 24 = .ok (.goto (-14), 3) := by decide +kernel
theorem d_M_signLength_27 : decode b_M_signLength 27 = .ok (.iload_n 1, 1) := by decide +kernel
theorem d_M_signLength_28 : decode b_M_signLength 28 = .ok (.ireturn, 1) := by decide +kernel
theorem d_M_show_0 : decode b_M_show 0 = .ok (.aload_n 0, 1) := by decide +kernel
theorem d_M_show_1 : decode b_M_show 1 = .ok (.getfield 91, 3) := by decide +kernel
end
section
theorem d_M_show_4 : decode b_M_show 4 = .ok (.aload_n 0, 1) := by decide +kernel
theorem d_M_show_5 : decode b_M_show 5 = .ok (.getfield 145, 3) := by decide +kernel
theorem d_M_show_8 : decode b_M_show 8 = .ok (.iload_n 1, 1) := by decide +kernel
theorem d_M_show_9 : decode b_M_show 9 = .ok (.iastore, 1) := by decide +kernel
theorem d_M_show_10 : decode b_M_show 10 = .ok (.aload_n 0, 1) := by decide +kernel
theorem d_M_show_11 : decode b_M_show 11 = .ok (.dup, 1) := by decide +kernel
theorem d_M_show_12 : decode b_M_show 12 = .ok (.getfield 145, 3) := by decide +kernel
theorem d_M_show_15 : decode b_M_show 15 = .ok (.iconst 1, 1) := by decide +kernel
theorem d_M_show_16 : decode b_M_show 16 = .ok (.iadd, 1) := by decide +kernel
theorem d_M_show_17 : decode b_M_show 17 = .ok (.putfield 145, 3) := by decide +kernel
theorem d_M_show_20 : decode b_M_show 20 = .ok (.return_, 1) := by decide +kernel
theorem d_M_showNumber_0 : decode b_M_showNumber 0 = .ok (.iconst 1, 1) := by decide +kernel
theorem d_M_showNumber_1 : decode b_M_showNumber 1 = .ok (.istore_n 2, 1) := by decide +kernel
theorem d_M_showNumber_2 : decode b_M_showNumber 2 = .ok (.iload_n 1, 1) := by decide +kernel
theorem d_M_showNumber_3 : decode b_M_showNumber 3 = .ok (.iload_n 2, 1) := by decide +kernel
theorem d_M_showNumber_4 : decode b_M_showNumber 4 = .ok (.idiv, 1) := by decide +kernel
theorem d_M_showNumber_5 : decode b_M_showNumber 5 = .ok (.bipush (9), 2) := by decide +kernel
theorem d_M_showNumber_7 : decode b_M_showNumber 7 = .ok (.if_icmp .le (11), 3) := by decide +kernel
theorem d_M_showNumber_10 : decode b_M_showNumber 10 = .ok (.iload_n 2, 1) := by decide +kernel
theorem d_M_showNumber_11 : decode b_M_showNumber 11 = .ok (.bipush (10), 2) := by decide +kernel
theorem d_M_showNumber_13 : decode b_M_showNumber 13 = .ok (.imul, 1) := by decide +kernel
theorem d_M_showNumber_14 : decode b_M_showNumber 14 = .ok (.istore_n 2, 1) := by decide +kernel
theorem d_M_showNumber_15 : decode b_M_showNumber 15 = .ok (.goto (-13), 3) := by decide +kernel
theorem d_M_showNumber_18 : decode b_M_showNumber 18 = .ok (.iload_n 2, 1) := by decide +kernel
theorem d_M_showNumber_19 : decode b_M_showNumber 19 = .ok (.ifCond .le (24), 3) := by decide +kernel
theorem d_M_showNumber_22 : decode b_M_showNumber 22 = .ok (.aload_n 0, 1) := by decide +kernel
theorem d_M_showNumber_23 : decode b_M_showNumber 23 = .ok (.bipush (48), 2) := by decide +kernel
theorem d_M_showNumber_25 : decode b_M_showNumber 25 = .ok (.iload_n 1, 1) := by decide +kernel
theorem d_M_showNumber_26 : decode b_M_showNumber 26 = .ok (.iload_n 2, 1) := by decide +kernel
theorem d_M_showNumber_27 : decode b_M_showNumber 27 = .ok (.idiv, 1) := by decide +kernel
theorem d_M_showNumber_28 : decode b_M_showNumber 28 = .ok (.bipush (10), 2) := by decide +kernel
theorem d_M_showNumber_30 : decode b_M_showNumber 30 = .ok (.irem, 1) := by decide +kernel
theorem d_M_showNumber_31 : decode b_M_showNumber 31 = .ok (.iadd, 1) := by decide +kernel
theorem d_M_showNumber_32 : decode b_M_showNumber 32 = .ok (.invokevirtual 148, 3) := by decide +kernel
theorem d_M_showNumber_35 : decode b_M_showNumber 35 = .ok (.iload_n 2, 1) := by decide +kernel
theorem d_M_showNumber_36 : decode b_M_showNumber 36 = .ok (.bipush (10), 2) := by decide +kernel
theorem d_M_showNumber_38 : decode b_M_showNumber 38 = .ok (.idiv, 1) := by decide +kernel
theorem d_M_showNumber_39 : decode b_M_showNumber 39 = .ok (.istore_n 2, 1) := by decide +kernel
theorem d_M_showNumber_40 : decode b_M_showNumber 40 = .ok (.goto (-22), 3) := by decide +kernel
theorem d_M_showNumber_43 : decode b_M_showNumber 43 = .ok (.return_, 1) := by decide +kernel
theorem d_M_showHolders_0 : decode b_M_showHolders 0 = .ok (.aload_n 0, 1) := by decide +kernel
theorem d_M_showHolders_1 : decode b_M_showHolders 1 = .ok (.iconst 0, 1) := by decide +kernel
theorem d_M_showHolders_2 : decode b_M_showHolders 2 = .ok (.putfield 145, 3) := by decide +kernel
theorem d_M_showHolders_5 : decode b_M_showHolders 5 = .ok (.iconst 0, 1) := by decide +kernel
theorem d_M_showHolders_6 : decode b_M_showHolders 6 = .ok (.istore_n 2, 1) := by decide +kernel
theorem d_M_showHolders_7 : decode b_M_showHolders 7 = .ok (.iload_n 2, 1) := by decide +kernel
theorem d_M_showHolders_8 : decode b_M_showHolders 8 = .ok (.iload_n 1, 1) := by decide +kernel
theorem d_M_showHolders_9 : decode b_M_showHolders 9 = .ok (.if_icmp .ge (151), 3) := by decide +kernel
theorem d_M_showHolders_12 : decode b_M_showHolders 12 = .ok (.aload_n 0, 1) := by decide +kernel
theorem d_M_showHolders_13 : decode b_M_showHolders 13 = .ok (.getfield 61, 3) := by decide +kernel
theorem d_M_showHolders_16 : decode b_M_showHolders 16 = .ok (.iload_n 2, 1) := by decide +kernel
theorem d_M_showHolders_17 : decode b_M_showHolders 17 = .ok (.iaload, 1) := by decide +kernel
theorem d_M_showHolders_18 : decode b_M_showHolders 18 = .ok (.iconst 4, 1) := by decide +kernel
theorem d_M_showHolders_19 : decode b_M_showHolders 19 = .ok (.if_icmp .ne (18), 3) := by decide +kernel
theorem d_M_showHolders_22 : decode b_M_showHolders 22 = .ok (.aload_n 0, 1) := by decide +kernel
theorem d_M_showHolders_23 : decode b_M_showHolders 23 = .ok (.bipush (62), 2) := by decide +kernel
theorem d_M_showHolders_25 : decode b_M_showHolders 25 = .ok (.invokevirtual 148, 3) := by decide +kernel
theorem d_M_showHolders_28 : decode b_M_showHolders 28 = .ok (.aload_n 0, 1) := by decide +kernel
theorem d_M_showHolders_29 : decode b_M_showHolders 29 = .ok (.bipush (32), 2) := by decide +kernel
theorem d_M_showHolders_31 : decode b_M_showHolders 31 = .ok (.invokevirtual 148, 3) := by decide +kernel
theorem d_M_showHolders_34 : decode b_M_showHolders 34 = .ok (.goto (120), 3) := by decide +kernel
theorem d_M_showHolders_37 : decode b_M_showHolders 37 = .ok (.aload_n 0, 1) := by decide +kernel
theorem d_M_showHolders_38 : decode b_M_showHolders 38 = .ok (.getfield 61, 3) := by decide +kernel
theorem d_M_showHolders_41 : decode b_M_showHolders 41 = .ok (.iload_n 2, 1) := by decide +kernel
theorem d_M_showHolders_42 : decode b_M_showHolders 42 = .ok (.iaload, 1) := by decide +kernel
theorem d_M_showHolders_43 : decode b_M_showHolders 43 = .ok (.bipush (7), 2) := by decide +kernel
theorem d_M_showHolders_45 : decode b_M_showHolders 45 = .ok (.if_icmp .ne (71), 3) := by decide +kernel
theorem d_M_showHolders_48 : decode b_M_showHolders 48 = .ok (.aload_n 0, 1) := by decide +kernel
theorem d_M_showHolders_49 : decode b_M_showHolders 49 = .ok (.getfield 73, 3) := by decide +kernel
theorem d_M_showHolders_52 : decode b_M_showHolders 52 = .ok (.iload_n 2, 1) := by decide +kernel
theorem d_M_showHolders_53 : decode b_M_showHolders 53 = .ok (.baload, 1) := by decide +kernel
theorem d_M_showHolders_54 : decode b_M_showHolders 54 = .ok (.ifCond .eq (62), 3) := by decide +kernel
theorem d_M_showHolders_57 : decode b_M_showHolders 57 = .ok (.aload_n 0, 1) := by decide +kernel
theorem d_M_showHolders_58 : decode b_M_showHolders 58 = .ok (.getfield 67, 3) := by decide +kernel
theorem d_M_showHolders_61 : decode b_M_showHolders 61 = .ok (.iload_n 2, 1) := by decide +kernel
theorem d_M_showHolders_62 : decode b_M_showHolders 62 = .ok (.iaload, 1) := by decide +kernel
theorem d_M_showHolders_63 : decode b_M_showHolders 63 = .ok (.ifCond .ge (12), 3) := by decide +kernel
theorem d_M_showHolders_66 : decode b_M_showHolders 66 = .ok (.aload_n 0, 1) := by decide +kernel
theorem d_M_showHolders_67 : decode b_M_showHolders 67 = .ok (.bipush (42), 2) := by decide +kernel
theorem d_M_showHolders_69 : decode b_M_showHolders 69 = .ok (.invokevirtual 148, 3) := by decide +kernel
theorem d_M_showHolders_72 : decode b_M_showHolders 72 = .ok (.goto (13), 3) := by decide +kernel
theorem d_M_showHolders_75 : decode b_M_showHolders 75 = .ok (.aload_n 0, 1) := by decide +kernel
theorem d_M_showHolders_76 : decode b_M_showHolders 76 = .ok (.aload_n 0, 1) := by decide +kernel
theorem d_M_showHolders_77 : decode b_M_showHolders 77 = .ok (.getfield 67, 3) := by decide +kernel
theorem d_M_showHolders_80 : decode b_M_showHolders 80 = .ok (.iload_n 2, 1) := by decide +kernel
theorem d_M_showHolders_81 : decode b_M_showHolders 81 = .ok (.iaload, 1) := by decide +kernel
theorem d_M_showHolders_82 : decode b_M_showHolders 82 = .ok (.invokevirtual 152, 3) := by decide +kernel
theorem d_M_showHolders_85 : decode b_M_showHolders 85 = .ok (.aload_n 0, 1) := by decide +kernel
theorem d_M_showHolders_86 : decode b_M_showHolders 86 = .ok (.getfield 67, 3) := by decide +kernel
theorem d_M_showHolders_89 : decode b_M_showHolders 89 = .ok (.iload_n 2, 1) := by decide +kernel
theorem d_M_showHolders_90 : decode b_M_showHolders 90 = .ok (.iaload, 1) := by decide +kernel
theorem d_M_showHolders_91 : decode b_M_showHolders 91 = .ok (.ifCond .lt (9), 3) := by decide +kernel
theorem d_M_showHolders_94 : decode b_M_showHolders 94 = .ok (.aload_n 0, 1) := by decide +kernel
theorem d_M_showHolders_95 : decode b_M_showHolders 95 = .ok (.bipush (46), 2) := by decide +kernel
theorem d_M_showHolders_97 : decode b_M_showHolders 97 = .ok (.invokevirtual 148, 3) := by decide +kernel
theorem d_M_showHolders_100 : decode b_M_showHolders 100 = .ok (.aload_n 0, 1) := by decide +kernel
theorem d_M_showHolders_101 : decode b_M_showHolders 101 = .ok (.bipush (32), 2) := by decide +kernel
theorem d_M_showHolders_103 : decode b_M_showHolders 103 = .ok (.invokevirtual 148, 3) := by decide +kernel
theorem d_M_showHolders_106 : decode b_M_showHolders 106 = .ok (.aload_n 0, 1) := by decide +kernel
theorem d_M_showHolders_107 : decode b_M_showHolders 107 = .ok (.getfield 73, 3) := by decide +kernel
theorem d_M_showHolders_110 : decode b_M_showHolders 110 = .ok (.iload_n 2, 1) := by decide +kernel
theorem d_M_showHolders_111 : decode b_M_showHolders 111 = .ok (.iconst 0, 1) := by decide +kernel
theorem d_M_showHolders_112 : decode b_M_showHolders 112 = .ok (.bastore, 1) := by decide +kernel
theorem d_M_showHolders_113 : decode b_M_showHolders 113 = .ok (.goto (41), 3) := by decide +kernel
theorem d_M_showHolders_116 : decode b_M_showHolders 116 = .ok (.aload_n 0, 1) := by decide +kernel
theorem d_M_showHolders_117 : decode b_M_showHolders 117 = .ok (.getfield 61, 3) := by decide +kernel
theorem d_M_showHolders_120 : decode b_M_showHolders 120 = .ok (.iload_n 2, 1) := by decide +kernel
theorem d_M_showHolders_121 : decode b_M_showHolders 121 = .ok (.iaload, 1) := by decide +kernel
theorem d_M_showHolders_122 : decode b_M_showHolders 122 = .ok (.bipush (7), 2) := by decide +kernel
theorem d_M_showHolders_124 : decode b_M_showHolders 124 = .ok (.if_icmp .ne (30), 3) := by decide +kernel
theorem d_M_showHolders_127 : decode b_M_showHolders 127 = .ok (.iconst 0, 1) := by decide +kernel
theorem d_M_showHolders_128 : decode b_M_showHolders 128 = .ok (.istore_n 3, 1) := by decide +kernel
theorem d_M_showHolders_129 : decode b_M_showHolders 129 = .ok (.iload_n 3, 1) := by decide +kernel
theorem d_M_showHolders_130 : decode b_M_showHolders 130 = .ok (.aload_n 0, 1) := by decide +kernel
theorem d_M_showHolders_131 : decode b_M_showHolders 131 = .ok (.getfield 67, 3) := by decide +kernel
theorem d_M_showHolders_134 : decode b_M_showHolders 134 = .ok (.iload_n 2, 1) := by decide +kernel
theorem d_M_showHolders_135 : decode b_M_showHolders 135 = .ok (.iaload, 1) := by decide +kernel
theorem d_M_showHolders_136 : decode b_M_showHolders 136 = .ok (.invokestatic 155, 3) := by decide +kernel
theorem d_M_showHolders_139 : decode b_M_showHolders 139 = .ok (.if_icmp .ge (15), 3) := by decide +kernel
theorem d_M_showHolders_142 : decode b_M_showHolders 142 = .ok (.aload_n 0, 1) := by decide +kernel
theorem d_M_showHolders_143 : decode b_M_showHolders 143 = .ok (.bipush (32), 2) := by decide +kernel
theorem d_M_showHolders_145 : decode b_M_showHolders 145 = .ok (.invokevirtual 148, 3) := by decide +kernel
theorem d_M_showHolders_148 : decode b_M_showHolders 148 = .ok (.iinc 3 (1), 3) := by decide +kernel
theorem d_M_showHolders_151 : decode b_M_showHolders 151 = .ok (.goto (-22), 3) := by decide +kernel
theorem d_M_showHolders_154 : decode b_M_showHolders 154 = .ok (.iinc 2 (1), 3) := by decide +kernel
theorem d_M_showHolders_157 : decode b_M_showHolders 157 = .ok (.goto (-150), 3) := by decide +kernel
theorem d_M_showHolders_160 : decode b_M_showHolders 160 = .ok (.return_, 1) := by decide +kernel
theorem d_M_endLine_0 : decode b_M_endLine 0 = .ok (.aload_n 0, 1) := by decide +kernel
theorem d_M_endLine_1 : decode b_M_endLine 1 = .ok (.getfield 145, 3) := by decide +kernel
theorem d_M_endLine_4 : decode b_M_endLine 4 = .ok (.ifCond .le (32), 3) := by decide +kernel
theorem d_M_endLine_7 : decode b_M_endLine 7 = .ok (.aload_n 0, 1) := by decide +kernel
theorem d_M_endLine_8 : decode b_M_endLine 8 = .ok (.getfield 91, 3) := by decide +kernel
theorem d_M_endLine_11 : decode b_M_endLine 11 = .ok (.aload_n 0, 1) := by decide +kernel
theorem d_M_endLine_12 : decode b_M_endLine 12 = .ok (.getfield 145, 3) := by decide +kernel
theorem d_M_endLine_15 : decode b_M_endLine 15 = .ok (.iconst 1, 1) := by decide +kernel
theorem d_M_endLine_16 : decode b_M_endLine 16 = .ok (.isub, 1) := by decide +kernel
theorem d_M_endLine_17 : decode b_M_endLine 17 = .ok (.iaload, 1) := by decide +kernel
theorem d_M_endLine_18 : decode b_M_endLine 18 = .ok (.bipush (32), 2) := by decide +kernel
theorem d_M_endLine_20 : decode b_M_endLine 20 = .ok (.if_icmp .ne (16), 3) := by decide +kernel
theorem d_M_endLine_23 : decode b_M_endLine 23 = .ok (.aload_n 0, 1) := by decide +kernel
theorem d_M_endLine_24 : decode b_M_endLine 24 = .ok (.dup, 1) := by decide +kernel
theorem d_M_endLine_25 : decode b_M_endLine 25 = .ok (.getfield 145, 3) := by decide +kernel
theorem d_M_endLine_28 : decode b_M_endLine 28 = .ok (.iconst 1, 1) := by decide +kernel
theorem d_M_endLine_29 : decode b_M_endLine 29 = .ok (.isub, 1) := by decide +kernel
theorem d_M_endLine_30 : decode b_M_endLine 30 = .ok (.putfield 145, 3) := by decide +kernel
theorem d_M_endLine_33 : decode b_M_endLine 33 = .ok (.goto (-33), 3) := by decide +kernel
theorem d_M_endLine_36 : decode b_M_endLine 36 = .ok (.aload_n 0, 1) := by decide +kernel
theorem d_M_endLine_37 : decode b_M_endLine 37 = .ok (.getfield 159, 3) := by decide +kernel
theorem d_M_endLine_40 : decode b_M_endLine 40 = .ok (.istore_n 2, 1) := by decide +kernel
theorem d_M_endLine_41 : decode b_M_endLine 41 = .ok (.aload_n 0, 1) := by decide +kernel
theorem d_M_endLine_42 : decode b_M_endLine 42 = .ok (.dup, 1) := by decide +kernel
theorem d_M_endLine_43 : decode b_M_endLine 43 = .ok (.getfield 159, 3) := by decide +kernel
theorem d_M_endLine_46 : decode b_M_endLine 46 = .ok (.iconst 1, 1) := by decide +kernel
theorem d_M_endLine_47 : decode b_M_endLine 47 = .ok (.iadd, 1) := by decide +kernel
theorem d_M_endLine_48 : decode b_M_endLine 48 = .ok (.putfield 159, 3) := by decide +kernel
theorem d_M_endLine_51 : decode b_M_endLine 51 = .ok (.aload_n 0, 1) := by decide +kernel
theorem d_M_endLine_52 : decode b_M_endLine 52 = .ok (.getfield 162, 3) := by decide +kernel
theorem d_M_endLine_55 : decode b_M_endLine 55 = .ok (.ifCond .eq (4), 3) := by decide +kernel
theorem d_M_endLine_58 : decode b_M_endLine 58 = .ok (.return_, 1) := by decide +kernel
theorem d_M_endLine_59 : decode b_M_endLine 59 = .ok (.aload_n 0, 1) := by decide +kernel
theorem d_M_endLine_60 : decode b_M_endLine 60 = .ok (.getfield 35, 3) := by decide +kernel
theorem d_M_endLine_63 : decode b_M_endLine 63 = .ok (.iload_n 2, 1) := by decide +kernel
theorem d_M_endLine_64 : decode b_M_endLine 64 = .ok (.aload_n 0, 1) := by decide +kernel
theorem d_M_endLine_65 : decode b_M_endLine 65 = .ok (.getfield 145, 3) := by decide +kernel
theorem d_M_endLine_68 : decode b_M_endLine 68 = .ok (.iastore, 1) := by decide +kernel
theorem d_M_endLine_69 : decode b_M_endLine 69 = .ok (.aload_n 0, 1) := by decide +kernel
theorem d_M_endLine_70 : decode b_M_endLine 70 = .ok (.getfield 38, 3) := by decide +kernel
theorem d_M_endLine_73 : decode b_M_endLine 73 = .ok (.iload_n 2, 1) := by decide +kernel
theorem d_M_endLine_74 : decode b_M_endLine 74 = .ok (.iconst 0, 1) := by decide +kernel
theorem d_M_endLine_75 : decode b_M_endLine 75 = .ok (.iastore, 1) := by decide +kernel
theorem d_M_endLine_76 : decode b_M_endLine 76 = .ok (.aload_n 0, 1) := by decide +kernel
theorem d_M_endLine_77 : decode b_M_endLine 77 = .ok (.getfield 47, 3) := by decide +kernel
theorem d_M_endLine_80 : decode b_M_endLine 80 = .ok (.iload_n 2, 1) := by decide +kernel
theorem d_M_endLine_81 : decode b_M_endLine 81 = .ok (.iload_n 1, 1) := by decide +kernel
theorem d_M_endLine_82 : decode b_M_endLine 82 = .ok (.bastore, 1) := by decide +kernel
theorem d_M_endLine_83 : decode b_M_endLine 83 = .ok (.iconst 0, 1) := by decide +kernel
theorem d_M_endLine_84 : decode b_M_endLine 84 = .ok (.istore_n 3, 1) := by decide +kernel
theorem d_M_endLine_85 : decode b_M_endLine 85 = .ok (.iload_n 3, 1) := by decide +kernel
theorem d_M_endLine_86 : decode b_M_endLine 86 = .ok (.bipush (60), 2) := by decide +kernel
theorem d_M_endLine_88 : decode b_M_endLine 88 = .ok (.if_icmp .ge (40), 3) := by decide +kernel
theorem d_M_endLine_91 : decode b_M_endLine 91 = .ok (.aload_n 0, 1) := by decide +kernel
theorem d_M_endLine_92 : decode b_M_endLine 92 = .ok (.getfield 52, 3) := by decide +kernel
theorem d_M_endLine_95 : decode b_M_endLine 95 = .ok (.bipush (60), 2) := by decide +kernel
theorem d_M_endLine_97 : decode b_M_endLine 97 = .ok (.iload_n 2, 1) := by decide +kernel
theorem d_M_endLine_98 : decode b_M_endLine 98 = .ok (.imul, 1) := by decide +kernel
theorem d_M_endLine_99 : decode b_M_endLine 99 = .ok (.iload_n 3, 1) := by decide +kernel
theorem d_M_endLine_100 : decode b_M_endLine 100 = .ok (.iadd, 1) := by decide +kernel
theorem d_M_endLine_101 : decode b_M_endLine 101 = .ok (.iload_n 3, 1) := by decide +kernel
theorem d_M_endLine_102 : decode b_M_endLine 102 = .ok (.aload_n 0, 1) := by decide +kernel
theorem d_M_endLine_103 : decode b_M_endLine 103 = .ok (.getfield 145, 3) := by decide +kernel
theorem d_M_endLine_106 : decode b_M_endLine 106 = .ok (.if_icmp .ge (12), 3) := by decide +kernel
theorem d_M_endLine_109 : decode b_M_endLine 109 = .ok (.aload_n 0, 1) := by decide +kernel
theorem d_M_endLine_110 : decode b_M_endLine 110 = .ok (.getfield 91, 3) := by decide +kernel
theorem d_M_endLine_113 : decode b_M_endLine 113 = .ok (.iload_n 3, 1) := by decide +kernel
theorem d_M_endLine_114 : decode b_M_endLine 114 = .ok (.iaload, 1) := by decide +kernel
theorem d_M_endLine_115 : decode b_M_endLine 115 = .ok (.goto (5), 3) := by decide +kernel
theorem d_M_endLine_118 : decode b_M_endLine 118 = .ok (.bipush (32), 2) := by decide +kernel
theorem d_M_endLine_120 : decode b_M_endLine 120 = .ok (.i2b, 1) := by decide +kernel
theorem d_M_endLine_121 : decode b_M_endLine 121 = .ok (.bastore, 1) := by decide +kernel
theorem d_M_endLine_122 : decode b_M_endLine 122 = .ok (.iinc 3 (1), 3) := by decide +kernel
theorem d_M_endLine_125 : decode b_M_endLine 125 = .ok (.goto (-40), 3) := by decide +kernel
theorem d_M_endLine_128 : decode b_M_endLine 128 = .ok (.return_, 1) := by decide +kernel
theorem d_M_giveLine_0 : decode b_M_giveLine 0 = .ok (.iconst 0, 1) := by decide +kernel
theorem d_M_giveLine_1 : decode b_M_giveLine 1 = .ok (.istore 4, 2) := by decide +kernel
theorem d_M_giveLine_3 : decode b_M_giveLine 3 = .ok (.iload 4, 2) := by decide +kernel
theorem d_M_giveLine_5 : decode b_M_giveLine 5 = .ok (.aload_n 0, 1) := by decide +kernel
theorem d_M_giveLine_6 : decode b_M_giveLine 6 = .ok (.getfield 166, 3) := by decide +kernel
theorem d_M_giveLine_9 : decode b_M_giveLine 9 = .ok (.if_icmp .ge (71), 3) := by decide +kernel
theorem d_M_giveLine_12 : decode b_M_giveLine 12 = .ok (.aload_n 0, 1) := by decide +kernel
theorem d_M_giveLine_13 : decode b_M_giveLine 13 = .ok (.getfield 82, 3) := by decide +kernel
theorem d_M_giveLine_16 : decode b_M_giveLine 16 = .ok (.iload 4, 2) := by decide +kernel
theorem d_M_giveLine_18 : decode b_M_giveLine 18 = .ok (.baload, 1) := by decide +kernel
theorem d_M_giveLine_19 : decode b_M_giveLine 19 = .ok (.ifCond .ne (6), 3) := by decide +kernel
theorem d_M_giveLine_22 : decode b_M_giveLine 22 = .ok (.goto (52), 3) := by decide +kernel
theorem d_M_giveLine_25 : decode b_M_giveLine 25 = .ok (.aload_n 0, 1) := by decide +kernel
theorem d_M_giveLine_26 : decode b_M_giveLine 26 = .ok (.getfield 79, 3) := by decide +kernel
theorem d_M_giveLine_29 : decode b_M_giveLine 29 = .ok (.iload 4, 2) := by decide +kernel
theorem d_M_giveLine_31 : decode b_M_giveLine 31 = .ok (.baload, 1) := by decide +kernel
theorem d_M_giveLine_32 : decode b_M_giveLine 32 = .ok (.ifCond .eq (26), 3) := by decide +kernel
theorem d_M_giveLine_35 : decode b_M_giveLine 35 = .ok (.aload_n 0, 1) := by decide +kernel
theorem d_M_giveLine_36 : decode b_M_giveLine 36 = .ok (.getfield 76, 3) := by decide +kernel
theorem d_M_giveLine_39 : decode b_M_giveLine 39 = .ok (.iload 4, 2) := by decide +kernel
theorem d_M_giveLine_41 : decode b_M_giveLine 41 = .ok (.baload, 1) := by decide +kernel
theorem d_M_giveLine_42 : decode b_M_giveLine 42 = .ok (.ifCond .eq (16), 3) := by decide +kernel
theorem d_M_giveLine_45 : decode b_M_giveLine 45 = .ok (.aload_n 0, 1) := by decide +kernel
theorem d_M_giveLine_46 : decode b_M_giveLine 46 = .ok (.iload 4, 2) := by decide +kernel
theorem d_M_giveLine_48 : decode b_M_giveLine 48 = .ok (.iconst 1, 1) := by decide +kernel
theorem d_M_giveLine_49 : decode b_M_giveLine 49 = .ok (.iadd, 1) := by decide +kernel
theorem d_M_giveLine_50 : decode b_M_giveLine 50 = .ok (.invokevirtual 169, 3) := by decide +kernel
theorem d_M_giveLine_53 : decode b_M_giveLine 53 = .ok (.aload_n 0, 1) := by decide +kernel
theorem d_M_giveLine_54 : decode b_M_giveLine 54 = .ok (.iconst 1, 1) := by decide +kernel
theorem d_M_giveLine_55 : decode b_M_giveLine 55 = .ok (.invokevirtual 172, 3) := by decide +kernel
theorem d_M_giveLine_58 : decode b_M_giveLine 58 = .ok (.aload_n 0, 1) := by decide +kernel
theorem d_M_giveLine_59 : decode b_M_giveLine 59 = .ok (.getfield 82, 3) := by decide +kernel
theorem d_M_giveLine_62 : decode b_M_giveLine 62 = .ok (.iload 4, 2) := by decide +kernel
theorem d_M_giveLine_64 : decode b_M_giveLine 64 = .ok (.iconst 0, 1) := by decide +kernel
theorem d_M_giveLine_65 : decode b_M_giveLine 65 = .ok (.bastore, 1) := by decide +kernel
theorem d_M_giveLine_66 : decode b_M_giveLine 66 = .ok (.aload_n 0, 1) := by decide +kernel
theorem d_M_giveLine_67 : decode b_M_giveLine 67 = .ok (.getfield 79, 3) := by decide +kernel
theorem d_M_giveLine_70 : decode b_M_giveLine 70 = .ok (.iload 4, 2) := by decide +kernel
theorem d_M_giveLine_72 : decode b_M_giveLine 72 = .ok (.iconst 1, 1) := by decide +kernel
theorem d_M_giveLine_73 : decode b_M_giveLine 73 = .ok (.bastore, 1) := by decide +kernel
theorem d_M_giveLine_74 : decode b_M_giveLine 74 = .ok (.iinc 4 (1), 3) := by decide +kernel
theorem d_M_giveLine_77 : decode b_M_giveLine 77 = .ok (.goto (-74), 3) := by decide +kernel
theorem d_M_giveLine_80 : decode b_M_giveLine 80 = .ok (.aload_n 0, 1) := by decide +kernel
theorem d_M_giveLine_81 : decode b_M_giveLine 81 = .ok (.getfield 176, 3) := by decide +kernel
theorem d_M_giveLine_84 : decode b_M_giveLine 84 = .ok (.ifCond .ge (11), 3) := by decide +kernel
theorem d_M_giveLine_87 : decode b_M_giveLine 87 = .ok (.aload_n 0, 1) := by decide +kernel
theorem d_M_giveLine_88 : decode b_M_giveLine 88 = .ok (.aload_n 0, 1) := by decide +kernel
theorem d_M_giveLine_89 : decode b_M_giveLine 89 = .ok (.getfield 159, 3) := by decide +kernel
theorem d_M_giveLine_92 : decode b_M_giveLine 92 = .ok (.putfield 176, 3) := by decide +kernel
theorem d_M_giveLine_95 : decode b_M_giveLine 95 = .ok (.aload_n 0, 1) := by decide +kernel
theorem d_M_giveLine_96 : decode b_M_giveLine 96 = .ok (.aload_n 0, 1) := by decide +kernel
theorem d_M_giveLine_97 : decode b_M_giveLine 97 = .ok (.getfield 166, 3) := by decide +kernel
theorem d_M_giveLine_100 : decode b_M_giveLine 100 = .ok (.invokevirtual 169, 3) := by decide +kernel
theorem d_M_giveLine_103 : decode b_M_giveLine 103 = .ok (.iconst 0, 1) := by decide +kernel
theorem d_M_giveLine_104 : decode b_M_giveLine 104 = .ok (.istore 4, 2) := by decide +kernel
theorem d_M_giveLine_106 : decode b_M_giveLine 106 = .ok (.iload 4, 2) := by decide +kernel
theorem d_M_giveLine_108 : decode b_M_giveLine 108 = .ok (.iload_n 3, 1) := by decide +kernel
theorem d_M_giveLine_109 : decode b_M_giveLine 109 = .ok (.if_icmp .ge (19), 3) := by decide +kernel
theorem d_M_giveLine_112 : decode b_M_giveLine 112 = .ok (.aload_n 0, 1) := by decide +kernel
theorem d_M_giveLine_113 : decode b_M_giveLine 113 = .ok (.aload_n 1, 1) := by decide +kernel
theorem d_M_giveLine_114 : decode b_M_giveLine 114 = .ok (.iload_n 2, 1) := by decide +kernel
theorem d_M_giveLine_115 : decode b_M_giveLine 115 = .ok (.iload 4, 2) := by decide +kernel
theorem d_M_giveLine_117 : decode b_M_giveLine 117 = .ok (.iadd, 1) := by decide +kernel
theorem d_M_giveLine_118 : decode b_M_giveLine 118 = .ok (.iaload, 1) := by decide +kernel
theorem d_M_giveLine_119 : decode b_M_giveLine 119 = .ok (.invokevirtual 148, 3) := by decide +kernel
theorem d_M_giveLine_122 : decode b_M_giveLine 122 = .ok (.iinc 4 (1), 3) := by decide +kernel
theorem d_M_giveLine_125 : decode b_M_giveLine 125 = .ok (.goto (-19), 3) := by decide +kernel
theorem d_M_giveLine_128 : decode b_M_giveLine 128 = .ok (.aload_n 0, 1) := by decide +kernel
theorem d_M_giveLine_129 : decode b_M_giveLine 129 = .ok (.iconst 0, 1) := by decide +kernel
theorem d_M_giveLine_130 : decode b_M_giveLine 130 = .ok (.invokevirtual 172, 3) := by decide +kernel
theorem d_M_giveLine_133 : decode b_M_giveLine 133 = .ok (.return_, 1) := by decide +kernel
theorem d_M_giveNow_0 : decode b_M_giveNow 0 = .ok (.aload_n 0, 1) := by decide +kernel
theorem d_M_giveNow_1 : decode b_M_giveNow 1 = .ok (.aload_n 0, 1) := by decide +kernel
theorem d_M_giveNow_2 : decode b_M_giveNow 2 = .ok (.getfield 88, 3) := by decide +kernel
theorem d_M_giveNow_5 : decode b_M_giveNow 5 = .ok (.iconst 0, 1) := by decide +kernel
theorem d_M_giveNow_6 : decode b_M_giveNow 6 = .ok (.aload_n 0, 1) := by decide +kernel
theorem d_M_giveNow_7 : decode b_M_giveNow 7 = .ok (.getfield 179, 3) := by decide +kernel
theorem d_M_giveNow_10 : decode b_M_giveNow 10 = .ok (.invokevirtual 182, 3) := by decide +kernel
theorem d_M_giveNow_13 : decode b_M_giveNow 13 = .ok (.aload_n 0, 1) := by decide +kernel
theorem d_M_giveNow_14 : decode b_M_giveNow 14 = .ok (.iconst 0, 1) := by decide +kernel
theorem d_M_giveNow_15 : decode b_M_giveNow 15 = .ok (.putfield 179, 3) := by decide +kernel
theorem d_M_giveNow_18 : decode b_M_giveNow 18 = .ok (.return_, 1) := by decide +kernel
theorem d_M_endWord_0 : decode b_M_endWord 0 = .ok (.aload_n 0, 1) := by decide +kernel
theorem d_M_endWord_1 : decode b_M_endWord 1 = .ok (.getfield 186, 3) := by decide +kernel
theorem d_M_endWord_4 : decode b_M_endWord 4 = .ok (.ifCond .ne (4), 3) := by decide +kernel
theorem d_M_endWord_7 : decode b_M_endWord 7 = .ok (.return_, 1) := by decide +kernel
theorem d_M_endWord_8 : decode b_M_endWord 8 = .ok (.iconst 0, 1) := by decide +kernel
theorem d_M_endWord_9 : decode b_M_endWord 9 = .ok (.istore_n 1, 1) := by decide +kernel
theorem d_M_endWord_10 : decode b_M_endWord 10 = .ok (.aload_n 0, 1) := by decide +kernel
theorem d_M_endWord_11 : decode b_M_endWord 11 = .ok (.getfield 179, 3) := by decide +kernel
theorem d_M_endWord_14 : decode b_M_endWord 14 = .ok (.ifCond .le (45), 3) := by decide +kernel
theorem d_M_endWord_17 : decode b_M_endWord 17 = .ok (.aload_n 0, 1) := by decide +kernel
theorem d_M_endWord_18 : decode b_M_endWord 18 = .ok (.getfield 179, 3) := by decide +kernel
theorem d_M_endWord_21 : decode b_M_endWord 21 = .ok (.iconst 1, 1) := by decide +kernel
theorem d_M_endWord_22 : decode b_M_endWord 22 = .ok (.iadd, 1) := by decide +kernel
theorem d_M_endWord_23 : decode b_M_endWord 23 = .ok (.aload_n 0, 1) := by decide +kernel
theorem d_M_endWord_24 : decode b_M_endWord 24 = .ok (.getfield 186, 3) := by decide +kernel
theorem d_M_endWord_27 : decode b_M_endWord 27 = .ok (.iadd, 1) := by decide +kernel
theorem d_M_endWord_28 : decode b_M_endWord 28 = .ok (.aload_n 0, 1) := by decide +kernel
theorem d_M_endWord_29 : decode b_M_endWord 29 = .ok (.getfield 189, 3) := by decide +kernel
theorem d_M_endWord_32 : decode b_M_endWord 32 = .ok (.if_icmp .gt (27), 3) := by decide +kernel
theorem d_M_endWord_35 : decode b_M_endWord 35 = .ok (.aload_n 0, 1) := by decide +kernel
theorem d_M_endWord_36 : decode b_M_endWord 36 = .ok (.getfield 88, 3) := by decide +kernel
theorem d_M_endWord_39 : decode b_M_endWord 39 = .ok (.aload_n 0, 1) := by decide +kernel
theorem d_M_endWord_40 : decode b_M_endWord 40 = .ok (.getfield 179, 3) := by decide +kernel
theorem d_M_endWord_43 : decode b_M_endWord 43 = .ok (.bipush (32), 2) := by decide +kernel
theorem d_M_endWord_45 : decode b_M_endWord 45 = .ok (.iastore, 1) := by decide +kernel
theorem d_M_endWord_46 : decode b_M_endWord 46 = .ok (.aload_n 0, 1) := by decide +kernel
theorem d_M_endWord_47 : decode b_M_endWord 47 = .ok (.dup, 1) := by decide +kernel
theorem d_M_endWord_48 : decode b_M_endWord 48 = .ok (.getfield 179, 3) := by decide +kernel
theorem d_M_endWord_51 : decode b_M_endWord 51 = .ok (.iconst 1, 1) := by decide +kernel
theorem d_M_endWord_52 : decode b_M_endWord 52 = .ok (.iadd, 1) := by decide +kernel
theorem d_M_endWord_53 : decode b_M_endWord 53 = .ok (.putfield 179, 3) := by decide +kernel
theorem d_M_endWord_56 : decode b_M_endWord 56 = .ok (.goto (50), 3) := by decide +kernel
theorem d_M_endWord_59 : decode b_M_endWord 59 = .ok (.aload_n 0, 1) := by decide +kernel
theorem d_M_endWord_60 : decode b_M_endWord 60 = .ok (.getfield 179, 3) := by decide +kernel
theorem d_M_endWord_63 : decode b_M_endWord 63 = .ok (.ifCond .le (7), 3) := by decide +kernel
theorem d_M_endWord_66 : decode b_M_endWord 66 = .ok (.aload_n 0, 1) := by decide +kernel
theorem d_M_endWord_67 : decode b_M_endWord 67 = .ok (.invokevirtual 192, 3) := by decide +kernel
theorem d_M_endWord_70 : decode b_M_endWord 70 = .ok (.aload_n 0, 1) := by decide +kernel
theorem d_M_endWord_71 : decode b_M_endWord 71 = .ok (.getfield 186, 3) := by decide +kernel
theorem d_M_endWord_74 : decode b_M_endWord 74 = .ok (.iload_n 1, 1) := by decide +kernel
theorem d_M_endWord_75 : decode b_M_endWord 75 = .ok (.isub, 1) := by decide +kernel
theorem d_M_endWord_76 : decode b_M_endWord 76 = .ok (.aload_n 0, 1) := by decide +kernel
theorem d_M_endWord_77 : decode b_M_endWord 77 = .ok (.getfield 189, 3) := by decide +kernel
theorem d_M_endWord_80 : decode b_M_endWord 80 = .ok (.if_icmp .le (26), 3) := by decide +kernel
theorem d_M_endWord_83 : decode b_M_endWord 83 = .ok (.aload_n 0, 1) := by decide +kernel
theorem d_M_endWord_84 : decode b_M_endWord 84 = .ok (.aload_n 0, 1) := by decide +kernel
theorem d_M_endWord_85 : decode b_M_endWord 85 = .ok (.getfield 85, 3) := by decide +kernel
theorem d_M_endWord_88 : decode b_M_endWord 88 = .ok (.iload_n 1, 1) := by decide +kernel
theorem d_M_endWord_89 : decode b_M_endWord 89 = .ok (.aload_n 0, 1) := by decide +kernel
theorem d_M_endWord_90 : decode b_M_endWord 90 = .ok (.getfield 189, 3) := by decide +kernel
theorem d_M_endWord_93 : decode b_M_endWord 93 = .ok (.invokevirtual 182, 3) := by decide +kernel
theorem d_M_endWord_96 : decode b_M_endWord 96 = .ok (.iload_n 1, 1) := by decide +kernel
theorem d_M_endWord_97 : decode b_M_endWord 97 = .ok (.aload_n 0, 1) := by decide +kernel
theorem d_M_endWord_98 : decode b_M_endWord 98 = .ok (.getfield 189, 3) := by decide +kernel
theorem d_M_endWord_101 : decode b_M_endWord 101 = .ok (.iadd, 1) := by decide +kernel
theorem d_M_endWord_102 : decode b_M_endWord 102 = .ok (.istore_n 1, 1) := by decide +kernel
theorem d_M_endWord_103 : decode b_M_endWord 103 = .ok (.goto (-33), 3) := by decide +kernel
theorem d_M_endWord_106 : decode b_M_endWord 106 = .ok (.iload_n 1, 1) := by decide +kernel
theorem d_M_endWord_107 : decode b_M_endWord 107 = .ok (.aload_n 0, 1) := by decide +kernel
theorem d_M_endWord_108 : decode b_M_endWord 108 = .ok (.getfield 186, 3) := by decide +kernel
theorem d_M_endWord_111 : decode b_M_endWord 111 = .ok (.if_icmp .ge (34), 3) := by decide +kernel
theorem d_M_endWord_114 : decode b_M_endWord 114 = .ok (.aload_n 0, 1) := by decide +kernel
theorem d_M_endWord_115 : decode b_M_endWord 115 = .ok (.getfield 88, 3) := by decide +kernel
theorem d_M_endWord_118 : decode b_M_endWord 118 = .ok (.aload_n 0, 1) := by decide +kernel
theorem d_M_endWord_119 : decode b_M_endWord 119 = .ok (.getfield 179, 3) := by decide +kernel
theorem d_M_endWord_122 : decode b_M_endWord 122 = .ok (.aload_n 0, 1) := by decide +kernel
theorem d_M_endWord_123 : decode b_M_endWord 123 = .ok (.getfield 85, 3) := by decide +kernel
theorem d_M_endWord_126 : decode b_M_endWord 126 = .ok (.iload_n 1, 1) := by decide +kernel
theorem d_M_endWord_127 : decode b_M_endWord 127 = .ok (.iaload, 1) := by decide +kernel
theorem d_M_endWord_128 : decode b_M_endWord 128 = .ok (.iastore, 1) := by decide +kernel
theorem d_M_endWord_129 : decode b_M_endWord 129 = .ok (.aload_n 0, 1) := by decide +kernel
theorem d_M_endWord_130 : decode b_M_endWord 130 = .ok (.dup, 1) := by decide +kernel
theorem d_M_endWord_131 : decode b_M_endWord 131 = .ok (.getfield 179, 3) := by decide +kernel
theorem d_M_endWord_134 : decode b_M_endWord 134 = .ok (.iconst 1, 1) := by decide +kernel
theorem d_M_endWord_135 : decode b_M_endWord 135 = .ok (.iadd, 1) := by decide +kernel
theorem d_M_endWord_136 : decode b_M_endWord 136 = .ok (.putfield 179, 3) := by decide +kernel
theorem d_M_endWord_139 : decode b_M_endWord 139 = .ok (.iinc 1 (1), 3) := by decide +kernel
theorem d_M_endWord_142 : decode b_M_endWord 142 = .ok (.goto (-36), 3) := by decide +kernel
theorem d_M_endWord_145 : decode b_M_endWord 145 = .ok (.aload_n 0, 1) := by decide +kernel
theorem d_M_endWord_146 : decode b_M_endWord 146 = .ok (.iconst 0, 1) := by decide +kernel
theorem d_M_endWord_147 : decode b_M_endWord 147 = .ok (.putfield 186, 3) := by decide +kernel
theorem d_M_endWord_150 : decode b_M_endWord 150 = .ok (.return_, 1) := by decide +kernel
theorem d_M_hear_0 : decode b_M_hear 0 = .ok (.iload_n 1, 1) := by decide +kernel
theorem d_M_hear_1 : decode b_M_hear 1 = .ok (.bipush (9), 2) := by decide +kernel
theorem d_M_hear_3 : decode b_M_hear 3 = .ok (.if_icmp .eq (21), 3) := by decide +kernel
theorem d_M_hear_6 : decode b_M_hear 6 = .ok (.iload_n 1, 1) := by decide +kernel
theorem d_M_hear_7 : decode b_M_hear 7 = .ok (.bipush (10), 2) := by decide +kernel
theorem d_M_hear_9 : decode b_M_hear 9 = .ok (.if_icmp .eq (15), 3) := by decide +kernel
theorem d_M_hear_12 : decode b_M_hear 12 = .ok (.iload_n 1, 1) := by decide +kernel
theorem d_M_hear_13 : decode b_M_hear 13 = .ok (.bipush (13), 2) := by decide +kernel
theorem d_M_hear_15 : decode b_M_hear 15 = .ok (.if_icmp .eq (9), 3) := by decide +kernel
theorem d_M_hear_18 : decode b_M_hear 18 = .ok (.iload_n 1, 1) := by decide +kernel
theorem d_M_hear_19 : decode b_M_hear 19 = .ok (.bipush (32), 2) := by decide +kernel
theorem d_M_hear_21 : decode b_M_hear 21 = .ok (.if_icmp .ne (10), 3) := by decide +kernel
theorem d_M_hear_24 : decode b_M_hear 24 = .ok (.aload_n 0, 1) := by decide +kernel
theorem d_M_hear_25 : decode b_M_hear 25 = .ok (.invokevirtual 195, 3) := by decide +kernel
theorem d_M_hear_28 : decode b_M_hear 28 = .ok (.goto (23), 3) := by decide +kernel
theorem d_M_hear_31 : decode b_M_hear 31 = .ok (.aload_n 0, 1) := by decide +kernel
theorem d_M_hear_32 : decode b_M_hear 32 = .ok (.getfield 85, 3) := by decide +kernel
theorem d_M_hear_35 : decode b_M_hear 35 = .ok (.aload_n 0, 1) := by decide +kernel
theorem d_M_hear_36 : decode b_M_hear 36 = .ok (.getfield 186, 3) := by decide +kernel
theorem d_M_hear_39 : decode b_M_hear 39 = .ok (.iload_n 1, 1) := by decide +kernel
theorem d_M_hear_40 : decode b_M_hear 40 = .ok (.iastore, 1) := by decide +kernel
theorem d_M_hear_41 : decode b_M_hear 41 = .ok (.aload_n 0, 1) := by decide +kernel
theorem d_M_hear_42 : decode b_M_hear 42 = .ok (.dup, 1) := by decide +kernel
theorem d_M_hear_43 : decode b_M_hear 43 = .ok (.getfield 186, 3) := by decide +kernel
theorem d_M_hear_46 : decode b_M_hear 46 = .ok (.iconst 1, 1) := by decide +kernel
theorem d_M_hear_47 : decode b_M_hear 47 = .ok (.iadd, 1) := by decide +kernel
theorem d_M_hear_48 : decode b_M_hear 48 = .ok (.putfield 186, 3) := by decide +kernel
theorem d_M_hear_51 : decode b_M_hear 51 = .ok (.return_, 1) := by decide +kernel
theorem d_M_beginLeaf_0 : decode b_M_beginLeaf 0 = .ok (.aload_n 0, 1) := by decide +kernel
theorem d_M_beginLeaf_1 : decode b_M_beginLeaf 1 = .ok (.getfield 82, 3) := by decide +kernel
theorem d_M_beginLeaf_4 : decode b_M_beginLeaf 4 = .ok (.aload_n 0, 1) := by decide +kernel
theorem d_M_beginLeaf_5 : decode b_M_beginLeaf 5 = .ok (.getfield 166, 3) := by decide +kernel
theorem d_M_beginLeaf_8 : decode b_M_beginLeaf 8 = .ok (.iconst 1, 1) := by decide +kernel
theorem d_M_beginLeaf_9 : decode b_M_beginLeaf 9 = .ok (.isub, 1) := by decide +kernel
end
section
theorem d_M_beginLeaf_10 : decode b_M_beginLeaf 10 = .ok (.iconst 1, 1) := by decide +kernel
theorem d_M_beginLeaf_11 : decode b_M_beginLeaf 11 = .ok (.bastore, 1) := by decide +kernel
theorem d_M_beginLeaf_12 : decode b_M_beginLeaf 12 = .ok (.aload_n 0, 1) := by decide +kernel
theorem d_M_beginLeaf_13 : decode b_M_beginLeaf 13 = .ok (.iconst 1, 1) := by decide +kernel
theorem d_M_beginLeaf_14 : decode b_M_beginLeaf 14 = .ok (.putfield 198, 3) := by decide +kernel
theorem d_M_beginLeaf_17 : decode b_M_beginLeaf 17 = .ok (.aload_n 0, 1) := by decide +kernel
theorem d_M_beginLeaf_18 : decode b_M_beginLeaf 18 = .ok (.iconst (-1), 1) := by decide +kernel
theorem d_M_beginLeaf_19 : decode b_M_beginLeaf 19 = .ok (.putfield 176, 3) := by decide +kernel
theorem d_M_beginLeaf_22 : decode b_M_beginLeaf 22 = .ok (.aload_n 0, 1) := by decide +kernel
theorem d_M_beginLeaf_23 : decode b_M_beginLeaf 23 = .ok (.aload_n 0, 1) := by decide +kernel
theorem d_M_beginLeaf_24 : decode b_M_beginLeaf 24 = .ok (.getfield 64, 3) := by decide +kernel
theorem d_M_beginLeaf_27 : decode b_M_beginLeaf 27 = .ok (.aload_n 0, 1) := by decide +kernel
theorem d_M_beginLeaf_28 : decode b_M_beginLeaf 28 = .ok (.getfield 166, 3) := by decide +kernel
theorem d_M_beginLeaf_31 : decode b_M_beginLeaf 31 = .ok (.iconst 1, 1) := by decide +kernel
theorem d_M_beginLeaf_32 : decode b_M_beginLeaf 32 = .ok (.isub, 1) := by decide +kernel
theorem d_M_beginLeaf_33 : decode b_M_beginLeaf 33 = .ok (.iaload, 1) := by decide +kernel
theorem d_M_beginLeaf_34 : decode b_M_beginLeaf 34 = .ok (.putfield 189, 3) := by decide +kernel
theorem d_M_beginLeaf_37 : decode b_M_beginLeaf 37 = .ok (.aload_n 0, 1) := by decide +kernel
theorem d_M_beginLeaf_38 : decode b_M_beginLeaf 38 = .ok (.iconst 0, 1) := by decide +kernel
theorem d_M_beginLeaf_39 : decode b_M_beginLeaf 39 = .ok (.putfield 186, 3) := by decide +kernel
theorem d_M_beginLeaf_42 : decode b_M_beginLeaf 42 = .ok (.aload_n 0, 1) := by decide +kernel
theorem d_M_beginLeaf_43 : decode b_M_beginLeaf 43 = .ok (.iconst 0, 1) := by decide +kernel
theorem d_M_beginLeaf_44 : decode b_M_beginLeaf 44 = .ok (.putfield 179, 3) := by decide +kernel
theorem d_M_beginLeaf_47 : decode b_M_beginLeaf 47 = .ok (.return_, 1) := by decide +kernel
theorem d_M_endLeaf_0 : decode b_M_endLeaf 0 = .ok (.aload_n 0, 1) := by decide +kernel
theorem d_M_endLeaf_1 : decode b_M_endLeaf 1 = .ok (.invokevirtual 195, 3) := by decide +kernel
theorem d_M_endLeaf_4 : decode b_M_endLeaf 4 = .ok (.aload_n 0, 1) := by decide +kernel
theorem d_M_endLeaf_5 : decode b_M_endLeaf 5 = .ok (.getfield 179, 3) := by decide +kernel
theorem d_M_endLeaf_8 : decode b_M_endLeaf 8 = .ok (.ifCond .le (7), 3) := by decide +kernel
theorem d_M_endLeaf_11 : decode b_M_endLeaf 11 = .ok (.aload_n 0, 1) := by decide +kernel
theorem d_M_endLeaf_12 : decode b_M_endLeaf 12 = .ok (.invokevirtual 192, 3) := by decide +kernel
theorem d_M_endLeaf_15 : decode b_M_endLeaf 15 = .ok (.aload_n 0, 1) := by decide +kernel
theorem d_M_endLeaf_16 : decode b_M_endLeaf 16 = .ok (.iconst 0, 1) := by decide +kernel
theorem d_M_endLeaf_17 : decode b_M_endLeaf 17 = .ok (.putfield 198, 3) := by decide +kernel
theorem d_M_endLeaf_20 : decode b_M_endLeaf 20 = .ok (.return_, 1) := by decide +kernel
theorem d_M_hold_0 : decode b_M_hold 0 = .ok (.aload_n 0, 1) := by decide +kernel
theorem d_M_hold_1 : decode b_M_hold 1 = .ok (.getfield 166, 3) := by decide +kernel
theorem d_M_hold_4 : decode b_M_hold 4 = .ok (.ifCond .le (15), 3) := by decide +kernel
theorem d_M_hold_7 : decode b_M_hold 7 = .ok (.aload_n 0, 1) := by decide +kernel
theorem d_M_hold_8 : decode b_M_hold 8 = .ok (.getfield 82, 3) := by decide +kernel
theorem d_M_hold_11 : decode b_M_hold 11 = .ok (.aload_n 0, 1) := by decide +kernel
theorem d_M_hold_12 : decode b_M_hold 12 = .ok (.getfield 166, 3) := by decide +kernel
theorem d_M_hold_15 : decode b_M_hold 15 = .ok (.iconst 1, 1) := by decide +kernel
theorem d_M_hold_16 : decode b_M_hold 16 = .ok (.isub, 1) := by decide +kernel
theorem d_M_hold_17 : decode b_M_hold 17 = .ok (.iconst 1, 1) := by decide +kernel
theorem d_M_hold_18 : decode b_M_hold 18 = .ok (.bastore, 1) := by decide +kernel
theorem d_M_hold_19 : decode b_M_hold 19 = .ok (.aload_n 0, 1) := by decide +kernel
theorem d_M_hold_20 : decode b_M_hold 20 = .ok (.getfield 166, 3) := by decide +kernel
theorem d_M_hold_23 : decode b_M_hold 23 = .ok (.istore 5, 2) := by decide +kernel
theorem d_M_hold_25 : decode b_M_hold 25 = .ok (.aload_n 0, 1) := by decide +kernel
theorem d_M_hold_26 : decode b_M_hold 26 = .ok (.getfield 61, 3) := by decide +kernel
theorem d_M_hold_29 : decode b_M_hold 29 = .ok (.iload 5, 2) := by decide +kernel
theorem d_M_hold_31 : decode b_M_hold 31 = .ok (.iload_n 1, 1) := by decide +kernel
theorem d_M_hold_32 : decode b_M_hold 32 = .ok (.iastore, 1) := by decide +kernel
theorem d_M_hold_33 : decode b_M_hold 33 = .ok (.aload_n 0, 1) := by decide +kernel
theorem d_M_hold_34 : decode b_M_hold 34 = .ok (.getfield 64, 3) := by decide +kernel
theorem d_M_hold_37 : decode b_M_hold 37 = .ok (.iload 5, 2) := by decide +kernel
theorem d_M_hold_39 : decode b_M_hold 39 = .ok (.iload_n 2, 1) := by decide +kernel
theorem d_M_hold_40 : decode b_M_hold 40 = .ok (.iconst 4, 1) := by decide +kernel
theorem d_M_hold_41 : decode b_M_hold 41 = .ok (.if_icmp .ge (7), 3) := by decide +kernel
theorem d_M_hold_44 : decode b_M_hold 44 = .ok (.iconst 4, 1) := by decide +kernel
theorem d_M_hold_45 : decode b_M_hold 45 = .ok (.goto (4), 3) := by decide +kernel
theorem d_M_hold_48 : decode b_M_hold 48 = .ok (.iload_n 2, 1) := by decide +kernel
theorem d_M_hold_49 : decode b_M_hold 49 = .ok (.iastore, 1) := by decide +kernel
theorem d_M_hold_50 : decode b_M_hold 50 = .ok (.aload_n 0, 1) := by decide +kernel
theorem d_M_hold_51 : decode b_M_hold 51 = .ok (.getfield 67, 3) := by decide +kernel
theorem d_M_hold_54 : decode b_M_hold 54 = .ok (.iload 5, 2) := by decide +kernel
theorem d_M_hold_56 : decode b_M_hold 56 = .ok (.iload_n 3, 1) := by decide +kernel
theorem d_M_hold_57 : decode b_M_hold 57 = .ok (.iastore, 1) := by decide +kernel
theorem d_M_hold_58 : decode b_M_hold 58 = .ok (.aload_n 0, 1) := by decide +kernel
theorem d_M_hold_59 : decode b_M_hold 59 = .ok (.getfield 70, 3) := by decide +kernel
theorem d_M_hold_62 : decode b_M_hold 62 = .ok (.iload 5, 2) := by decide +kernel
theorem d_M_hold_64 : decode b_M_hold 64 = .ok (.iload_n 3, 1) := by decide +kernel
theorem d_M_hold_65 : decode b_M_hold 65 = .ok (.iastore, 1) := by decide +kernel
theorem d_M_hold_66 : decode b_M_hold 66 = .ok (.aload_n 0, 1) := by decide +kernel
theorem d_M_hold_67 : decode b_M_hold 67 = .ok (.getfield 73, 3) := by decide +kernel
theorem d_M_hold_70 : decode b_M_hold 70 = .ok (.iload 5, 2) := by decide +kernel
theorem d_M_hold_72 : decode b_M_hold 72 = .ok (.iload_n 1, 1) := by decide +kernel
theorem d_M_hold_73 : decode b_M_hold 73 = .ok (.bipush (7), 2) := by decide +kernel
theorem d_M_hold_75 : decode b_M_hold 75 = .ok (.if_icmp .ne (7), 3) := by decide +kernel
theorem d_M_hold_78 : decode b_M_hold 78 = .ok (.iconst 1, 1) := by decide +kernel
theorem d_M_hold_79 : decode b_M_hold 79 = .ok (.goto (4), 3) := by decide +kernel
theorem d_M_hold_82 : decode b_M_hold 82 = .ok (.iconst 0, 1) := by decide +kernel
theorem d_M_hold_83 : decode b_M_hold 83 = .ok (.bastore, 1) := by decide +kernel
theorem d_M_hold_84 : decode b_M_hold 84 = .ok (.aload_n 0, 1) := by decide +kernel
theorem d_M_hold_85 : decode b_M_hold 85 = .ok (.getfield 76, 3) := by decide +kernel
theorem d_M_hold_88 : decode b_M_hold 88 = .ok (.iload 5, 2) := by decide +kernel
theorem d_M_hold_90 : decode b_M_hold 90 = .ok (.iload 4, 2) := by decide +kernel
theorem d_M_hold_92 : decode b_M_hold 92 = .ok (.bastore, 1) := by decide +kernel
theorem d_M_hold_93 : decode b_M_hold 93 = .ok (.aload_n 0, 1) := by decide +kernel
theorem d_M_hold_94 : decode b_M_hold 94 = .ok (.getfield 79, 3) := by decide +kernel
theorem d_M_hold_97 : decode b_M_hold 97 = .ok (.iload 5, 2) := by decide +kernel
theorem d_M_hold_99 : decode b_M_hold 99 = .ok (.iconst 0, 1) := by decide +kernel
theorem d_M_hold_100 : decode b_M_hold 100 = .ok (.bastore, 1) := by decide +kernel
theorem d_M_hold_101 : decode b_M_hold 101 = .ok (.aload_n 0, 1) := by decide +kernel
theorem d_M_hold_102 : decode b_M_hold 102 = .ok (.getfield 82, 3) := by decide +kernel
theorem d_M_hold_105 : decode b_M_hold 105 = .ok (.iload 5, 2) := by decide +kernel
theorem d_M_hold_107 : decode b_M_hold 107 = .ok (.iconst 0, 1) := by decide +kernel
theorem d_M_hold_108 : decode b_M_hold 108 = .ok (.bastore, 1) := by decide +kernel
theorem d_M_hold_109 : decode b_M_hold 109 = .ok (.aload_n 0, 1) := by decide +kernel
theorem d_M_hold_110 : decode b_M_hold 110 = .ok (.dup, 1) := by decide +kernel
theorem d_M_hold_111 : decode b_M_hold 111 = .ok (.getfield 166, 3) := by decide +kernel
theorem d_M_hold_114 : decode b_M_hold 114 = .ok (.iconst 1, 1) := by decide +kernel
theorem d_M_hold_115 : decode b_M_hold 115 = .ok (.iadd, 1) := by decide +kernel
theorem d_M_hold_116 : decode b_M_hold 116 = .ok (.putfield 166, 3) := by decide +kernel
theorem d_M_hold_119 : decode b_M_hold 119 = .ok (.return_, 1) := by decide +kernel
theorem d_M_holdsParagraph_0 : decode b_M_holdsParagraph 0 = .ok (.iconst 0, 1) := by decide +kernel
theorem d_M_holdsParagraph_1 : decode b_M_holdsParagraph 1 = .ok (.istore_n 2, 1) := by decide +kernel
theorem d_M_holdsParagraph_2 : decode b_M_holdsParagraph 2 = .ok (.iload_n 1, 1) := by decide +kernel
theorem d_M_holdsParagraph_3 : decode b_M_holdsParagraph 3 = .ok (.iconst 1, 1) := by decide +kernel
theorem d_M_holdsParagraph_4 : decode b_M_holdsParagraph 4 = .ok (.iadd, 1) := by decide +kernel
theorem d_M_holdsParagraph_5 : decode b_M_holdsParagraph 5 = .ok (.istore_n 3, 1) := by decide +kernel
theorem d_M_holdsParagraph_6 : decode b_M_holdsParagraph 6 = .ok (.iload_n 3, 1) := by decide +kernel
theorem d_M_holdsParagraph_7 : decode b_M_holdsParagraph 7 = .ok (.aload_n 0, 1) := by decide +kernel
theorem d_M_holdsParagraph_8 : decode b_M_holdsParagraph 8 = .ok (.getfield 101, 3) := by decide +kernel
theorem d_M_holdsParagraph_11 : decode b_M_holdsParagraph 11 = .ok (.if_icmp .ge (38), 3) := by decide +kernel
theorem d_M_holdsParagraph_14 : decode b_M_holdsParagraph 14 = .ok (.iload_n 2, 1) := by decide +kernel
theorem d_M_holdsParagraph_15 : decode b_M_holdsParagraph 15 = .ok (.ifCond .ne (22), 3) := by decide +kernel
theorem d_M_holdsParagraph_18 : decode b_M_holdsParagraph 18 = .ok (.aload_n 0, 1) := by decide +kernel
theorem d_M_holdsParagraph_19 : decode b_M_holdsParagraph 19 = .ok (.getfield 13, 3) := by decide +kernel
theorem d_M_holdsParagraph_22 : decode b_M_holdsParagraph 22 = .ok (.iload_n 3, 1) := by decide +kernel
theorem d_M_holdsParagraph_23 : decode b_M_holdsParagraph 23 = .ok (.iaload, 1) := by decide +kernel
theorem d_M_holdsParagraph_24 : decode b_M_holdsParagraph 24 = .ok (.iload_n 1, 1) := by decide +kernel
theorem d_M_holdsParagraph_25 : decode b_M_holdsParagraph 25 = .ok (.if_icmp .ne (16), 3) := by decide +kernel
theorem d_M_holdsParagraph_28 : decode b_M_holdsParagraph 28 = .ok (.aload_n 0, 1) := by decide +kernel
theorem d_M_holdsParagraph_29 : decode b_M_holdsParagraph 29 = .ok (.getfield 7, 3) := by decide +kernel
theorem d_M_holdsParagraph_32 : decode b_M_holdsParagraph 32 = .ok (.iload_n 3, 1) := by decide +kernel
theorem d_M_holdsParagraph_33 : decode b_M_holdsParagraph 33 = .ok (.iaload, 1) := by decide +kernel
theorem d_M_holdsParagraph_34 : decode b_M_holdsParagraph 34 = .ok (.ifCond .ne (7), 3) := by decide +kernel
theorem d_M_holdsParagraph_37 : decode b_M_holdsParagraph 37 = .ok (.iconst 1, 1) := by decide +kernel
theorem d_M_holdsParagraph_38 : decode b_M_holdsParagraph 38 = .ok (.goto (4), 3) := by decide +kernel
theorem d_M_holdsParagraph_41 : decode b_M_holdsParagraph 41 = .ok (.iconst 0, 1) := by decide +kernel
theorem d_M_holdsParagraph_42 : decode b_M_holdsParagraph 42 = .ok (.istore_n 2, 1) := by decide +kernel
theorem d_M_holdsParagraph_43 : decode b_M_holdsParagraph 43 = .ok (.iinc 3 (1), 3) := by decide +kernel
theorem d_M_holdsParagraph_46 : decode b_M_holdsParagraph 46 = .ok (.goto (-40), 3) := by decide +kernel
theorem d_M_holdsParagraph_49 : decode b_M_holdsParagraph 49 = .ok (.iload_n 2, 1) := by decide +kernel
theorem d_M_holdsParagraph_50 : decode b_M_holdsParagraph 50 = .ok (.ireturn, 1) := by decide +kernel
theorem d_M_holdsWideItem_0 : decode b_M_holdsWideItem 0 = .ok (.iconst 0, 1) := by decide +kernel
theorem d_M_holdsWideItem_1 : decode b_M_holdsWideItem 1 = .ok (.istore_n 2, 1) := by decide +kernel
theorem d_M_holdsWideItem_2 : decode b_M_holdsWideItem 2 = .ok (.iload_n 1, 1) := by decide +kernel
theorem d_M_holdsWideItem_3 : decode b_M_holdsWideItem 3 = .ok (.iconst 1, 1) := by decide +kernel
theorem d_M_holdsWideItem_4 : decode b_M_holdsWideItem 4 = .ok (.iadd, 1) := by decide +kernel
theorem d_M_holdsWideItem_5 : decode b_M_holdsWideItem 5 = .ok (.istore_n 3, 1) := by decide +kernel
theorem d_M_holdsWideItem_6 : decode b_M_holdsWideItem 6 = .ok (.iload_n 3, 1) := by decide +kernel
theorem d_M_holdsWideItem_7 : decode b_M_holdsWideItem 7 = .ok (.aload_n 0, 1) := by decide +kernel
theorem d_M_holdsWideItem_8 : decode b_M_holdsWideItem 8 = .ok (.getfield 101, 3) := by decide +kernel
theorem d_M_holdsWideItem_11 : decode b_M_holdsWideItem 11 = .ok (.if_icmp .ge (37), 3) := by decide +kernel
theorem d_M_holdsWideItem_14 : decode b_M_holdsWideItem 14 = .ok (.iload_n 2, 1) := by decide +kernel
theorem d_M_holdsWideItem_15 : decode b_M_holdsWideItem 15 = .ok (.ifCond .ne (21), 3) := by decide +kernel
theorem d_M_holdsWideItem_18 : decode b_M_holdsWideItem 18 = .ok (.aload_n 0, 1) := by decide +kernel
theorem d_M_holdsWideItem_19 : decode b_M_holdsWideItem 19 = .ok (.getfield 13, 3) := by decide +kernel
theorem d_M_holdsWideItem_22 : decode b_M_holdsWideItem 22 = .ok (.iload_n 3, 1) := by decide +kernel
theorem d_M_holdsWideItem_23 : decode b_M_holdsWideItem 23 = .ok (.iaload, 1) := by decide +kernel
theorem d_M_holdsWideItem_24 : decode b_M_holdsWideItem 24 = .ok (.iload_n 1, 1) := by decide +kernel
theorem d_M_holdsWideItem_25 : decode b_M_holdsWideItem 25 = .ok (.if_icmp .ne (15), 3) := by decide +kernel
theorem d_M_holdsWideItem_28 : decode b_M_holdsWideItem 28 = .ok (.aload_n 0, 1) := by decide +kernel
theorem d_M_holdsWideItem_29 : decode b_M_holdsWideItem 29 = .ok (.iload_n 3, 1) := by decide +kernel
theorem d_M_holdsWideItem_30 : decode b_M_holdsWideItem 30 = .ok (.invokevirtual 201, 3) := by decide +kernel
theorem d_M_holdsWideItem_33 : decode b_M_holdsWideItem 33 = .ok (.ifCond .eq (7), 3) := by decide +kernel
theorem d_M_holdsWideItem_36 : decode b_M_holdsWideItem 36 = .ok (.iconst 1, 1) := by decide +kernel
theorem d_M_holdsWideItem_37 : decode b_M_holdsWideItem 37 = .ok (.goto (4), 3) := by decide +kernel
theorem d_M_holdsWideItem_40 : decode b_M_holdsWideItem 40 = .ok (.iconst 0, 1) := by decide +kernel
theorem d_M_holdsWideItem_41 : decode b_M_holdsWideItem 41 = .ok (.istore_n 2, 1) := by decide +kernel
theorem d_M_holdsWideItem_42 : decode b_M_holdsWideItem 42 = .ok (.iinc 3 (1), 3) := by decide +kernel
theorem d_M_holdsWideItem_45 : decode b_M_holdsWideItem 45 = .ok (.goto (-39), 3) := by decide +kernel
theorem d_M_holdsWideItem_48 : decode b_M_holdsWideItem 48 = .ok (.iload_n 2, 1) := by decide +kernel
theorem d_M_holdsWideItem_49 : decode b_M_holdsWideItem 49 = .ok (.ireturn, 1) := by decide +kernel
theorem d_M_layCode_0 : decode b_M_layCode 0 = .ok (.aload_n 0, 1) := by decide +kernel
theorem d_M_layCode_1 : decode b_M_layCode 1 = .ok (.invokevirtual 204, 3) := by decide +kernel
theorem d_M_layCode_4 : decode b_M_layCode 4 = .ok (.iload_n 1, 1) := by decide +kernel
theorem d_M_layCode_5 : decode b_M_layCode 5 = .ok (.iconst 1, 1) := by decide +kernel
theorem d_M_layCode_6 : decode b_M_layCode 6 = .ok (.iadd, 1) := by decide +kernel
theorem d_M_layCode_7 : decode b_M_layCode 7 = .ok (.istore_n 2, 1) := by decide +kernel
theorem d_M_layCode_8 : decode b_M_layCode 8 = .ok (.iload_n 2, 1) := by decide +kernel
theorem d_M_layCode_9 : decode b_M_layCode 9 = .ok (.aload_n 0, 1) := by decide +kernel
theorem d_M_layCode_10 : decode b_M_layCode 10 = .ok (.getfield 101, 3) := by decide +kernel
theorem d_M_layCode_13 : decode b_M_layCode 13 = .ok (.if_icmp .ge (94), 3) := by decide +kernel
theorem d_M_layCode_16 : decode b_M_layCode 16 = .ok (.aload_n 0, 1) := by decide +kernel
theorem d_M_layCode_17 : decode b_M_layCode 17 = .ok (.getfield 13, 3) := by decide +kernel
theorem d_M_layCode_20 : decode b_M_layCode 20 = .ok (.iload_n 2, 1) := by decide +kernel
theorem d_M_layCode_21 : decode b_M_layCode 21 = .ok (.iaload, 1) := by decide +kernel
theorem d_M_layCode_22 : decode b_M_layCode 22 = .ok (.iload_n 1, 1) := by decide +kernel
theorem d_M_layCode_23 : decode b_M_layCode 23 = .ok (.if_icmp .eq (6), 3) := by decide +kernel
theorem d_M_layCode_26 : decode b_M_layCode 26 = .ok (.goto (75), 3) := by decide +kernel
theorem d_M_layCode_29 : decode b_M_layCode 29 = .ok (.iconst 0, 1) := by decide +kernel
theorem d_M_layCode_30 : decode b_M_layCode 30 = .ok (.istore_n 3, 1) := by decide +kernel
theorem d_M_layCode_31 : decode b_M_layCode 31 = .ok (.iload_n 3, 1) := by decide +kernel
theorem d_M_layCode_32 : decode b_M_layCode 32 = .ok (.aload_n 0, 1) := by decide +kernel
theorem d_M_layCode_33 : decode b_M_layCode 33 = .ok (.getfield 25, 3) := by decide +kernel
theorem d_M_layCode_36 : decode b_M_layCode 36 = .ok (.iload_n 2, 1) := by decide +kernel
theorem d_M_layCode_37 : decode b_M_layCode 37 = .ok (.iaload, 1) := by decide +kernel
theorem d_M_layCode_38 : decode b_M_layCode 38 = .ok (.if_icmp .ge (63), 3) := by decide +kernel
theorem d_M_layCode_41 : decode b_M_layCode 41 = .ok (.aload_n 0, 1) := by decide +kernel
theorem d_M_layCode_42 : decode b_M_layCode 42 = .ok (.getfield 31, 3) := by decide +kernel
theorem d_M_layCode_45 : decode b_M_layCode 45 = .ok (.aload_n 0, 1) := by decide +kernel
theorem d_M_layCode_46 : decode b_M_layCode 46 = .ok (.getfield 22, 3) := by decide +kernel
theorem d_M_layCode_49 : decode b_M_layCode 49 = .ok (.iload_n 2, 1) := by decide +kernel
theorem d_M_layCode_50 : decode b_M_layCode 50 = .ok (.iaload, 1) := by decide +kernel
theorem d_M_layCode_51 : decode b_M_layCode 51 = .ok (.iload_n 3, 1) := by decide +kernel
theorem d_M_layCode_52 : decode b_M_layCode 52 = .ok (.iadd, 1) := by decide +kernel
theorem d_M_layCode_53 : decode b_M_layCode 53 = .ok (.baload, 1) := by decide +kernel
theorem d_M_layCode_54 : decode b_M_layCode 54 = .ok (.sipush (255), 3) := by decide +kernel
theorem d_M_layCode_57 : decode b_M_layCode 57 = .ok (.iand, 1) := by decide +kernel
theorem d_M_layCode_58 : decode b_M_layCode 58 = .ok (.istore 4, 2) := by decide +kernel
theorem d_M_layCode_60 : decode b_M_layCode 60 = .ok (.iload 4, 2) := by decide +kernel
theorem d_M_layCode_62 : decode b_M_layCode 62 = .ok (.bipush (10), 2) := by decide +kernel
theorem d_M_layCode_64 : decode b_M_layCode 64 = .ok (.if_icmp .ne (10), 3) := by decide +kernel
theorem d_M_layCode_67 : decode b_M_layCode 67 = .ok (.aload_n 0, 1) := by decide +kernel
theorem d_M_layCode_68 : decode b_M_layCode 68 = .ok (.invokevirtual 207, 3) := by decide +kernel
theorem d_M_layCode_71 : decode b_M_layCode 71 = .ok (.goto (24), 3) := by decide +kernel
theorem d_M_layCode_74 : decode b_M_layCode 74 = .ok (.aload_n 0, 1) := by decide +kernel
theorem d_M_layCode_75 : decode b_M_layCode 75 = .ok (.getfield 85, 3) := by decide +kernel
theorem d_M_layCode_78 : decode b_M_layCode 78 = .ok (.aload_n 0, 1) := by decide +kernel
theorem d_M_layCode_79 : decode b_M_layCode 79 = .ok (.getfield 186, 3) := by decide +kernel
theorem d_M_layCode_82 : decode b_M_layCode 82 = .ok (.iload 4, 2) := by decide +kernel
theorem d_M_layCode_84 : decode b_M_layCode 84 = .ok (.iastore, 1) := by decide +kernel
theorem d_M_layCode_85 : decode b_M_layCode 85 = .ok (.aload_n 0, 1) := by decide +kernel
theorem d_M_layCode_86 : decode b_M_layCode 86 = .ok (.dup, 1) := by decide +kernel
theorem d_M_layCode_87 : decode b_M_layCode 87 = .ok (.getfield 186, 3) := by decide +kernel
theorem d_M_layCode_90 : decode b_M_layCode 90 = .ok (.iconst 1, 1) := by decide +kernel
theorem d_M_layCode_91 : decode b_M_layCode 91 = .ok (.iadd, 1) := by decide +kernel
theorem d_M_layCode_92 : decode b_M_layCode 92 = .ok (.putfield 186, 3) := by decide +kernel
theorem d_M_layCode_95 : decode b_M_layCode 95 = .ok (.iinc 3 (1), 3) := by decide +kernel
theorem d_M_layCode_98 : decode b_M_layCode 98 = .ok (.goto (-67), 3) := by decide +kernel
theorem d_M_layCode_101 : decode b_M_layCode 101 = .ok (.iinc 2 (1), 3) := by decide +kernel
theorem d_M_layCode_104 : decode b_M_layCode 104 = .ok (.goto (-96), 3) := by decide +kernel
theorem d_M_layCode_107 : decode b_M_layCode 107 = .ok (.aload_n 0, 1) := by decide +kernel
theorem d_M_layCode_108 : decode b_M_layCode 108 = .ok (.getfield 186, 3) := by decide +kernel
theorem d_M_layCode_111 : decode b_M_layCode 111 = .ok (.ifCond .le (7), 3) := by decide +kernel
theorem d_M_layCode_114 : decode b_M_layCode 114 = .ok (.aload_n 0, 1) := by decide +kernel
theorem d_M_layCode_115 : decode b_M_layCode 115 = .ok (.invokevirtual 207, 3) := by decide +kernel
theorem d_M_layCode_118 : decode b_M_layCode 118 = .ok (.aload_n 0, 1) := by decide +kernel
theorem d_M_layCode_119 : decode b_M_layCode 119 = .ok (.iconst 0, 1) := by decide +kernel
theorem d_M_layCode_120 : decode b_M_layCode 120 = .ok (.putfield 198, 3) := by decide +kernel
theorem d_M_layCode_123 : decode b_M_layCode 123 = .ok (.return_, 1) := by decide +kernel
theorem d_M_layPieces_0 : decode b_M_layPieces 0 = .ok (.iconst 0, 1) := by decide +kernel
theorem d_M_layPieces_1 : decode b_M_layPieces 1 = .ok (.istore_n 1, 1) := by decide +kernel
theorem d_M_layPieces_2 : decode b_M_layPieces 2 = .ok (.aload_n 0, 1) := by decide +kernel
theorem d_M_layPieces_3 : decode b_M_layPieces 3 = .ok (.getfield 186, 3) := by decide +kernel
theorem d_M_layPieces_6 : decode b_M_layPieces 6 = .ok (.iload_n 1, 1) := by decide +kernel
theorem d_M_layPieces_7 : decode b_M_layPieces 7 = .ok (.isub, 1) := by decide +kernel
theorem d_M_layPieces_8 : decode b_M_layPieces 8 = .ok (.aload_n 0, 1) := by decide +kernel
theorem d_M_layPieces_9 : decode b_M_layPieces 9 = .ok (.getfield 189, 3) := by decide +kernel
theorem d_M_layPieces_12 : decode b_M_layPieces 12 = .ok (.if_icmp .ge (12), 3) := by decide +kernel
theorem d_M_layPieces_15 : decode b_M_layPieces 15 = .ok (.aload_n 0, 1) := by decide +kernel
theorem d_M_layPieces_16 : decode b_M_layPieces 16 = .ok (.getfield 186, 3) := by decide +kernel
theorem d_M_layPieces_19 : decode b_M_layPieces 19 = .ok (.iload_n 1, 1) := by decide +kernel
theorem d_M_layPieces_20 : decode b_M_layPieces 20 = .ok (.isub, 1) := by decide +kernel
theorem d_M_layPieces_21 : decode b_M_layPieces 21 = .ok (.goto (7), 3) := by decide +kernel
theorem d_M_layPieces_24 : decode b_M_layPieces 24 = .ok (.aload_n 0, 1) := by decide +kernel
theorem d_M_layPieces_25 : decode b_M_layPieces 25 = .ok (.getfield 189, 3) := by decide +kernel
theorem d_M_layPieces_28 : decode b_M_layPieces 28 = .ok (.istore_n 2, 1) := by decide +kernel
theorem d_M_layPieces_29 : decode b_M_layPieces 29 = .ok (.aload_n 0, 1) := by decide +kernel
theorem d_M_layPieces_30 : decode b_M_layPieces 30 = .ok (.aload_n 0, 1) := by decide +kernel
theorem d_M_layPieces_31 : decode b_M_layPieces 31 = .ok (.getfield 85, 3) := by decide +kernel
theorem d_M_layPieces_34 : decode b_M_layPieces 34 = .ok (.iload_n 1, 1) := by decide +kernel
theorem d_M_layPieces_35 : decode b_M_layPieces 35 = .ok (.iload_n 2, 1) := by decide +kernel
theorem d_M_layPieces_36 : decode b_M_layPieces 36 = .ok (.invokevirtual 182, 3) := by decide +kernel
theorem d_M_layPieces_39 : decode b_M_layPieces 39 = .ok (.iload_n 1, 1) := by decide +kernel
theorem d_M_layPieces_40 : decode b_M_layPieces 40 = .ok (.iload_n 2, 1) := by decide +kernel
theorem d_M_layPieces_41 : decode b_M_layPieces 41 = .ok (.iadd, 1) := by decide +kernel
theorem d_M_layPieces_42 : decode b_M_layPieces 42 = .ok (.istore_n 1, 1) := by decide +kernel
theorem d_M_layPieces_43 : decode b_M_layPieces 43 = .ok (.iload_n 1, 1) := by decide +kernel
theorem d_M_layPieces_44 : decode b_M_layPieces 44 = .ok (.aload_n 0, 1) := by decide +kernel
theorem d_M_layPieces_45 : decode b_M_layPieces 45 = .ok (.getfield 186, 3) := by decide +kernel
theorem d_M_layPieces_48 : decode b_M_layPieces 48 = .ok (.if_icmp .lt (-46), 3) := by decide +kernel
theorem d_M_layPieces_51 : decode b_M_layPieces 51 = .ok (.aload_n 0, 1) := by decide +kernel
theorem d_M_layPieces_52 : decode b_M_layPieces 52 = .ok (.iconst 0, 1) := by decide +kernel
theorem d_M_layPieces_53 : decode b_M_layPieces 53 = .ok (.putfield 186, 3) := by decide +kernel
theorem d_M_layPieces_56 : decode b_M_layPieces 56 = .ok (.return_, 1) := by decide +kernel
theorem d_M_beginNode_0 : decode b_M_beginNode 0 = .ok (.aload_n 0, 1) := by decide +kernel
theorem d_M_beginNode_1 : decode b_M_beginNode 1 = .ok (.getfield 7, 3) := by decide +kernel
theorem d_M_beginNode_4 : decode b_M_beginNode 4 = .ok (.iload_n 1, 1) := by decide +kernel
theorem d_M_beginNode_5 : decode b_M_beginNode 5 = .ok (.iaload, 1) := by decide +kernel
theorem d_M_beginNode_6 : decode b_M_beginNode 6 = .ok (.istore_n 2, 1) := by decide +kernel
theorem d_M_beginNode_7 : decode b_M_beginNode 7 = .ok (.iload_n 2, 1) := by decide +kernel
theorem d_M_beginNode_8 : decode b_M_beginNode 8 = .ok (.invokestatic 125, 3) := by decide +kernel
theorem d_M_beginNode_11 : decode b_M_beginNode 11 = .ok (.ifCond .eq (14), 3) := by decide +kernel
theorem d_M_beginNode_14 : decode b_M_beginNode 14 = .ok (.aload_n 0, 1) := by decide +kernel
theorem d_M_beginNode_15 : decode b_M_beginNode 15 = .ok (.getfield 198, 3) := by decide +kernel
theorem d_M_beginNode_18 : decode b_M_beginNode 18 = .ok (.ifCond .eq (7), 3) := by decide +kernel
theorem d_M_beginNode_21 : decode b_M_beginNode 21 = .ok (.aload_n 0, 1) := by decide +kernel
theorem d_M_beginNode_22 : decode b_M_beginNode 22 = .ok (.invokevirtual 210, 3) := by decide +kernel
theorem d_M_beginNode_25 : decode b_M_beginNode 25 = .ok (.iload_n 2, 1) := by decide +kernel
theorem d_M_beginNode_26 : decode b_M_beginNode 26 = .ok (.invokestatic 129, 3) := by decide +kernel
theorem d_M_beginNode_29 : decode b_M_beginNode 29 = .ok (.ifCond .eq (53), 3) := by decide +kernel
theorem d_M_beginNode_32 : decode b_M_beginNode 32 = .ok (.aload_n 0, 1) := by decide +kernel
theorem d_M_beginNode_33 : decode b_M_beginNode 33 = .ok (.getfield 198, 3) := by decide +kernel
theorem d_M_beginNode_36 : decode b_M_beginNode 36 = .ok (.ifCond .ne (46), 3) := by decide +kernel
theorem d_M_beginNode_39 : decode b_M_beginNode 39 = .ok (.aload_n 0, 1) := by decide +kernel
theorem d_M_beginNode_40 : decode b_M_beginNode 40 = .ok (.getfield 166, 3) := by decide +kernel
theorem d_M_beginNode_43 : decode b_M_beginNode 43 = .ok (.ifCond .le (39), 3) := by decide +kernel
theorem d_M_beginNode_46 : decode b_M_beginNode 46 = .ok (.aload_n 0, 1) := by decide +kernel
theorem d_M_beginNode_47 : decode b_M_beginNode 47 = .ok (.getfield 61, 3) := by decide +kernel
theorem d_M_beginNode_50 : decode b_M_beginNode 50 = .ok (.aload_n 0, 1) := by decide +kernel
theorem d_M_beginNode_51 : decode b_M_beginNode 51 = .ok (.getfield 166, 3) := by decide +kernel
theorem d_M_beginNode_54 : decode b_M_beginNode 54 = .ok (.iconst 1, 1) := by decide +kernel
theorem d_M_beginNode_55 : decode b_M_beginNode 55 = .ok (.isub, 1) := by decide +kernel
theorem d_M_beginNode_56 : decode b_M_beginNode 56 = .ok (.iaload, 1) := by decide +kernel
theorem d_M_beginNode_57 : decode b_M_beginNode 57 = .ok (.bipush (7), 2) := by decide +kernel
theorem d_M_beginNode_59 : decode b_M_beginNode 59 = .ok (.if_icmp .ne (23), 3) := by decide +kernel
theorem d_M_beginNode_62 : decode b_M_beginNode 62 = .ok (.aload_n 0, 1) := by decide +kernel
theorem d_M_beginNode_63 : decode b_M_beginNode 63 = .ok (.getfield 7, 3) := by decide +kernel
theorem d_M_beginNode_66 : decode b_M_beginNode 66 = .ok (.aload_n 0, 1) := by decide +kernel
theorem d_M_beginNode_67 : decode b_M_beginNode 67 = .ok (.getfield 13, 3) := by decide +kernel
theorem d_M_beginNode_70 : decode b_M_beginNode 70 = .ok (.iload_n 1, 1) := by decide +kernel
theorem d_M_beginNode_71 : decode b_M_beginNode 71 = .ok (.iaload, 1) := by decide +kernel
theorem d_M_beginNode_72 : decode b_M_beginNode 72 = .ok (.iaload, 1) := by decide +kernel
theorem d_M_beginNode_73 : decode b_M_beginNode 73 = .ok (.bipush (7), 2) := by decide +kernel
theorem d_M_beginNode_75 : decode b_M_beginNode 75 = .ok (.if_icmp .ne (7), 3) := by decide +kernel
theorem d_M_beginNode_78 : decode b_M_beginNode 78 = .ok (.aload_n 0, 1) := by decide +kernel
theorem d_M_beginNode_79 : decode b_M_beginNode 79 = .ok (.invokevirtual 204, 3) := by decide +kernel
theorem d_M_beginNode_82 : decode b_M_beginNode 82 = .ok (.aload_n 0, 1) := by decide +kernel
theorem d_M_beginNode_83 : decode b_M_beginNode 83 = .ok (.getfield 166, 3) := by decide +kernel
theorem d_M_beginNode_86 : decode b_M_beginNode 86 = .ok (.ifCond .le (17), 3) := by decide +kernel
theorem d_M_beginNode_89 : decode b_M_beginNode 89 = .ok (.aload_n 0, 1) := by decide +kernel
theorem d_M_beginNode_90 : decode b_M_beginNode 90 = .ok (.getfield 64, 3) := by decide +kernel
theorem d_M_beginNode_93 : decode b_M_beginNode 93 = .ok (.aload_n 0, 1) := by decide +kernel
theorem d_M_beginNode_94 : decode b_M_beginNode 94 = .ok (.getfield 166, 3) := by decide +kernel
theorem d_M_beginNode_97 : decode b_M_beginNode 97 = .ok (.iconst 1, 1) := by decide +kernel
theorem d_M_beginNode_98 : decode b_M_beginNode 98 = .ok (.isub, 1) := by decide +kernel
theorem d_M_beginNode_99 : decode b_M_beginNode 99 = .ok (.iaload, 1) := by decide +kernel
theorem d_M_beginNode_100 : decode b_M_beginNode 100 = .ok (.goto (7), 3) := by decide +kernel
theorem d_M_beginNode_103 : decode b_M_beginNode 103 = .ok (.aload_n 0, 1) := by decide +kernel
theorem d_M_beginNode_104 : decode b_M_beginNode 104 = .ok (.getfield 119, 3) := by decide +kernel
theorem d_M_beginNode_107 : decode b_M_beginNode 107 = .ok (.istore_n 3, 1) := by decide +kernel
theorem d_M_beginNode_108 : decode b_M_beginNode 108 = .ok (.iload_n 2, 1) := by decide +kernel
theorem d_M_beginNode_109 : decode b_M_beginNode 109 = .ok (.bipush (10), 2) := by decide +kernel
theorem d_M_beginNode_111 : decode b_M_beginNode 111 = .ok (.if_icmp .ne (22), 3) := by decide +kernel
theorem d_M_beginNode_114 : decode b_M_beginNode 114 = .ok (.aload_n 0, 1) := by decide +kernel
theorem d_M_beginNode_115 : decode b_M_beginNode 115 = .ok (.getfield 7, 3) := by decide +kernel
theorem d_M_beginNode_118 : decode b_M_beginNode 118 = .ok (.aload_n 0, 1) := by decide +kernel
theorem d_M_beginNode_119 : decode b_M_beginNode 119 = .ok (.getfield 13, 3) := by decide +kernel
theorem d_M_beginNode_122 : decode b_M_beginNode 122 = .ok (.iload_n 1, 1) := by decide +kernel
theorem d_M_beginNode_123 : decode b_M_beginNode 123 = .ok (.iaload, 1) := by decide +kernel
theorem d_M_beginNode_124 : decode b_M_beginNode 124 = .ok (.iaload, 1) := by decide +kernel
theorem d_M_beginNode_125 : decode b_M_beginNode 125 = .ok (.iconst 3, 1) := by decide +kernel
theorem d_M_beginNode_126 : decode b_M_beginNode 126 = .ok (.if_icmp .ne (7), 3) := by decide +kernel
theorem d_M_beginNode_129 : decode b_M_beginNode 129 = .ok (.iconst 1, 1) := by decide +kernel
theorem d_M_beginNode_130 : decode b_M_beginNode 130 = .ok (.goto (4), 3) := by decide +kernel
theorem d_M_beginNode_133 : decode b_M_beginNode 133 = .ok (.iconst 0, 1) := by decide +kernel
theorem d_M_beginNode_134 : decode b_M_beginNode 134 = .ok (.istore 4, 2) := by decide +kernel
theorem d_M_beginNode_136 : decode b_M_beginNode 136 = .ok (.aload_n 0, 1) := by decide +kernel
theorem d_M_beginNode_137 : decode b_M_beginNode 137 = .ok (.getfield 58, 3) := by decide +kernel
theorem d_M_beginNode_140 : decode b_M_beginNode 140 = .ok (.iload_n 1, 1) := by decide +kernel
theorem d_M_beginNode_141 : decode b_M_beginNode 141 = .ok (.iload_n 2, 1) := by decide +kernel
theorem d_M_beginNode_142 : decode b_M_beginNode 142 = .ok (.invokestatic 129, 3) := by decide +kernel
theorem d_M_beginNode_145 : decode b_M_beginNode 145 = .ok (.ifCond .eq (29), 3) := by decide +kernel
theorem d_M_beginNode_148 : decode b_M_beginNode 148 = .ok (.aload_n 0, 1) := by decide +kernel
theorem d_M_beginNode_149 : decode b_M_beginNode 149 = .ok (.getfield 176, 3) := by decide +kernel
theorem d_M_beginNode_152 : decode b_M_beginNode 152 = .ok (.ifCond .lt (22), 3) := by decide +kernel
theorem d_M_beginNode_155 : decode b_M_beginNode 155 = .ok (.aload_n 0, 1) := by decide +kernel
theorem d_M_beginNode_156 : decode b_M_beginNode 156 = .ok (.getfield 198, 3) := by decide +kernel
theorem d_M_beginNode_159 : decode b_M_beginNode 159 = .ok (.ifCond .ne (8), 3) := by decide +kernel
theorem d_M_beginNode_162 : decode b_M_beginNode 162 = .ok (.iload 4, 2) := by decide +kernel
theorem d_M_beginNode_164 : decode b_M_beginNode 164 = .ok (.ifCond .eq (10), 3) := by decide +kernel
theorem d_M_beginNode_167 : decode b_M_beginNode 167 = .ok (.aload_n 0, 1) := by decide +kernel
theorem d_M_beginNode_168 : decode b_M_beginNode 168 = .ok (.getfield 176, 3) := by decide +kernel
theorem d_M_beginNode_171 : decode b_M_beginNode 171 = .ok (.goto (10), 3) := by decide +kernel
theorem d_M_beginNode_174 : decode b_M_beginNode 174 = .ok (.bipush (-2), 2) := by decide +kernel
theorem d_M_beginNode_176 : decode b_M_beginNode 176 = .ok (.aload_n 0, 1) := by decide +kernel
theorem d_M_beginNode_177 : decode b_M_beginNode 177 = .ok (.getfield 159, 3) := by decide +kernel
theorem d_M_beginNode_180 : decode b_M_beginNode 180 = .ok (.isub, 1) := by decide +kernel
theorem d_M_beginNode_181 : decode b_M_beginNode 181 = .ok (.iastore, 1) := by decide +kernel
theorem d_M_beginNode_182 : decode b_M_beginNode 182 = .ok (.iload_n 2, 1) := by decide +kernel
theorem d_M_beginNode_183 : decode b_M_beginNode 183 = .ok (.tableswitch (355) (0) (11) #[196, 203, 240, 286, 76, 89, 104, 125, 355, 294, 305, 61], 61) := by decide +kernel
theorem d_M_beginNode_244 : decode b_M_beginNode 244 = .ok (.aload_n 0, 1) := by decide +kernel
theorem d_M_beginNode_245 : decode b_M_beginNode 245 = .ok (.bipush (11), 2) := by decide +kernel
theorem d_M_beginNode_247 : decode b_M_beginNode 247 = .ok (.aload_n 0, 1) := by decide +kernel
theorem d_M_beginNode_248 : decode b_M_beginNode 248 = .ok (.getfield 119, 3) := by decide +kernel
theorem d_M_beginNode_251 : decode b_M_beginNode 251 = .ok (.iconst (-1), 1) := by decide +kernel
theorem d_M_beginNode_252 : decode b_M_beginNode 252 = .ok (.iconst 1, 1) := by decide +kernel
theorem d_M_beginNode_253 : decode b_M_beginNode 253 = .ok (.invokevirtual 213, 3) := by decide +kernel
theorem d_M_beginNode_256 : decode b_M_beginNode 256 = .ok (.goto (282), 3) := by decide +kernel
theorem d_M_beginNode_259 : decode b_M_beginNode 259 = .ok (.aload_n 0, 1) := by decide +kernel
theorem d_M_beginNode_260 : decode b_M_beginNode 260 = .ok (.iconst 4, 1) := by decide +kernel
theorem d_M_beginNode_261 : decode b_M_beginNode 261 = .ok (.iload_n 3, 1) := by decide +kernel
theorem d_M_beginNode_262 : decode b_M_beginNode 262 = .ok (.iconst 2, 1) := by decide +kernel
theorem d_M_beginNode_263 : decode b_M_beginNode 263 = .ok (.isub, 1) := by decide +kernel
theorem d_M_beginNode_264 : decode b_M_beginNode 264 = .ok (.iconst (-1), 1) := by decide +kernel
theorem d_M_beginNode_265 : decode b_M_beginNode 265 = .ok (.iconst 1, 1) := by decide +kernel
theorem d_M_beginNode_266 : decode b_M_beginNode 266 = .ok (.invokevirtual 213, 3) := by decide +kernel
theorem d_M_beginNode_269 : decode b_M_beginNode 269 = .ok (.goto (269), 3) := by decide +kernel
theorem d_M_beginNode_272 : decode b_M_beginNode 272 = .ok (.aload_n 0, 1) := by decide +kernel
theorem d_M_beginNode_273 : decode b_M_beginNode 273 = .ok (.iconst 5, 1) := by decide +kernel
theorem d_M_beginNode_274 : decode b_M_beginNode 274 = .ok (.iload_n 3, 1) := by decide +kernel
theorem d_M_beginNode_275 : decode b_M_beginNode 275 = .ok (.iconst (-1), 1) := by decide +kernel
theorem d_M_beginNode_276 : decode b_M_beginNode 276 = .ok (.aload_n 0, 1) := by decide +kernel
theorem d_M_beginNode_277 : decode b_M_beginNode 277 = .ok (.iload_n 1, 1) := by decide +kernel
theorem d_M_beginNode_278 : decode b_M_beginNode 278 = .ok (.invokevirtual 217, 3) := by decide +kernel
theorem d_M_beginNode_281 : decode b_M_beginNode 281 = .ok (.invokevirtual 213, 3) := by decide +kernel
theorem d_M_beginNode_284 : decode b_M_beginNode 284 = .ok (.goto (254), 3) := by decide +kernel
theorem d_M_beginNode_287 : decode b_M_beginNode 287 = .ok (.aload_n 0, 1) := by decide +kernel
theorem d_M_beginNode_288 : decode b_M_beginNode 288 = .ok (.bipush (6), 2) := by decide +kernel
theorem d_M_beginNode_290 : decode b_M_beginNode 290 = .ok (.iload_n 3, 1) := by decide +kernel
theorem d_M_beginNode_291 : decode b_M_beginNode 291 = .ok (.aload_n 0, 1) := by decide +kernel
theorem d_M_beginNode_292 : decode b_M_beginNode 292 = .ok (.getfield 16, 3) := by decide +kernel
theorem d_M_beginNode_295 : decode b_M_beginNode 295 = .ok (.iload_n 1, 1) := by decide +kernel
theorem d_M_beginNode_296 : decode b_M_beginNode 296 = .ok (.iaload, 1) := by decide +kernel
theorem d_M_beginNode_297 : decode b_M_beginNode 297 = .ok (.aload_n 0, 1) := by decide +kernel
end
section
theorem d_M_beginNode_298 : decode b_M_beginNode 298 = .ok (.iload_n 1, 1) := by decide +kernel
theorem d_M_beginNode_299 : decode b_M_beginNode 299 = .ok (.invokevirtual 217, 3) := by decide +kernel
theorem d_M_beginNode_302 : decode b_M_beginNode 302 = .ok (.invokevirtual 213, 3) := by decide +kernel
theorem d_M_beginNode_305 : decode b_M_beginNode 305 = .ok (.goto (233), 3) := by decide +kernel
theorem d_M_beginNode_308 : decode b_M_beginNode 308 = .ok (.aload_n 0, 1) := by decide +kernel
theorem d_M_beginNode_309 : decode b_M_beginNode 309 = .ok (.getfield 61, 3) := by decide +kernel
theorem d_M_beginNode_312 : decode b_M_beginNode 312 = .ok (.aload_n 0, 1) := by decide +kernel
theorem d_M_beginNode_313 : decode b_M_beginNode 313 = .ok (.getfield 166, 3) := by decide +kernel
theorem d_M_beginNode_316 : decode b_M_beginNode 316 = .ok (.iconst 1, 1) := by decide +kernel
theorem d_M_beginNode_317 : decode b_M_beginNode 317 = .ok (.isub, 1) := by decide +kernel
theorem d_M_beginNode_318 : decode b_M_beginNode 318 = .ok (.iaload, 1) := by decide +kernel
theorem d_M_beginNode_319 : decode b_M_beginNode 319 = .ok (.bipush (6), 2) := by decide +kernel
theorem d_M_beginNode_321 : decode b_M_beginNode 321 = .ok (.if_icmp .ne (17), 3) := by decide +kernel
theorem d_M_beginNode_324 : decode b_M_beginNode 324 = .ok (.aload_n 0, 1) := by decide +kernel
theorem d_M_beginNode_325 : decode b_M_beginNode 325 = .ok (.getfield 70, 3) := by decide +kernel
theorem d_M_beginNode_328 : decode b_M_beginNode 328 = .ok (.aload_n 0, 1) := by decide +kernel
theorem d_M_beginNode_329 : decode b_M_beginNode 329 = .ok (.getfield 166, 3) := by decide +kernel
theorem d_M_beginNode_332 : decode b_M_beginNode 332 = .ok (.iconst 1, 1) := by decide +kernel
theorem d_M_beginNode_333 : decode b_M_beginNode 333 = .ok (.isub, 1) := by decide +kernel
theorem d_M_beginNode_334 : decode b_M_beginNode 334 = .ok (.iaload, 1) := by decide +kernel
theorem d_M_beginNode_335 : decode b_M_beginNode 335 = .ok (.goto (4), 3) := by decide +kernel
theorem d_M_beginNode_338 : decode b_M_beginNode 338 = .ok (.iconst (-1), 1) := by decide +kernel
theorem d_M_beginNode_339 : decode b_M_beginNode 339 = .ok (.istore 5, 2) := by decide +kernel
theorem d_M_beginNode_341 : decode b_M_beginNode 341 = .ok (.aload_n 0, 1) := by decide +kernel
theorem d_M_beginNode_342 : decode b_M_beginNode 342 = .ok (.getfield 70, 3) := by decide +kernel
theorem d_M_beginNode_345 : decode b_M_beginNode 345 = .ok (.aload_n 0, 1) := by decide +kernel
theorem d_M_beginNode_346 : decode b_M_beginNode 346 = .ok (.getfield 166, 3) := by decide +kernel
theorem d_M_beginNode_349 : decode b_M_beginNode 349 = .ok (.iconst 1, 1) := by decide +kernel
theorem d_M_beginNode_350 : decode b_M_beginNode 350 = .ok (.isub, 1) := by decide +kernel
theorem d_M_beginNode_351 : decode b_M_beginNode 351 = .ok (.dup2, 1) := by decide +kernel
theorem d_M_beginNode_352 : decode b_M_beginNode 352 = .ok (.iaload, 1) := by decide +kernel
theorem d_M_beginNode_353 : decode b_M_beginNode 353 = .ok (.iconst 1, 1) := by decide +kernel
theorem d_M_beginNode_354 : decode b_M_beginNode 354 = .ok (.iadd, 1) := by decide +kernel
theorem d_M_beginNode_355 : decode b_M_beginNode 355 = .ok (.iastore, 1) := by decide +kernel
theorem d_M_beginNode_356 : decode b_M_beginNode 356 = .ok (.aload_n 0, 1) := by decide +kernel
theorem d_M_beginNode_357 : decode b_M_beginNode 357 = .ok (.bipush (7), 2) := by decide +kernel
theorem d_M_beginNode_359 : decode b_M_beginNode 359 = .ok (.iload_n 3, 1) := by decide +kernel
theorem d_M_beginNode_360 : decode b_M_beginNode 360 = .ok (.iload 5, 2) := by decide +kernel
theorem d_M_beginNode_362 : decode b_M_beginNode 362 = .ok (.invokestatic 155, 3) := by decide +kernel
theorem d_M_beginNode_365 : decode b_M_beginNode 365 = .ok (.isub, 1) := by decide +kernel
theorem d_M_beginNode_366 : decode b_M_beginNode 366 = .ok (.iload 5, 2) := by decide +kernel
theorem d_M_beginNode_368 : decode b_M_beginNode 368 = .ok (.aload_n 0, 1) := by decide +kernel
theorem d_M_beginNode_369 : decode b_M_beginNode 369 = .ok (.iload_n 1, 1) := by decide +kernel
theorem d_M_beginNode_370 : decode b_M_beginNode 370 = .ok (.invokevirtual 201, 3) := by decide +kernel
theorem d_M_beginNode_373 : decode b_M_beginNode 373 = .ok (.invokevirtual 213, 3) := by decide +kernel
theorem d_M_beginNode_376 : decode b_M_beginNode 376 = .ok (.goto (162), 3) := by decide +kernel
theorem d_M_beginNode_379 : decode b_M_beginNode 379 = .ok (.aload_n 0, 1) := by decide +kernel
theorem d_M_beginNode_380 : decode b_M_beginNode 380 = .ok (.invokevirtual 204, 3) := by decide +kernel
theorem d_M_beginNode_383 : decode b_M_beginNode 383 = .ok (.goto (155), 3) := by decide +kernel
theorem d_M_beginNode_386 : decode b_M_beginNode 386 = .ok (.aload_n 0, 1) := by decide +kernel
theorem d_M_beginNode_387 : decode b_M_beginNode 387 = .ok (.invokevirtual 204, 3) := by decide +kernel
theorem d_M_beginNode_390 : decode b_M_beginNode 390 = .ok (.iconst 0, 1) := by decide +kernel
theorem d_M_beginNode_391 : decode b_M_beginNode 391 = .ok (.istore 6, 2) := by decide +kernel
theorem d_M_beginNode_393 : decode b_M_beginNode 393 = .ok (.iload 6, 2) := by decide +kernel
theorem d_M_beginNode_395 : decode b_M_beginNode 395 = .ok (.aload_n 0, 1) := by decide +kernel
theorem d_M_beginNode_396 : decode b_M_beginNode 396 = .ok (.getfield 16, 3) := by decide +kernel
theorem d_M_beginNode_399 : decode b_M_beginNode 399 = .ok (.iload_n 1, 1) := by decide +kernel
theorem d_M_beginNode_400 : decode b_M_beginNode 400 = .ok (.iaload, 1) := by decide +kernel
theorem d_M_beginNode_401 : decode b_M_beginNode 401 = .ok (.if_icmp .ge (15), 3) := by decide +kernel
theorem d_M_beginNode_404 : decode b_M_beginNode 404 = .ok (.aload_n 0, 1) := by decide +kernel
theorem d_M_beginNode_405 : decode b_M_beginNode 405 = .ok (.bipush (61), 2) := by decide +kernel
theorem d_M_beginNode_407 : decode b_M_beginNode 407 = .ok (.invokevirtual 220, 3) := by decide +kernel
theorem d_M_beginNode_410 : decode b_M_beginNode 410 = .ok (.iinc 6 (1), 3) := by decide +kernel
theorem d_M_beginNode_413 : decode b_M_beginNode 413 = .ok (.goto (-20), 3) := by decide +kernel
theorem d_M_beginNode_416 : decode b_M_beginNode 416 = .ok (.aload_n 0, 1) := by decide +kernel
theorem d_M_beginNode_417 : decode b_M_beginNode 417 = .ok (.invokevirtual 195, 3) := by decide +kernel
theorem d_M_beginNode_420 : decode b_M_beginNode 420 = .ok (.goto (118), 3) := by decide +kernel
theorem d_M_beginNode_423 : decode b_M_beginNode 423 = .ok (.aload_n 0, 1) := by decide +kernel
theorem d_M_beginNode_424 : decode b_M_beginNode 424 = .ok (.invokevirtual 204, 3) := by decide +kernel
theorem d_M_beginNode_427 : decode b_M_beginNode 427 = .ok (.iconst 0, 1) := by decide +kernel
theorem d_M_beginNode_428 : decode b_M_beginNode 428 = .ok (.istore 6, 2) := by decide +kernel
theorem d_M_beginNode_430 : decode b_M_beginNode 430 = .ok (.iload 6, 2) := by decide +kernel
theorem d_M_beginNode_432 : decode b_M_beginNode 432 = .ok (.aload_n 0, 1) := by decide +kernel
theorem d_M_beginNode_433 : decode b_M_beginNode 433 = .ok (.getfield 189, 3) := by decide +kernel
theorem d_M_beginNode_436 : decode b_M_beginNode 436 = .ok (.if_icmp .ge (18), 3) := by decide +kernel
theorem d_M_beginNode_439 : decode b_M_beginNode 439 = .ok (.aload_n 0, 1) := by decide +kernel
theorem d_M_beginNode_440 : decode b_M_beginNode 440 = .ok (.getfield 88, 3) := by decide +kernel
theorem d_M_beginNode_443 : decode b_M_beginNode 443 = .ok (.iload 6, 2) := by decide +kernel
theorem d_M_beginNode_445 : decode b_M_beginNode 445 = .ok (.bipush (45), 2) := by decide +kernel
theorem d_M_beginNode_447 : decode b_M_beginNode 447 = .ok (.iastore, 1) := by decide +kernel
theorem d_M_beginNode_448 : decode b_M_beginNode 448 = .ok (.iinc 6 (1), 3) := by decide +kernel
theorem d_M_beginNode_451 : decode b_M_beginNode 451 = .ok (.goto (-21), 3) := by decide +kernel
theorem d_M_beginNode_454 : decode b_M_beginNode 454 = .ok (.aload_n 0, 1) := by decide +kernel
theorem d_M_beginNode_455 : decode b_M_beginNode 455 = .ok (.aload_n 0, 1) := by decide +kernel
theorem d_M_beginNode_456 : decode b_M_beginNode 456 = .ok (.getfield 189, 3) := by decide +kernel
theorem d_M_beginNode_459 : decode b_M_beginNode 459 = .ok (.putfield 179, 3) := by decide +kernel
theorem d_M_beginNode_462 : decode b_M_beginNode 462 = .ok (.aload_n 0, 1) := by decide +kernel
theorem d_M_beginNode_463 : decode b_M_beginNode 463 = .ok (.invokevirtual 210, 3) := by decide +kernel
theorem d_M_beginNode_466 : decode b_M_beginNode 466 = .ok (.goto (72), 3) := by decide +kernel
theorem d_M_beginNode_469 : decode b_M_beginNode 469 = .ok (.aload_n 0, 1) := by decide +kernel
theorem d_M_beginNode_470 : decode b_M_beginNode 470 = .ok (.iload_n 1, 1) := by decide +kernel
theorem d_M_beginNode_471 : decode b_M_beginNode 471 = .ok (.invokevirtual 223, 3) := by decide +kernel
theorem d_M_beginNode_474 : decode b_M_beginNode 474 = .ok (.goto (64), 3) := by decide +kernel
theorem d_M_beginNode_477 : decode b_M_beginNode 477 = .ok (.aload_n 0, 1) := by decide +kernel
theorem d_M_beginNode_478 : decode b_M_beginNode 478 = .ok (.invokevirtual 195, 3) := by decide +kernel
theorem d_M_beginNode_481 : decode b_M_beginNode 481 = .ok (.aload_n 0, 1) := by decide +kernel
theorem d_M_beginNode_482 : decode b_M_beginNode 482 = .ok (.invokevirtual 192, 3) := by decide +kernel
theorem d_M_beginNode_485 : decode b_M_beginNode 485 = .ok (.goto (53), 3) := by decide +kernel
theorem d_M_beginNode_488 : decode b_M_beginNode 488 = .ok (.iconst 0, 1) := by decide +kernel
theorem d_M_beginNode_489 : decode b_M_beginNode 489 = .ok (.istore 6, 2) := by decide +kernel
theorem d_M_beginNode_491 : decode b_M_beginNode 491 = .ok (.iload 6, 2) := by decide +kernel
theorem d_M_beginNode_493 : decode b_M_beginNode 493 = .ok (.aload_n 0, 1) := by decide +kernel
theorem d_M_beginNode_494 : decode b_M_beginNode 494 = .ok (.getfield 25, 3) := by decide +kernel
theorem d_M_beginNode_497 : decode b_M_beginNode 497 = .ok (.iload_n 1, 1) := by decide +kernel
theorem d_M_beginNode_498 : decode b_M_beginNode 498 = .ok (.iaload, 1) := by decide +kernel
theorem d_M_beginNode_499 : decode b_M_beginNode 499 = .ok (.if_icmp .ge (36), 3) := by decide +kernel
theorem d_M_beginNode_502 : decode b_M_beginNode 502 = .ok (.iload 4, 2) := by decide +kernel
theorem d_M_beginNode_504 : decode b_M_beginNode 504 = .ok (.ifCond .ne (31), 3) := by decide +kernel
theorem d_M_beginNode_507 : decode b_M_beginNode 507 = .ok (.aload_n 0, 1) := by decide +kernel
theorem d_M_beginNode_508 : decode b_M_beginNode 508 = .ok (.aload_n 0, 1) := by decide +kernel
theorem d_M_beginNode_509 : decode b_M_beginNode 509 = .ok (.getfield 31, 3) := by decide +kernel
theorem d_M_beginNode_512 : decode b_M_beginNode 512 = .ok (.aload_n 0, 1) := by decide +kernel
theorem d_M_beginNode_513 : decode b_M_beginNode 513 = .ok (.getfield 22, 3) := by decide +kernel
theorem d_M_beginNode_516 : decode b_M_beginNode 516 = .ok (.iload_n 1, 1) := by decide +kernel
theorem d_M_beginNode_517 : decode b_M_beginNode 517 = .ok (.iaload, 1) := by decide +kernel
theorem d_M_beginNode_518 : decode b_M_beginNode 518 = .ok (.iload 6, 2) := by decide +kernel
theorem d_M_beginNode_520 : decode b_M_beginNode 520 = .ok (.iadd, 1) := by decide +kernel
theorem d_M_beginNode_521 : decode b_M_beginNode 521 = .ok (.baload, 1) := by decide +kernel
theorem d_M_beginNode_522 : decode b_M_beginNode 522 = .ok (.sipush (255), 3) := by decide +kernel
theorem d_M_beginNode_525 : decode b_M_beginNode 525 = .ok (.iand, 1) := by decide +kernel
theorem d_M_beginNode_526 : decode b_M_beginNode 526 = .ok (.invokevirtual 220, 3) := by decide +kernel
theorem d_M_beginNode_529 : decode b_M_beginNode 529 = .ok (.iinc 6 (1), 3) := by decide +kernel
theorem d_M_beginNode_532 : decode b_M_beginNode 532 = .ok (.goto (-41), 3) := by decide +kernel
theorem d_M_beginNode_535 : decode b_M_beginNode 535 = .ok (.goto (3), 3) := by decide +kernel
theorem d_M_beginNode_538 : decode b_M_beginNode 538 = .ok (.return_, 1) := by decide +kernel
theorem d_M_endNode_0 : decode b_M_endNode 0 = .ok (.aload_n 0, 1) := by decide +kernel
theorem d_M_endNode_1 : decode b_M_endNode 1 = .ok (.getfield 7, 3) := by decide +kernel
theorem d_M_endNode_4 : decode b_M_endNode 4 = .ok (.iload_n 1, 1) := by decide +kernel
theorem d_M_endNode_5 : decode b_M_endNode 5 = .ok (.iaload, 1) := by decide +kernel
theorem d_M_endNode_6 : decode b_M_endNode 6 = .ok (.istore_n 2, 1) := by decide +kernel
theorem d_M_endNode_7 : decode b_M_endNode 7 = .ok (.iload_n 2, 1) := by decide +kernel
theorem d_M_endNode_8 : decode b_M_endNode 8 = .ok (.ifCond .eq (8), 3) := by decide +kernel
theorem d_M_endNode_11 : decode b_M_endNode 11 = .ok (.iload_n 2, 1) := by decide +kernel
theorem d_M_endNode_12 : decode b_M_endNode 12 = .ok (.iconst 1, 1) := by decide +kernel
theorem d_M_endNode_13 : decode b_M_endNode 13 = .ok (.if_icmp .ne (44), 3) := by decide +kernel
theorem d_M_endNode_16 : decode b_M_endNode 16 = .ok (.aload_n 0, 1) := by decide +kernel
theorem d_M_endNode_17 : decode b_M_endNode 17 = .ok (.invokevirtual 210, 3) := by decide +kernel
theorem d_M_endNode_20 : decode b_M_endNode 20 = .ok (.iload_n 2, 1) := by decide +kernel
theorem d_M_endNode_21 : decode b_M_endNode 21 = .ok (.iconst 1, 1) := by decide +kernel
theorem d_M_endNode_22 : decode b_M_endNode 22 = .ok (.if_icmp .ne (35), 3) := by decide +kernel
theorem d_M_endNode_25 : decode b_M_endNode 25 = .ok (.aload_n 0, 1) := by decide +kernel
theorem d_M_endNode_26 : decode b_M_endNode 26 = .ok (.getfield 162, 3) := by decide +kernel
theorem d_M_endNode_29 : decode b_M_endNode 29 = .ok (.ifCond .ne (28), 3) := by decide +kernel
theorem d_M_endNode_32 : decode b_M_endNode 32 = .ok (.aload_n 0, 1) := by decide +kernel
theorem d_M_endNode_33 : decode b_M_endNode 33 = .ok (.getfield 176, 3) := by decide +kernel
theorem d_M_endNode_36 : decode b_M_endNode 36 = .ok (.ifCond .lt (21), 3) := by decide +kernel
theorem d_M_endNode_39 : decode b_M_endNode 39 = .ok (.aload_n 0, 1) := by decide +kernel
theorem d_M_endNode_40 : decode b_M_endNode 40 = .ok (.getfield 38, 3) := by decide +kernel
theorem d_M_endNode_43 : decode b_M_endNode 43 = .ok (.aload_n 0, 1) := by decide +kernel
theorem d_M_endNode_44 : decode b_M_endNode 44 = .ok (.getfield 176, 3) := by decide +kernel
theorem d_M_endNode_47 : decode b_M_endNode 47 = .ok (.aload_n 0, 1) := by decide +kernel
theorem d_M_endNode_48 : decode b_M_endNode 48 = .ok (.getfield 159, 3) := by decide +kernel
theorem d_M_endNode_51 : decode b_M_endNode 51 = .ok (.aload_n 0, 1) := by decide +kernel
theorem d_M_endNode_52 : decode b_M_endNode 52 = .ok (.getfield 176, 3) := by decide +kernel
theorem d_M_endNode_55 : decode b_M_endNode 55 = .ok (.isub, 1) := by decide +kernel
theorem d_M_endNode_56 : decode b_M_endNode 56 = .ok (.iastore, 1) := by decide +kernel
theorem d_M_endNode_57 : decode b_M_endNode 57 = .ok (.iload_n 2, 1) := by decide +kernel
theorem d_M_endNode_58 : decode b_M_endNode 58 = .ok (.bipush (7), 2) := by decide +kernel
theorem d_M_endNode_60 : decode b_M_endNode 60 = .ok (.if_icmp .ne (43), 3) := by decide +kernel
theorem d_M_endNode_63 : decode b_M_endNode 63 = .ok (.aload_n 0, 1) := by decide +kernel
theorem d_M_endNode_64 : decode b_M_endNode 64 = .ok (.getfield 198, 3) := by decide +kernel
theorem d_M_endNode_67 : decode b_M_endNode 67 = .ok (.ifCond .eq (7), 3) := by decide +kernel
theorem d_M_endNode_70 : decode b_M_endNode 70 = .ok (.aload_n 0, 1) := by decide +kernel
theorem d_M_endNode_71 : decode b_M_endNode 71 = .ok (.invokevirtual 210, 3) := by decide +kernel
theorem d_M_endNode_74 : decode b_M_endNode 74 = .ok (.aload_n 0, 1) := by decide +kernel
theorem d_M_endNode_75 : decode b_M_endNode 75 = .ok (.getfield 73, 3) := by decide +kernel
theorem d_M_endNode_78 : decode b_M_endNode 78 = .ok (.aload_n 0, 1) := by decide +kernel
theorem d_M_endNode_79 : decode b_M_endNode 79 = .ok (.getfield 166, 3) := by decide +kernel
theorem d_M_endNode_82 : decode b_M_endNode 82 = .ok (.iconst 1, 1) := by decide +kernel
theorem d_M_endNode_83 : decode b_M_endNode 83 = .ok (.isub, 1) := by decide +kernel
theorem d_M_endNode_84 : decode b_M_endNode 84 = .ok (.baload, 1) := by decide +kernel
theorem d_M_endNode_85 : decode b_M_endNode 85 = .ok (.ifCond .eq (18), 3) := by decide +kernel
theorem d_M_endNode_88 : decode b_M_endNode 88 = .ok (.aload_n 0, 1) := by decide +kernel
theorem d_M_endNode_89 : decode b_M_endNode 89 = .ok (.iconst (-1), 1) := by decide +kernel
theorem d_M_endNode_90 : decode b_M_endNode 90 = .ok (.putfield 176, 3) := by decide +kernel
theorem d_M_endNode_93 : decode b_M_endNode 93 = .ok (.aload_n 0, 1) := by decide +kernel
theorem d_M_endNode_94 : decode b_M_endNode 94 = .ok (.aload_n 0, 1) := by decide +kernel
theorem d_M_endNode_95 : decode b_M_endNode 95 = .ok (.getfield 85, 3) := by decide +kernel
theorem d_M_endNode_98 : decode b_M_endNode 98 = .ok (.iconst 0, 1) := by decide +kernel
theorem d_M_endNode_99 : decode b_M_endNode 99 = .ok (.iconst 0, 1) := by decide +kernel
theorem d_M_endNode_100 : decode b_M_endNode 100 = .ok (.invokevirtual 182, 3) := by decide +kernel
theorem d_M_endNode_103 : decode b_M_endNode 103 = .ok (.iload_n 2, 1) := by decide +kernel
theorem d_M_endNode_104 : decode b_M_endNode 104 = .ok (.bipush (11), 2) := by decide +kernel
theorem d_M_endNode_106 : decode b_M_endNode 106 = .ok (.if_icmp .eq (14), 3) := by decide +kernel
theorem d_M_endNode_109 : decode b_M_endNode 109 = .ok (.iload_n 2, 1) := by decide +kernel
theorem d_M_endNode_110 : decode b_M_endNode 110 = .ok (.iconst 4, 1) := by decide +kernel
theorem d_M_endNode_111 : decode b_M_endNode 111 = .ok (.if_icmp .lt (19), 3) := by decide +kernel
theorem d_M_endNode_114 : decode b_M_endNode 114 = .ok (.iload_n 2, 1) := by decide +kernel
theorem d_M_endNode_115 : decode b_M_endNode 115 = .ok (.bipush (7), 2) := by decide +kernel
theorem d_M_endNode_117 : decode b_M_endNode 117 = .ok (.if_icmp .gt (13), 3) := by decide +kernel
theorem d_M_endNode_120 : decode b_M_endNode 120 = .ok (.aload_n 0, 1) := by decide +kernel
theorem d_M_endNode_121 : decode b_M_endNode 121 = .ok (.dup, 1) := by decide +kernel
theorem d_M_endNode_122 : decode b_M_endNode 122 = .ok (.getfield 166, 3) := by decide +kernel
theorem d_M_endNode_125 : decode b_M_endNode 125 = .ok (.iconst 1, 1) := by decide +kernel
theorem d_M_endNode_126 : decode b_M_endNode 126 = .ok (.isub, 1) := by decide +kernel
theorem d_M_endNode_127 : decode b_M_endNode 127 = .ok (.putfield 166, 3) := by decide +kernel
theorem d_M_endNode_130 : decode b_M_endNode 130 = .ok (.return_, 1) := by decide +kernel
theorem d_M_layOut_0 : decode b_M_layOut 0 = .ok (.aload_n 0, 1) := by decide +kernel
theorem d_M_layOut_1 : decode b_M_layOut 1 = .ok (.iconst 0, 1) := by decide +kernel
theorem d_M_layOut_2 : decode b_M_layOut 2 = .ok (.putfield 159, 3) := by decide +kernel
theorem d_M_layOut_5 : decode b_M_layOut 5 = .ok (.aload_n 0, 1) := by decide +kernel
theorem d_M_layOut_6 : decode b_M_layOut 6 = .ok (.iconst 0, 1) := by decide +kernel
theorem d_M_layOut_7 : decode b_M_layOut 7 = .ok (.putfield 166, 3) := by decide +kernel
theorem d_M_layOut_10 : decode b_M_layOut 10 = .ok (.aload_n 0, 1) := by decide +kernel
theorem d_M_layOut_11 : decode b_M_layOut 11 = .ok (.iconst 0, 1) := by decide +kernel
theorem d_M_layOut_12 : decode b_M_layOut 12 = .ok (.putfield 198, 3) := by decide +kernel
theorem d_M_layOut_15 : decode b_M_layOut 15 = .ok (.aload_n 0, 1) := by decide +kernel
theorem d_M_layOut_16 : decode b_M_layOut 16 = .ok (.iconst (-1), 1) := by decide +kernel
theorem d_M_layOut_17 : decode b_M_layOut 17 = .ok (.putfield 176, 3) := by decide +kernel
theorem d_M_layOut_20 : decode b_M_layOut 20 = .ok (.aload_n 0, 1) := by decide +kernel
theorem d_M_layOut_21 : decode b_M_layOut 21 = .ok (.iconst 0, 1) := by decide +kernel
theorem d_M_layOut_22 : decode b_M_layOut 22 = .ok (.putfield 186, 3) := by decide +kernel
theorem d_M_layOut_25 : decode b_M_layOut 25 = .ok (.aload_n 0, 1) := by decide +kernel
theorem d_M_layOut_26 : decode b_M_layOut 26 = .ok (.iconst 0, 1) := by decide +kernel
theorem d_M_layOut_27 : decode b_M_layOut 27 = .ok (.putfield 179, 3) := by decide +kernel
theorem d_M_layOut_30 : decode b_M_layOut 30 = .ok (.iconst (-1), 1) := by decide +kernel
theorem d_M_layOut_31 : decode b_M_layOut 31 = .ok (.istore_n 1, 1) := by decide +kernel
theorem d_M_layOut_32 : decode b_M_layOut 32 = .ok (.iconst 0, 1) := by decide +kernel
theorem d_M_layOut_33 : decode b_M_layOut 33 = .ok (.istore_n 2, 1) := by decide +kernel
theorem d_M_layOut_34 : decode b_M_layOut 34 = .ok (.iload_n 2, 1) := by decide +kernel
theorem d_M_layOut_35 : decode b_M_layOut 35 = .ok (.aload_n 0, 1) := by decide +kernel
theorem d_M_layOut_36 : decode b_M_layOut 36 = .ok (.getfield 101, 3) := by decide +kernel
theorem d_M_layOut_39 : decode b_M_layOut 39 = .ok (.if_icmp .gt (76), 3) := by decide +kernel
theorem d_M_layOut_42 : decode b_M_layOut 42 = .ok (.aload_n 0, 1) := by decide +kernel
theorem d_M_layOut_43 : decode b_M_layOut 43 = .ok (.getfield 159, 3) := by decide +kernel
theorem d_M_layOut_46 : decode b_M_layOut 46 = .ok (.sipush (1500), 3) := by decide +kernel
theorem d_M_layOut_49 : decode b_M_layOut 49 = .ok (.if_icmp .gt (66), 3) := by decide +kernel
theorem d_M_layOut_52 : decode b_M_layOut 52 = .ok (.iload_n 2, 1) := by decide +kernel
theorem d_M_layOut_53 : decode b_M_layOut 53 = .ok (.aload_n 0, 1) := by decide +kernel
theorem d_M_layOut_54 : decode b_M_layOut 54 = .ok (.getfield 101, 3) := by decide +kernel
theorem d_M_layOut_57 : decode b_M_layOut 57 = .ok (.if_icmp .ge (12), 3) := by decide +kernel
theorem d_M_layOut_60 : decode b_M_layOut 60 = .ok (.aload_n 0, 1) := by decide +kernel
theorem d_M_layOut_61 : decode b_M_layOut 61 = .ok (.getfield 13, 3) := by decide +kernel
theorem d_M_layOut_64 : decode b_M_layOut 64 = .ok (.iload_n 2, 1) := by decide +kernel
theorem d_M_layOut_65 : decode b_M_layOut 65 = .ok (.iaload, 1) := by decide +kernel
theorem d_M_layOut_66 : decode b_M_layOut 66 = .ok (.goto (4), 3) := by decide +kernel
theorem d_M_layOut_69 : decode b_M_layOut 69 = .ok (.iconst (-1), 1) := by decide +kernel
theorem d_M_layOut_70 : decode b_M_layOut 70 = .ok (.istore_n 3, 1) := by decide +kernel
theorem d_M_layOut_71 : decode b_M_layOut 71 = .ok (.iload_n 1, 1) := by decide +kernel
theorem d_M_layOut_72 : decode b_M_layOut 72 = .ok (.iload_n 3, 1) := by decide +kernel
theorem d_M_layOut_73 : decode b_M_layOut 73 = .ok (.if_icmp .eq (18), 3) := by decide +kernel
theorem d_M_layOut_76 : decode b_M_layOut 76 = .ok (.aload_n 0, 1) := by decide +kernel
theorem d_M_layOut_77 : decode b_M_layOut 77 = .ok (.iload_n 1, 1) := by decide +kernel
theorem d_M_layOut_78 : decode b_M_layOut 78 = .ok (.invokevirtual 226, 3) := by decide +kernel
theorem d_M_layOut_81 : decode b_M_layOut 81 = .ok (.aload_n 0, 1) := by decide +kernel
theorem d_M_layOut_82 : decode b_M_layOut 82 = .ok (.getfield 13, 3) := by decide +kernel
theorem d_M_layOut_85 : decode b_M_layOut 85 = .ok (.iload_n 1, 1) := by decide +kernel
theorem d_M_layOut_86 : decode b_M_layOut 86 = .ok (.iaload, 1) := by decide +kernel
theorem d_M_layOut_87 : decode b_M_layOut 87 = .ok (.istore_n 1, 1) := by decide +kernel
theorem d_M_layOut_88 : decode b_M_layOut 88 = .ok (.goto (-17), 3) := by decide +kernel
theorem d_M_layOut_91 : decode b_M_layOut 91 = .ok (.iload_n 2, 1) := by decide +kernel
theorem d_M_layOut_92 : decode b_M_layOut 92 = .ok (.aload_n 0, 1) := by decide +kernel
theorem d_M_layOut_93 : decode b_M_layOut 93 = .ok (.getfield 101, 3) := by decide +kernel
theorem d_M_layOut_96 : decode b_M_layOut 96 = .ok (.if_icmp .ne (6), 3) := by decide +kernel
theorem d_M_layOut_99 : decode b_M_layOut 99 = .ok (.goto (10), 3) := by decide +kernel
theorem d_M_layOut_102 : decode b_M_layOut 102 = .ok (.aload_n 0, 1) := by decide +kernel
theorem d_M_layOut_103 : decode b_M_layOut 103 = .ok (.iload_n 2, 1) := by decide +kernel
theorem d_M_layOut_104 : decode b_M_layOut 104 = .ok (.invokevirtual 229, 3) := by decide +kernel
theorem d_M_layOut_107 : decode b_M_layOut 107 = .ok (.iload_n 2, 1) := by decide +kernel
theorem d_M_layOut_108 : decode b_M_layOut 108 = .ok (.istore_n 1, 1) := by decide +kernel
theorem d_M_layOut_109 : decode b_M_layOut 109 = .ok (.iinc 2 (1), 3) := by decide +kernel
theorem d_M_layOut_112 : decode b_M_layOut 112 = .ok (.goto (-78), 3) := by decide +kernel
theorem d_M_layOut_115 : decode b_M_layOut 115 = .ok (.return_, 1) := by decide +kernel
theorem d_M_paginate_0 : decode b_M_paginate 0 = .ok (.iconst 0, 1) := by decide +kernel
theorem d_M_paginate_1 : decode b_M_paginate 1 = .ok (.istore_n 1, 1) := by decide +kernel
theorem d_M_paginate_2 : decode b_M_paginate 2 = .ok (.iconst 0, 1) := by decide +kernel
theorem d_M_paginate_3 : decode b_M_paginate 3 = .ok (.istore_n 2, 1) := by decide +kernel
theorem d_M_paginate_4 : decode b_M_paginate 4 = .ok (.iconst 0, 1) := by decide +kernel
theorem d_M_paginate_5 : decode b_M_paginate 5 = .ok (.istore_n 3, 1) := by decide +kernel
theorem d_M_paginate_6 : decode b_M_paginate 6 = .ok (.iconst 0, 1) := by decide +kernel
theorem d_M_paginate_7 : decode b_M_paginate 7 = .ok (.istore 4, 2) := by decide +kernel
theorem d_M_paginate_9 : decode b_M_paginate 9 = .ok (.iload 4, 2) := by decide +kernel
theorem d_M_paginate_11 : decode b_M_paginate 11 = .ok (.aload_n 0, 1) := by decide +kernel
theorem d_M_paginate_12 : decode b_M_paginate 12 = .ok (.getfield 113, 3) := by decide +kernel
theorem d_M_paginate_15 : decode b_M_paginate 15 = .ok (.if_icmp .ge (174), 3) := by decide +kernel
theorem d_M_paginate_18 : decode b_M_paginate 18 = .ok (.aload_n 0, 1) := by decide +kernel
theorem d_M_paginate_19 : decode b_M_paginate 19 = .ok (.getfield 41, 3) := by decide +kernel
theorem d_M_paginate_22 : decode b_M_paginate 22 = .ok (.iload 4, 2) := by decide +kernel
theorem d_M_paginate_24 : decode b_M_paginate 24 = .ok (.iconst (-1), 1) := by decide +kernel
theorem d_M_paginate_25 : decode b_M_paginate 25 = .ok (.iastore, 1) := by decide +kernel
theorem d_M_paginate_26 : decode b_M_paginate 26 = .ok (.aload_n 0, 1) := by decide +kernel
theorem d_M_paginate_27 : decode b_M_paginate 27 = .ok (.getfield 44, 3) := by decide +kernel
theorem d_M_paginate_30 : decode b_M_paginate 30 = .ok (.iload 4, 2) := by decide +kernel
theorem d_M_paginate_32 : decode b_M_paginate 32 = .ok (.iconst (-1), 1) := by decide +kernel
theorem d_M_paginate_33 : decode b_M_paginate 33 = .ok (.iastore, 1) := by decide +kernel
theorem d_M_paginate_34 : decode b_M_paginate 34 = .ok (.iload_n 2, 1) := by decide +kernel
theorem d_M_paginate_35 : decode b_M_paginate 35 = .ok (.aload_n 0, 1) := by decide +kernel
theorem d_M_paginate_36 : decode b_M_paginate 36 = .ok (.getfield 116, 3) := by decide +kernel
theorem d_M_paginate_39 : decode b_M_paginate 39 = .ok (.if_icmp .ne (8), 3) := by decide +kernel
theorem d_M_paginate_42 : decode b_M_paginate 42 = .ok (.iinc 1 (1), 3) := by decide +kernel
theorem d_M_paginate_45 : decode b_M_paginate 45 = .ok (.iconst 0, 1) := by decide +kernel
theorem d_M_paginate_46 : decode b_M_paginate 46 = .ok (.istore_n 2, 1) := by decide +kernel
theorem d_M_paginate_47 : decode b_M_paginate 47 = .ok (.iload_n 2, 1) := by decide +kernel
theorem d_M_paginate_48 : decode b_M_paginate 48 = .ok (.ifCond .ne (16), 3) := by decide +kernel
theorem d_M_paginate_51 : decode b_M_paginate 51 = .ok (.aload_n 0, 1) := by decide +kernel
theorem d_M_paginate_52 : decode b_M_paginate 52 = .ok (.getfield 35, 3) := by decide +kernel
theorem d_M_paginate_55 : decode b_M_paginate 55 = .ok (.iload 4, 2) := by decide +kernel
theorem d_M_paginate_57 : decode b_M_paginate 57 = .ok (.iaload, 1) := by decide +kernel
theorem d_M_paginate_58 : decode b_M_paginate 58 = .ok (.ifCond .ne (6), 3) := by decide +kernel
theorem d_M_paginate_61 : decode b_M_paginate 61 = .ok (.goto (122), 3) := by decide +kernel
theorem d_M_paginate_64 : decode b_M_paginate 64 = .ok (.aload_n 0, 1) := by decide +kernel
theorem d_M_paginate_65 : decode b_M_paginate 65 = .ok (.getfield 38, 3) := by decide +kernel
theorem d_M_paginate_68 : decode b_M_paginate 68 = .ok (.iload 4, 2) := by decide +kernel
theorem d_M_paginate_70 : decode b_M_paginate 70 = .ok (.iaload, 1) := by decide +kernel
theorem d_M_paginate_71 : decode b_M_paginate 71 = .ok (.ifCond .le (91), 3) := by decide +kernel
theorem d_M_paginate_74 : decode b_M_paginate 74 = .ok (.iload_n 2, 1) := by decide +kernel
theorem d_M_paginate_75 : decode b_M_paginate 75 = .ok (.ifCond .le (87), 3) := by decide +kernel
theorem d_M_paginate_78 : decode b_M_paginate 78 = .ok (.iload 4, 2) := by decide +kernel
theorem d_M_paginate_80 : decode b_M_paginate 80 = .ok (.aload_n 0, 1) := by decide +kernel
theorem d_M_paginate_81 : decode b_M_paginate 81 = .ok (.getfield 38, 3) := by decide +kernel
theorem d_M_paginate_84 : decode b_M_paginate 84 = .ok (.iload 4, 2) := by decide +kernel
theorem d_M_paginate_86 : decode b_M_paginate 86 = .ok (.iaload, 1) := by decide +kernel
theorem d_M_paginate_87 : decode b_M_paginate 87 = .ok (.iadd, 1) := by decide +kernel
theorem d_M_paginate_88 : decode b_M_paginate 88 = .ok (.istore 5, 2) := by decide +kernel
theorem d_M_paginate_90 : decode b_M_paginate 90 = .ok (.iload 5, 2) := by decide +kernel
theorem d_M_paginate_92 : decode b_M_paginate 92 = .ok (.aload_n 0, 1) := by decide +kernel
theorem d_M_paginate_93 : decode b_M_paginate 93 = .ok (.getfield 113, 3) := by decide +kernel
theorem d_M_paginate_96 : decode b_M_paginate 96 = .ok (.if_icmp .ge (19), 3) := by decide +kernel
theorem d_M_paginate_99 : decode b_M_paginate 99 = .ok (.aload_n 0, 1) := by decide +kernel
theorem d_M_paginate_100 : decode b_M_paginate 100 = .ok (.getfield 35, 3) := by decide +kernel
theorem d_M_paginate_103 : decode b_M_paginate 103 = .ok (.iload 5, 2) := by decide +kernel
theorem d_M_paginate_105 : decode b_M_paginate 105 = .ok (.iaload, 1) := by decide +kernel
theorem d_M_paginate_106 : decode b_M_paginate 106 = .ok (.ifCond .ne (9), 3) := by decide +kernel
theorem d_M_paginate_109 : decode b_M_paginate 109 = .ok (.iinc 5 (1), 3) := by decide +kernel
theorem d_M_paginate_112 : decode b_M_paginate 112 = .ok (.goto (-22), 3) := by decide +kernel
theorem d_M_paginate_115 : decode b_M_paginate 115 = .ok (.iload 5, 2) := by decide +kernel
theorem d_M_paginate_117 : decode b_M_paginate 117 = .ok (.iload 4, 2) := by decide +kernel
theorem d_M_paginate_119 : decode b_M_paginate 119 = .ok (.isub, 1) := by decide +kernel
theorem d_M_paginate_120 : decode b_M_paginate 120 = .ok (.iload 5, 2) := by decide +kernel
theorem d_M_paginate_122 : decode b_M_paginate 122 = .ok (.aload_n 0, 1) := by decide +kernel
theorem d_M_paginate_123 : decode b_M_paginate 123 = .ok (.getfield 113, 3) := by decide +kernel
theorem d_M_paginate_126 : decode b_M_paginate 126 = .ok (.if_icmp .ge (7), 3) := by decide +kernel
theorem d_M_paginate_129 : decode b_M_paginate 129 = .ok (.iconst 1, 1) := by decide +kernel
theorem d_M_paginate_130 : decode b_M_paginate 130 = .ok (.goto (4), 3) := by decide +kernel
theorem d_M_paginate_133 : decode b_M_paginate 133 = .ok (.iconst 0, 1) := by decide +kernel
theorem d_M_paginate_134 : decode b_M_paginate 134 = .ok (.iadd, 1) := by decide +kernel
theorem d_M_paginate_135 : decode b_M_paginate 135 = .ok (.istore 6, 2) := by decide +kernel
theorem d_M_paginate_137 : decode b_M_paginate 137 = .ok (.iload 6, 2) := by decide +kernel
theorem d_M_paginate_139 : decode b_M_paginate 139 = .ok (.aload_n 0, 1) := by decide +kernel
theorem d_M_paginate_140 : decode b_M_paginate 140 = .ok (.getfield 116, 3) := by decide +kernel
theorem d_M_paginate_143 : decode b_M_paginate 143 = .ok (.if_icmp .gt (19), 3) := by decide +kernel
theorem d_M_paginate_146 : decode b_M_paginate 146 = .ok (.iload 6, 2) := by decide +kernel
theorem d_M_paginate_148 : decode b_M_paginate 148 = .ok (.aload_n 0, 1) := by decide +kernel
theorem d_M_paginate_149 : decode b_M_paginate 149 = .ok (.getfield 116, 3) := by decide +kernel
theorem d_M_paginate_152 : decode b_M_paginate 152 = .ok (.iload_n 2, 1) := by decide +kernel
theorem d_M_paginate_153 : decode b_M_paginate 153 = .ok (.isub, 1) := by decide +kernel
theorem d_M_paginate_154 : decode b_M_paginate 154 = .ok (.if_icmp .le (8), 3) := by decide +kernel
theorem d_M_paginate_157 : decode b_M_paginate 157 = .ok (.iinc 1 (1), 3) := by decide +kernel
theorem d_M_paginate_160 : decode b_M_paginate 160 = .ok (.iconst 0, 1) := by decide +kernel
theorem d_M_paginate_161 : decode b_M_paginate 161 = .ok (.istore_n 2, 1) := by decide +kernel
theorem d_M_paginate_162 : decode b_M_paginate 162 = .ok (.aload_n 0, 1) := by decide +kernel
theorem d_M_paginate_163 : decode b_M_paginate 163 = .ok (.getfield 41, 3) := by decide +kernel
theorem d_M_paginate_166 : decode b_M_paginate 166 = .ok (.iload 4, 2) := by decide +kernel
theorem d_M_paginate_168 : decode b_M_paginate 168 = .ok (.iload_n 1, 1) := by decide +kernel
theorem d_M_paginate_169 : decode b_M_paginate 169 = .ok (.iastore, 1) := by decide +kernel
theorem d_M_paginate_170 : decode b_M_paginate 170 = .ok (.aload_n 0, 1) := by decide +kernel
theorem d_M_paginate_171 : decode b_M_paginate 171 = .ok (.getfield 44, 3) := by decide +kernel
theorem d_M_paginate_174 : decode b_M_paginate 174 = .ok (.iload 4, 2) := by decide +kernel
theorem d_M_paginate_176 : decode b_M_paginate 176 = .ok (.iload_n 2, 1) := by decide +kernel
theorem d_M_paginate_177 : decode b_M_paginate 177 = .ok (.iastore, 1) := by decide +kernel
theorem d_M_paginate_178 : decode b_M_paginate 178 = .ok (.iinc 2 (1), 3) := by decide +kernel
theorem d_M_paginate_181 : decode b_M_paginate 181 = .ok (.iconst 1, 1) := by decide +kernel
theorem d_M_paginate_182 : decode b_M_paginate 182 = .ok (.istore_n 3, 1) := by decide +kernel
theorem d_M_paginate_183 : decode b_M_paginate 183 = .ok (.iinc 4 (1), 3) := by decide +kernel
theorem d_M_paginate_186 : decode b_M_paginate 186 = .ok (.goto (-177), 3) := by decide +kernel
theorem d_M_paginate_189 : decode b_M_paginate 189 = .ok (.iload_n 3, 1) := by decide +kernel
theorem d_M_paginate_190 : decode b_M_paginate 190 = .ok (.ifCond .eq (17), 3) := by decide +kernel
theorem d_M_paginate_193 : decode b_M_paginate 193 = .ok (.iload_n 1, 1) := by decide +kernel
theorem d_M_paginate_194 : decode b_M_paginate 194 = .ok (.iload_n 2, 1) := by decide +kernel
theorem d_M_paginate_195 : decode b_M_paginate 195 = .ok (.ifCond .le (7), 3) := by decide +kernel
theorem d_M_paginate_198 : decode b_M_paginate 198 = .ok (.iconst 1, 1) := by decide +kernel
theorem d_M_paginate_199 : decode b_M_paginate 199 = .ok (.goto (4), 3) := by decide +kernel
theorem d_M_paginate_202 : decode b_M_paginate 202 = .ok (.iconst 0, 1) := by decide +kernel
theorem d_M_paginate_203 : decode b_M_paginate 203 = .ok (.iadd, 1) := by decide +kernel
theorem d_M_paginate_204 : decode b_M_paginate 204 = .ok (.goto (4), 3) := by decide +kernel
theorem d_M_paginate_207 : decode b_M_paginate 207 = .ok (.iconst 1, 1) := by decide +kernel
theorem d_M_paginate_208 : decode b_M_paginate 208 = .ok (.ireturn, 1) := by decide +kernel
theorem d_M_pages_0 : decode b_M_pages 0 = .ok (.aload_n 0, 1) := by decide +kernel
theorem d_M_pages_1 : decode b_M_pages 1 = .ok (.iload_n 1, 1) := by decide +kernel
theorem d_M_pages_2 : decode b_M_pages 2 = .ok (.iconst 5, 1) := by decide +kernel
theorem d_M_pages_3 : decode b_M_pages 3 = .ok (.if_icmp .lt (21), 3) := by decide +kernel
theorem d_M_pages_6 : decode b_M_pages 6 = .ok (.iload_n 1, 1) := by decide +kernel
theorem d_M_pages_7 : decode b_M_pages 7 = .ok (.bipush (40), 2) := by decide +kernel
theorem d_M_pages_9 : decode b_M_pages 9 = .ok (.if_icmp .gt (15), 3) := by decide +kernel
theorem d_M_pages_12 : decode b_M_pages 12 = .ok (.iload_n 2, 1) := by decide +kernel
theorem d_M_pages_13 : decode b_M_pages 13 = .ok (.bipush (8), 2) := by decide +kernel
theorem d_M_pages_15 : decode b_M_pages 15 = .ok (.if_icmp .lt (9), 3) := by decide +kernel
theorem d_M_pages_18 : decode b_M_pages 18 = .ok (.iload_n 2, 1) := by decide +kernel
theorem d_M_pages_19 : decode b_M_pages 19 = .ok (.bipush (60), 2) := by decide +kernel
theorem d_M_pages_21 : decode b_M_pages 21 = .ok (.if_icmp .le (7), 3) := by decide +kernel
theorem d_M_pages_24 : decode b_M_pages 24 = .ok (.iconst 1, 1) := by decide +kernel
theorem d_M_pages_25 : decode b_M_pages 25 = .ok (.goto (4), 3) := by decide +kernel
theorem d_M_pages_28 : decode b_M_pages 28 = .ok (.iconst 0, 1) := by decide +kernel
theorem d_M_pages_29 : decode b_M_pages 29 = .ok (.putfield 97, 3) := by decide +kernel
theorem d_M_pages_32 : decode b_M_pages 32 = .ok (.aload_n 0, 1) := by decide +kernel
theorem d_M_pages_33 : decode b_M_pages 33 = .ok (.getfield 97, 3) := by decide +kernel
theorem d_M_pages_36 : decode b_M_pages 36 = .ok (.ifCond .le (5), 3) := by decide +kernel
theorem d_M_pages_39 : decode b_M_pages 39 = .ok (.iconst 0, 1) := by decide +kernel
theorem d_M_pages_40 : decode b_M_pages 40 = .ok (.ireturn, 1) := by decide +kernel
theorem d_M_pages_41 : decode b_M_pages 41 = .ok (.aload_n 0, 1) := by decide +kernel
end
section
theorem d_M_pages_42 : decode b_M_pages 42 = .ok (.getfield 119, 3) := by decide +kernel
theorem d_M_pages_45 : decode b_M_pages 45 = .ok (.istore_n 3, 1) := by decide +kernel
theorem d_M_pages_46 : decode b_M_pages 46 = .ok (.aload_n 0, 1) := by decide +kernel
theorem d_M_pages_47 : decode b_M_pages 47 = .ok (.iload_n 2, 1) := by decide +kernel
theorem d_M_pages_48 : decode b_M_pages 48 = .ok (.putfield 119, 3) := by decide +kernel
theorem d_M_pages_51 : decode b_M_pages 51 = .ok (.aload_n 0, 1) := by decide +kernel
theorem d_M_pages_52 : decode b_M_pages 52 = .ok (.iconst 1, 1) := by decide +kernel
theorem d_M_pages_53 : decode b_M_pages 53 = .ok (.putfield 162, 3) := by decide +kernel
theorem d_M_pages_56 : decode b_M_pages 56 = .ok (.aload_n 0, 1) := by decide +kernel
theorem d_M_pages_57 : decode b_M_pages 57 = .ok (.invokevirtual 232, 3) := by decide +kernel
theorem d_M_pages_60 : decode b_M_pages 60 = .ok (.aload_n 0, 1) := by decide +kernel
theorem d_M_pages_61 : decode b_M_pages 61 = .ok (.aload_n 0, 1) := by decide +kernel
theorem d_M_pages_62 : decode b_M_pages 62 = .ok (.getfield 159, 3) := by decide +kernel
theorem d_M_pages_65 : decode b_M_pages 65 = .ok (.sipush (1500), 3) := by decide +kernel
theorem d_M_pages_68 : decode b_M_pages 68 = .ok (.if_icmp .le (7), 3) := by decide +kernel
theorem d_M_pages_71 : decode b_M_pages 71 = .ok (.iconst 2, 1) := by decide +kernel
theorem d_M_pages_72 : decode b_M_pages 72 = .ok (.goto (4), 3) := by decide +kernel
theorem d_M_pages_75 : decode b_M_pages 75 = .ok (.iconst 0, 1) := by decide +kernel
theorem d_M_pages_76 : decode b_M_pages 76 = .ok (.putfield 97, 3) := by decide +kernel
theorem d_M_pages_79 : decode b_M_pages 79 = .ok (.aload_n 0, 1) := by decide +kernel
theorem d_M_pages_80 : decode b_M_pages 80 = .ok (.getfield 97, 3) := by decide +kernel
theorem d_M_pages_83 : decode b_M_pages 83 = .ok (.ifCond .le (10), 3) := by decide +kernel
theorem d_M_pages_86 : decode b_M_pages 86 = .ok (.aload_n 0, 1) := by decide +kernel
theorem d_M_pages_87 : decode b_M_pages 87 = .ok (.iload_n 3, 1) := by decide +kernel
theorem d_M_pages_88 : decode b_M_pages 88 = .ok (.putfield 119, 3) := by decide +kernel
theorem d_M_pages_91 : decode b_M_pages 91 = .ok (.iconst 0, 1) := by decide +kernel
theorem d_M_pages_92 : decode b_M_pages 92 = .ok (.ireturn, 1) := by decide +kernel
theorem d_M_pages_93 : decode b_M_pages 93 = .ok (.aload_n 0, 1) := by decide +kernel
theorem d_M_pages_94 : decode b_M_pages 94 = .ok (.iconst 0, 1) := by decide +kernel
theorem d_M_pages_95 : decode b_M_pages 95 = .ok (.putfield 162, 3) := by decide +kernel
theorem d_M_pages_98 : decode b_M_pages 98 = .ok (.aload_n 0, 1) := by decide +kernel
theorem d_M_pages_99 : decode b_M_pages 99 = .ok (.invokevirtual 232, 3) := by decide +kernel
theorem d_M_pages_102 : decode b_M_pages 102 = .ok (.aload_n 0, 1) := by decide +kernel
theorem d_M_pages_103 : decode b_M_pages 103 = .ok (.aload_n 0, 1) := by decide +kernel
theorem d_M_pages_104 : decode b_M_pages 104 = .ok (.getfield 159, 3) := by decide +kernel
theorem d_M_pages_107 : decode b_M_pages 107 = .ok (.putfield 113, 3) := by decide +kernel
theorem d_M_pages_110 : decode b_M_pages 110 = .ok (.aload_n 0, 1) := by decide +kernel
theorem d_M_pages_111 : decode b_M_pages 111 = .ok (.iload_n 1, 1) := by decide +kernel
theorem d_M_pages_112 : decode b_M_pages 112 = .ok (.putfield 116, 3) := by decide +kernel
theorem d_M_pages_115 : decode b_M_pages 115 = .ok (.aload_n 0, 1) := by decide +kernel
theorem d_M_pages_116 : decode b_M_pages 116 = .ok (.aload_n 0, 1) := by decide +kernel
theorem d_M_pages_117 : decode b_M_pages 117 = .ok (.getfield 101, 3) := by decide +kernel
theorem d_M_pages_120 : decode b_M_pages 120 = .ok (.putfield 122, 3) := by decide +kernel
theorem d_M_pages_123 : decode b_M_pages 123 = .ok (.aload_n 0, 1) := by decide +kernel
theorem d_M_pages_124 : decode b_M_pages 124 = .ok (.aload_n 0, 1) := by decide +kernel
theorem d_M_pages_125 : decode b_M_pages 125 = .ok (.invokevirtual 235, 3) := by decide +kernel
theorem d_M_pages_128 : decode b_M_pages 128 = .ok (.putfield 110, 3) := by decide +kernel
theorem d_M_pages_131 : decode b_M_pages 131 = .ok (.iconst 0, 1) := by decide +kernel
theorem d_M_pages_132 : decode b_M_pages 132 = .ok (.istore 4, 2) := by decide +kernel
theorem d_M_pages_134 : decode b_M_pages 134 = .ok (.iload 4, 2) := by decide +kernel
theorem d_M_pages_136 : decode b_M_pages 136 = .ok (.aload_n 0, 1) := by decide +kernel
theorem d_M_pages_137 : decode b_M_pages 137 = .ok (.getfield 101, 3) := by decide +kernel
theorem d_M_pages_140 : decode b_M_pages 140 = .ok (.if_icmp .ge (108), 3) := by decide +kernel
theorem d_M_pages_143 : decode b_M_pages 143 = .ok (.aload_n 0, 1) := by decide +kernel
theorem d_M_pages_144 : decode b_M_pages 144 = .ok (.getfield 58, 3) := by decide +kernel
theorem d_M_pages_147 : decode b_M_pages 147 = .ok (.iload 4, 2) := by decide +kernel
theorem d_M_pages_149 : decode b_M_pages 149 = .ok (.iaload, 1) := by decide +kernel
theorem d_M_pages_150 : decode b_M_pages 150 = .ok (.ifCond .lt (13), 3) := by decide +kernel
theorem d_M_pages_153 : decode b_M_pages 153 = .ok (.aload_n 0, 1) := by decide +kernel
theorem d_M_pages_154 : decode b_M_pages 154 = .ok (.getfield 58, 3) := by decide +kernel
theorem d_M_pages_157 : decode b_M_pages 157 = .ok (.iload 4, 2) := by decide +kernel
theorem d_M_pages_159 : decode b_M_pages 159 = .ok (.iaload, 1) := by decide +kernel
theorem d_M_pages_160 : decode b_M_pages 160 = .ok (.goto (13), 3) := by decide +kernel
theorem d_M_pages_163 : decode b_M_pages 163 = .ok (.bipush (-2), 2) := by decide +kernel
theorem d_M_pages_165 : decode b_M_pages 165 = .ok (.aload_n 0, 1) := by decide +kernel
theorem d_M_pages_166 : decode b_M_pages 166 = .ok (.getfield 58, 3) := by decide +kernel
theorem d_M_pages_169 : decode b_M_pages 169 = .ok (.iload 4, 2) := by decide +kernel
theorem d_M_pages_171 : decode b_M_pages 171 = .ok (.iaload, 1) := by decide +kernel
theorem d_M_pages_172 : decode b_M_pages 172 = .ok (.isub, 1) := by decide +kernel
theorem d_M_pages_173 : decode b_M_pages 173 = .ok (.istore 5, 2) := by decide +kernel
theorem d_M_pages_175 : decode b_M_pages 175 = .ok (.iload 5, 2) := by decide +kernel
theorem d_M_pages_177 : decode b_M_pages 177 = .ok (.aload_n 0, 1) := by decide +kernel
theorem d_M_pages_178 : decode b_M_pages 178 = .ok (.getfield 113, 3) := by decide +kernel
theorem d_M_pages_181 : decode b_M_pages 181 = .ok (.if_icmp .ge (29), 3) := by decide +kernel
theorem d_M_pages_184 : decode b_M_pages 184 = .ok (.aload_n 0, 1) := by decide +kernel
theorem d_M_pages_185 : decode b_M_pages 185 = .ok (.getfield 41, 3) := by decide +kernel
theorem d_M_pages_188 : decode b_M_pages 188 = .ok (.iload 5, 2) := by decide +kernel
theorem d_M_pages_190 : decode b_M_pages 190 = .ok (.iaload, 1) := by decide +kernel
theorem d_M_pages_191 : decode b_M_pages 191 = .ok (.ifCond .lt (13), 3) := by decide +kernel
theorem d_M_pages_194 : decode b_M_pages 194 = .ok (.aload_n 0, 1) := by decide +kernel
theorem d_M_pages_195 : decode b_M_pages 195 = .ok (.getfield 47, 3) := by decide +kernel
theorem d_M_pages_198 : decode b_M_pages 198 = .ok (.iload 5, 2) := by decide +kernel
theorem d_M_pages_200 : decode b_M_pages 200 = .ok (.baload, 1) := by decide +kernel
theorem d_M_pages_201 : decode b_M_pages 201 = .ok (.ifCond .eq (9), 3) := by decide +kernel
theorem d_M_pages_204 : decode b_M_pages 204 = .ok (.iinc 5 (1), 3) := by decide +kernel
theorem d_M_pages_207 : decode b_M_pages 207 = .ok (.goto (-32), 3) := by decide +kernel
theorem d_M_pages_210 : decode b_M_pages 210 = .ok (.aload_n 0, 1) := by decide +kernel
theorem d_M_pages_211 : decode b_M_pages 211 = .ok (.getfield 55, 3) := by decide +kernel
theorem d_M_pages_214 : decode b_M_pages 214 = .ok (.iload 4, 2) := by decide +kernel
theorem d_M_pages_216 : decode b_M_pages 216 = .ok (.iload 5, 2) := by decide +kernel
theorem d_M_pages_218 : decode b_M_pages 218 = .ok (.aload_n 0, 1) := by decide +kernel
theorem d_M_pages_219 : decode b_M_pages 219 = .ok (.getfield 113, 3) := by decide +kernel
theorem d_M_pages_222 : decode b_M_pages 222 = .ok (.if_icmp .ge (13), 3) := by decide +kernel
theorem d_M_pages_225 : decode b_M_pages 225 = .ok (.aload_n 0, 1) := by decide +kernel
theorem d_M_pages_226 : decode b_M_pages 226 = .ok (.getfield 41, 3) := by decide +kernel
theorem d_M_pages_229 : decode b_M_pages 229 = .ok (.iload 5, 2) := by decide +kernel
theorem d_M_pages_231 : decode b_M_pages 231 = .ok (.iaload, 1) := by decide +kernel
theorem d_M_pages_232 : decode b_M_pages 232 = .ok (.goto (9), 3) := by decide +kernel
theorem d_M_pages_235 : decode b_M_pages 235 = .ok (.aload_n 0, 1) := by decide +kernel
theorem d_M_pages_236 : decode b_M_pages 236 = .ok (.getfield 110, 3) := by decide +kernel
theorem d_M_pages_239 : decode b_M_pages 239 = .ok (.iconst 1, 1) := by decide +kernel
theorem d_M_pages_240 : decode b_M_pages 240 = .ok (.isub, 1) := by decide +kernel
theorem d_M_pages_241 : decode b_M_pages 241 = .ok (.iastore, 1) := by decide +kernel
theorem d_M_pages_242 : decode b_M_pages 242 = .ok (.iinc 4 (1), 3) := by decide +kernel
theorem d_M_pages_245 : decode b_M_pages 245 = .ok (.goto (-111), 3) := by decide +kernel
theorem d_M_pages_248 : decode b_M_pages 248 = .ok (.aload_n 0, 1) := by decide +kernel
theorem d_M_pages_249 : decode b_M_pages 249 = .ok (.getfield 110, 3) := by decide +kernel
theorem d_M_pages_252 : decode b_M_pages 252 = .ok (.ireturn, 1) := by decide +kernel
theorem d_M_cell_0 : decode b_M_cell 0 = .ok (.aload_n 0, 1) := by decide +kernel
theorem d_M_cell_1 : decode b_M_cell 1 = .ok (.iconst 0, 1) := by decide +kernel
theorem d_M_cell_2 : decode b_M_cell 2 = .ok (.putfield 97, 3) := by decide +kernel
theorem d_M_cell_5 : decode b_M_cell 5 = .ok (.iload_n 1, 1) := by decide +kernel
theorem d_M_cell_6 : decode b_M_cell 6 = .ok (.ifCond .lt (35), 3) := by decide +kernel
theorem d_M_cell_9 : decode b_M_cell 9 = .ok (.iload_n 1, 1) := by decide +kernel
theorem d_M_cell_10 : decode b_M_cell 10 = .ok (.aload_n 0, 1) := by decide +kernel
theorem d_M_cell_11 : decode b_M_cell 11 = .ok (.getfield 110, 3) := by decide +kernel
theorem d_M_cell_14 : decode b_M_cell 14 = .ok (.if_icmp .ge (27), 3) := by decide +kernel
theorem d_M_cell_17 : decode b_M_cell 17 = .ok (.iload_n 2, 1) := by decide +kernel
theorem d_M_cell_18 : decode b_M_cell 18 = .ok (.ifCond .lt (23), 3) := by decide +kernel
theorem d_M_cell_21 : decode b_M_cell 21 = .ok (.iload_n 2, 1) := by decide +kernel
theorem d_M_cell_22 : decode b_M_cell 22 = .ok (.aload_n 0, 1) := by decide +kernel
theorem d_M_cell_23 : decode b_M_cell 23 = .ok (.getfield 116, 3) := by decide +kernel
theorem d_M_cell_26 : decode b_M_cell 26 = .ok (.if_icmp .ge (15), 3) := by decide +kernel
theorem d_M_cell_29 : decode b_M_cell 29 = .ok (.iload_n 3, 1) := by decide +kernel
theorem d_M_cell_30 : decode b_M_cell 30 = .ok (.ifCond .lt (11), 3) := by decide +kernel
theorem d_M_cell_33 : decode b_M_cell 33 = .ok (.iload_n 3, 1) := by decide +kernel
theorem d_M_cell_34 : decode b_M_cell 34 = .ok (.aload_n 0, 1) := by decide +kernel
theorem d_M_cell_35 : decode b_M_cell 35 = .ok (.getfield 119, 3) := by decide +kernel
theorem d_M_cell_38 : decode b_M_cell 38 = .ok (.if_icmp .lt (5), 3) := by decide +kernel
theorem d_M_cell_41 : decode b_M_cell 41 = .ok (.iconst (-1), 1) := by decide +kernel
theorem d_M_cell_42 : decode b_M_cell 42 = .ok (.ireturn, 1) := by decide +kernel
theorem d_M_cell_43 : decode b_M_cell 43 = .ok (.bipush (32), 2) := by decide +kernel
theorem d_M_cell_45 : decode b_M_cell 45 = .ok (.istore 4, 2) := by decide +kernel
theorem d_M_cell_47 : decode b_M_cell 47 = .ok (.iconst 0, 1) := by decide +kernel
theorem d_M_cell_48 : decode b_M_cell 48 = .ok (.istore 5, 2) := by decide +kernel
theorem d_M_cell_50 : decode b_M_cell 50 = .ok (.iload 5, 2) := by decide +kernel
theorem d_M_cell_52 : decode b_M_cell 52 = .ok (.aload_n 0, 1) := by decide +kernel
theorem d_M_cell_53 : decode b_M_cell 53 = .ok (.getfield 113, 3) := by decide +kernel
theorem d_M_cell_56 : decode b_M_cell 56 = .ok (.if_icmp .ge (54), 3) := by decide +kernel
theorem d_M_cell_59 : decode b_M_cell 59 = .ok (.aload_n 0, 1) := by decide +kernel
theorem d_M_cell_60 : decode b_M_cell 60 = .ok (.getfield 41, 3) := by decide +kernel
theorem d_M_cell_63 : decode b_M_cell 63 = .ok (.iload 5, 2) := by decide +kernel
theorem d_M_cell_65 : decode b_M_cell 65 = .ok (.iaload, 1) := by decide +kernel
theorem d_M_cell_66 : decode b_M_cell 66 = .ok (.iload_n 1, 1) := by decide +kernel
theorem d_M_cell_67 : decode b_M_cell 67 = .ok (.if_icmp .ne (33), 3) := by decide +kernel
theorem d_M_cell_70 : decode b_M_cell 70 = .ok (.aload_n 0, 1) := by decide +kernel
theorem d_M_cell_71 : decode b_M_cell 71 = .ok (.getfield 44, 3) := by decide +kernel
theorem d_M_cell_74 : decode b_M_cell 74 = .ok (.iload 5, 2) := by decide +kernel
theorem d_M_cell_76 : decode b_M_cell 76 = .ok (.iaload, 1) := by decide +kernel
theorem d_M_cell_77 : decode b_M_cell 77 = .ok (.iload_n 2, 1) := by decide +kernel
theorem d_M_cell_78 : decode b_M_cell 78 = .ok (.if_icmp .ne (22), 3) := by decide +kernel
theorem d_M_cell_81 : decode b_M_cell 81 = .ok (.aload_n 0, 1) := by decide +kernel
theorem d_M_cell_82 : decode b_M_cell 82 = .ok (.getfield 52, 3) := by decide +kernel
theorem d_M_cell_85 : decode b_M_cell 85 = .ok (.bipush (60), 2) := by decide +kernel
theorem d_M_cell_87 : decode b_M_cell 87 = .ok (.iload 5, 2) := by decide +kernel
theorem d_M_cell_89 : decode b_M_cell 89 = .ok (.imul, 1) := by decide +kernel
theorem d_M_cell_90 : decode b_M_cell 90 = .ok (.iload_n 3, 1) := by decide +kernel
theorem d_M_cell_91 : decode b_M_cell 91 = .ok (.iadd, 1) := by decide +kernel
theorem d_M_cell_92 : decode b_M_cell 92 = .ok (.baload, 1) := by decide +kernel
theorem d_M_cell_93 : decode b_M_cell 93 = .ok (.sipush (255), 3) := by decide +kernel
theorem d_M_cell_96 : decode b_M_cell 96 = .ok (.iand, 1) := by decide +kernel
theorem d_M_cell_97 : decode b_M_cell 97 = .ok (.goto (5), 3) := by decide +kernel
theorem d_M_cell_100 : decode b_M_cell 100 = .ok (.iload 4, 2) := by decide +kernel
theorem d_M_cell_102 : decode b_M_cell 102 = .ok (.istore 4, 2) := by decide +kernel
theorem d_M_cell_104 : decode b_M_cell 104 = .ok (.iinc 5 (1), 3) := by decide +kernel
theorem d_M_cell_107 : decode b_M_cell 107 = .ok (.goto (-57), 3) := by decide +kernel
theorem d_M_cell_110 : decode b_M_cell 110 = .ok (.iload 4, 2) := by decide +kernel
theorem d_M_cell_112 : decode b_M_cell 112 = .ok (.ireturn, 1) := by decide +kernel
theorem d_M_page_0 : decode b_M_page 0 = .ok (.aload_n 0, 1) := by decide +kernel
theorem d_M_page_1 : decode b_M_page 1 = .ok (.iconst 0, 1) := by decide +kernel
theorem d_M_page_2 : decode b_M_page 2 = .ok (.putfield 97, 3) := by decide +kernel
theorem d_M_page_5 : decode b_M_page 5 = .ok (.iload_n 1, 1) := by decide +kernel
theorem d_M_page_6 : decode b_M_page 6 = .ok (.ifCond .lt (20), 3) := by decide +kernel
theorem d_M_page_9 : decode b_M_page 9 = .ok (.iload_n 1, 1) := by decide +kernel
theorem d_M_page_10 : decode b_M_page 10 = .ok (.aload_n 0, 1) := by decide +kernel
theorem d_M_page_11 : decode b_M_page 11 = .ok (.getfield 110, 3) := by decide +kernel
theorem d_M_page_14 : decode b_M_page 14 = .ok (.if_icmp .ge (12), 3) := by decide +kernel
theorem d_M_page_17 : decode b_M_page 17 = .ok (.iload_n 2, 1) := by decide +kernel
theorem d_M_page_18 : decode b_M_page 18 = .ok (.ifCond .lt (8), 3) := by decide +kernel
theorem d_M_page_21 : decode b_M_page 21 = .ok (.iload_n 2, 1) := by decide +kernel
theorem d_M_page_22 : decode b_M_page 22 = .ok (.iconst 1, 1) := by decide +kernel
theorem d_M_page_23 : decode b_M_page 23 = .ok (.if_icmp .le (5), 3) := by decide +kernel
theorem d_M_page_26 : decode b_M_page 26 = .ok (.iconst (-1), 1) := by decide +kernel
theorem d_M_page_27 : decode b_M_page 27 = .ok (.ireturn, 1) := by decide +kernel
theorem d_M_page_28 : decode b_M_page 28 = .ok (.iconst 0, 1) := by decide +kernel
theorem d_M_page_29 : decode b_M_page 29 = .ok (.istore_n 3, 1) := by decide +kernel
theorem d_M_page_30 : decode b_M_page 30 = .ok (.aload_n 0, 1) := by decide +kernel
theorem d_M_page_31 : decode b_M_page 31 = .ok (.getfield 113, 3) := by decide +kernel
theorem d_M_page_34 : decode b_M_page 34 = .ok (.istore 4, 2) := by decide +kernel
theorem d_M_page_36 : decode b_M_page 36 = .ok (.aload_n 0, 1) := by decide +kernel
theorem d_M_page_37 : decode b_M_page 37 = .ok (.getfield 113, 3) := by decide +kernel
theorem d_M_page_40 : decode b_M_page 40 = .ok (.iconst 1, 1) := by decide +kernel
theorem d_M_page_41 : decode b_M_page 41 = .ok (.isub, 1) := by decide +kernel
theorem d_M_page_42 : decode b_M_page 42 = .ok (.istore 5, 2) := by decide +kernel
theorem d_M_page_44 : decode b_M_page 44 = .ok (.iload 5, 2) := by decide +kernel
theorem d_M_page_46 : decode b_M_page 46 = .ok (.ifCond .lt (30), 3) := by decide +kernel
theorem d_M_page_49 : decode b_M_page 49 = .ok (.aload_n 0, 1) := by decide +kernel
theorem d_M_page_50 : decode b_M_page 50 = .ok (.getfield 41, 3) := by decide +kernel
theorem d_M_page_53 : decode b_M_page 53 = .ok (.iload 5, 2) := by decide +kernel
theorem d_M_page_55 : decode b_M_page 55 = .ok (.iaload, 1) := by decide +kernel
theorem d_M_page_56 : decode b_M_page 56 = .ok (.iload_n 1, 1) := by decide +kernel
theorem d_M_page_57 : decode b_M_page 57 = .ok (.if_icmp .eq (6), 3) := by decide +kernel
theorem d_M_page_60 : decode b_M_page 60 = .ok (.goto (10), 3) := by decide +kernel
theorem d_M_page_63 : decode b_M_page 63 = .ok (.iinc 3 (1), 3) := by decide +kernel
theorem d_M_page_66 : decode b_M_page 66 = .ok (.iload 5, 2) := by decide +kernel
theorem d_M_page_68 : decode b_M_page 68 = .ok (.istore 4, 2) := by decide +kernel
theorem d_M_page_70 : decode b_M_page 70 = .ok (.iinc 5 (-1), 3) := by decide +kernel
theorem d_M_page_73 : decode b_M_page 73 = .ok (.goto (-29), 3) := by decide +kernel
theorem d_M_page_76 : decode b_M_page 76 = .ok (.iload_n 2, 1) := by decide +kernel
theorem d_M_page_77 : decode b_M_page 77 = .ok (.ifCond .ne (7), 3) := by decide +kernel
theorem d_M_page_80 : decode b_M_page 80 = .ok (.iload_n 3, 1) := by decide +kernel
theorem d_M_page_81 : decode b_M_page 81 = .ok (.goto (5), 3) := by decide +kernel
theorem d_M_page_84 : decode b_M_page 84 = .ok (.iload 4, 2) := by decide +kernel
theorem d_M_page_86 : decode b_M_page 86 = .ok (.ireturn, 1) := by decide +kernel
theorem d_M_line_0 : decode b_M_line 0 = .ok (.aload_n 0, 1) := by decide +kernel
theorem d_M_line_1 : decode b_M_line 1 = .ok (.iconst 0, 1) := by decide +kernel
theorem d_M_line_2 : decode b_M_line 2 = .ok (.putfield 97, 3) := by decide +kernel
theorem d_M_line_5 : decode b_M_line 5 = .ok (.iload_n 1, 1) := by decide +kernel
theorem d_M_line_6 : decode b_M_line 6 = .ok (.ifCond .lt (11), 3) := by decide +kernel
theorem d_M_line_9 : decode b_M_line 9 = .ok (.iload_n 1, 1) := by decide +kernel
theorem d_M_line_10 : decode b_M_line 10 = .ok (.aload_n 0, 1) := by decide +kernel
theorem d_M_line_11 : decode b_M_line 11 = .ok (.getfield 113, 3) := by decide +kernel
theorem d_M_line_14 : decode b_M_line 14 = .ok (.if_icmp .lt (5), 3) := by decide +kernel
theorem d_M_line_17 : decode b_M_line 17 = .ok (.iconst (-1), 1) := by decide +kernel
theorem d_M_line_18 : decode b_M_line 18 = .ok (.ireturn, 1) := by decide +kernel
theorem d_M_line_19 : decode b_M_line 19 = .ok (.iload_n 2, 1) := by decide +kernel
theorem d_M_line_20 : decode b_M_line 20 = .ok (.ifCond .ne (12), 3) := by decide +kernel
theorem d_M_line_23 : decode b_M_line 23 = .ok (.aload_n 0, 1) := by decide +kernel
theorem d_M_line_24 : decode b_M_line 24 = .ok (.getfield 35, 3) := by decide +kernel
theorem d_M_line_27 : decode b_M_line 27 = .ok (.iload_n 1, 1) := by decide +kernel
theorem d_M_line_28 : decode b_M_line 28 = .ok (.iaload, 1) := by decide +kernel
theorem d_M_line_29 : decode b_M_line 29 = .ok (.goto (40), 3) := by decide +kernel
theorem d_M_line_32 : decode b_M_line 32 = .ok (.iload_n 2, 1) := by decide +kernel
theorem d_M_line_33 : decode b_M_line 33 = .ok (.iconst 1, 1) := by decide +kernel
theorem d_M_line_34 : decode b_M_line 34 = .ok (.if_icmp .ne (12), 3) := by decide +kernel
theorem d_M_line_37 : decode b_M_line 37 = .ok (.aload_n 0, 1) := by decide +kernel
theorem d_M_line_38 : decode b_M_line 38 = .ok (.getfield 41, 3) := by decide +kernel
theorem d_M_line_41 : decode b_M_line 41 = .ok (.iload_n 1, 1) := by decide +kernel
theorem d_M_line_42 : decode b_M_line 42 = .ok (.iaload, 1) := by decide +kernel
theorem d_M_line_43 : decode b_M_line 43 = .ok (.goto (26), 3) := by decide +kernel
theorem d_M_line_46 : decode b_M_line 46 = .ok (.iload_n 2, 1) := by decide +kernel
theorem d_M_line_47 : decode b_M_line 47 = .ok (.iconst 2, 1) := by decide +kernel
theorem d_M_line_48 : decode b_M_line 48 = .ok (.if_icmp .ne (20), 3) := by decide +kernel
theorem d_M_line_51 : decode b_M_line 51 = .ok (.aload_n 0, 1) := by decide +kernel
theorem d_M_line_52 : decode b_M_line 52 = .ok (.getfield 38, 3) := by decide +kernel
theorem d_M_line_55 : decode b_M_line 55 = .ok (.iload_n 1, 1) := by decide +kernel
theorem d_M_line_56 : decode b_M_line 56 = .ok (.iaload, 1) := by decide +kernel
theorem d_M_line_57 : decode b_M_line 57 = .ok (.ifCond .le (7), 3) := by decide +kernel
theorem d_M_line_60 : decode b_M_line 60 = .ok (.iconst 1, 1) := by decide +kernel
theorem d_M_line_61 : decode b_M_line 61 = .ok (.goto (8), 3) := by decide +kernel
theorem d_M_line_64 : decode b_M_line 64 = .ok (.iconst 0, 1) := by decide +kernel
theorem d_M_line_65 : decode b_M_line 65 = .ok (.goto (4), 3) := by decide +kernel
theorem d_M_line_68 : decode b_M_line 68 = .ok (.iconst (-1), 1) := by decide +kernel
theorem d_M_line_69 : decode b_M_line 69 = .ok (.ireturn, 1) := by decide +kernel
theorem d_M_find_0 : decode b_M_find 0 = .ok (.aload_n 0, 1) := by decide +kernel
theorem d_M_find_1 : decode b_M_find 1 = .ok (.iconst 0, 1) := by decide +kernel
theorem d_M_find_2 : decode b_M_find 2 = .ok (.putfield 97, 3) := by decide +kernel
theorem d_M_find_5 : decode b_M_find 5 = .ok (.iload_n 1, 1) := by decide +kernel
theorem d_M_find_6 : decode b_M_find 6 = .ok (.ifCond .lt (20), 3) := by decide +kernel
theorem d_M_find_9 : decode b_M_find 9 = .ok (.iload_n 1, 1) := by decide +kernel
theorem d_M_find_10 : decode b_M_find 10 = .ok (.aload_n 0, 1) := by decide +kernel
theorem d_M_find_11 : decode b_M_find 11 = .ok (.getfield 122, 3) := by decide +kernel
theorem d_M_find_14 : decode b_M_find 14 = .ok (.if_icmp .ge (12), 3) := by decide +kernel
theorem d_M_find_17 : decode b_M_find 17 = .ok (.aload_n 0, 1) := by decide +kernel
theorem d_M_find_18 : decode b_M_find 18 = .ok (.getfield 55, 3) := by decide +kernel
theorem d_M_find_21 : decode b_M_find 21 = .ok (.iload_n 1, 1) := by decide +kernel
theorem d_M_find_22 : decode b_M_find 22 = .ok (.iaload, 1) := by decide +kernel
theorem d_M_find_23 : decode b_M_find 23 = .ok (.goto (4), 3) := by decide +kernel
theorem d_M_find_26 : decode b_M_find 26 = .ok (.iconst (-1), 1) := by decide +kernel
theorem d_M_find_27 : decode b_M_find 27 = .ok (.ireturn, 1) := by decide +kernel
theorem d_M_node_0 : decode b_M_node 0 = .ok (.aload_n 0, 1) := by decide +kernel
theorem d_M_node_1 : decode b_M_node 1 = .ok (.iconst 0, 1) := by decide +kernel
theorem d_M_node_2 : decode b_M_node 2 = .ok (.putfield 97, 3) := by decide +kernel
theorem d_M_node_5 : decode b_M_node 5 = .ok (.iload_n 1, 1) := by decide +kernel
theorem d_M_node_6 : decode b_M_node 6 = .ok (.ifCond .lt (11), 3) := by decide +kernel
theorem d_M_node_9 : decode b_M_node 9 = .ok (.iload_n 1, 1) := by decide +kernel
theorem d_M_node_10 : decode b_M_node 10 = .ok (.aload_n 0, 1) := by decide +kernel
theorem d_M_node_11 : decode b_M_node 11 = .ok (.getfield 101, 3) := by decide +kernel
theorem d_M_node_14 : decode b_M_node 14 = .ok (.if_icmp .lt (5), 3) := by decide +kernel
theorem d_M_node_17 : decode b_M_node 17 = .ok (.iconst (-1), 1) := by decide +kernel
theorem d_M_node_18 : decode b_M_node 18 = .ok (.ireturn, 1) := by decide +kernel
theorem d_M_node_19 : decode b_M_node 19 = .ok (.iload_n 2, 1) := by decide +kernel
theorem d_M_node_20 : decode b_M_node 20 = .ok (.tableswitch (84) (0) (2) #[28, 50, 57], 28) := by decide +kernel
theorem d_M_node_48 : decode b_M_node 48 = .ok (.aload_n 0, 1) := by decide +kernel
theorem d_M_node_49 : decode b_M_node 49 = .ok (.getfield 7, 3) := by decide +kernel
theorem d_M_node_52 : decode b_M_node 52 = .ok (.iload_n 1, 1) := by decide +kernel
theorem d_M_node_53 : decode b_M_node 53 = .ok (.iaload, 1) := by decide +kernel
theorem d_M_node_54 : decode b_M_node 54 = .ok (.bipush (11), 2) := by decide +kernel
theorem d_M_node_56 : decode b_M_node 56 = .ok (.if_icmp .ne (7), 3) := by decide +kernel
theorem d_M_node_59 : decode b_M_node 59 = .ok (.iconst (-1), 1) := by decide +kernel
theorem d_M_node_60 : decode b_M_node 60 = .ok (.goto (9), 3) := by decide +kernel
theorem d_M_node_63 : decode b_M_node 63 = .ok (.aload_n 0, 1) := by decide +kernel
theorem d_M_node_64 : decode b_M_node 64 = .ok (.getfield 7, 3) := by decide +kernel
theorem d_M_node_67 : decode b_M_node 67 = .ok (.iload_n 1, 1) := by decide +kernel
theorem d_M_node_68 : decode b_M_node 68 = .ok (.iaload, 1) := by decide +kernel
theorem d_M_node_69 : decode b_M_node 69 = .ok (.ireturn, 1) := by decide +kernel
theorem d_M_node_70 : decode b_M_node 70 = .ok (.aload_n 0, 1) := by decide +kernel
theorem d_M_node_71 : decode b_M_node 71 = .ok (.getfield 13, 3) := by decide +kernel
theorem d_M_node_74 : decode b_M_node 74 = .ok (.iload_n 1, 1) := by decide +kernel
theorem d_M_node_75 : decode b_M_node 75 = .ok (.iaload, 1) := by decide +kernel
theorem d_M_node_76 : decode b_M_node 76 = .ok (.ireturn, 1) := by decide +kernel
theorem d_M_node_77 : decode b_M_node 77 = .ok (.aload_n 0, 1) := by decide +kernel
theorem d_M_node_78 : decode b_M_node 78 = .ok (.getfield 7, 3) := by decide +kernel
theorem d_M_node_81 : decode b_M_node 81 = .ok (.iload_n 1, 1) := by decide +kernel
theorem d_M_node_82 : decode b_M_node 82 = .ok (.iaload, 1) := by decide +kernel
theorem d_M_node_83 : decode b_M_node 83 = .ok (.bipush (10), 2) := by decide +kernel
theorem d_M_node_85 : decode b_M_node 85 = .ok (.if_icmp .ne (12), 3) := by decide +kernel
theorem d_M_node_88 : decode b_M_node 88 = .ok (.aload_n 0, 1) := by decide +kernel
theorem d_M_node_89 : decode b_M_node 89 = .ok (.getfield 25, 3) := by decide +kernel
theorem d_M_node_92 : decode b_M_node 92 = .ok (.iload_n 1, 1) := by decide +kernel
theorem d_M_node_93 : decode b_M_node 93 = .ok (.iaload, 1) := by decide +kernel
theorem d_M_node_94 : decode b_M_node 94 = .ok (.goto (9), 3) := by decide +kernel
theorem d_M_node_97 : decode b_M_node 97 = .ok (.aload_n 0, 1) := by decide +kernel
theorem d_M_node_98 : decode b_M_node 98 = .ok (.getfield 16, 3) := by decide +kernel
theorem d_M_node_101 : decode b_M_node 101 = .ok (.iload_n 1, 1) := by decide +kernel
theorem d_M_node_102 : decode b_M_node 102 = .ok (.iaload, 1) := by decide +kernel
theorem d_M_node_103 : decode b_M_node 103 = .ok (.ireturn, 1) := by decide +kernel
theorem d_M_node_104 : decode b_M_node 104 = .ok (.iconst (-1), 1) := by decide +kernel
theorem d_M_node_105 : decode b_M_node 105 = .ok (.ireturn, 1) := by decide +kernel
theorem d_M_about_0 : decode b_M_about 0 = .ok (.aload_n 0, 1) := by decide +kernel
theorem d_M_about_1 : decode b_M_about 1 = .ok (.iconst 0, 1) := by decide +kernel
theorem d_M_about_2 : decode b_M_about 2 = .ok (.putfield 97, 3) := by decide +kernel
theorem d_M_about_5 : decode b_M_about 5 = .ok (.iload_n 1, 1) := by decide +kernel
theorem d_M_about_6 : decode b_M_about 6 = .ok (.tableswitch (99) (0) (6) #[42, 47, 52, 57, 62, 78, 83], 42) := by decide +kernel
theorem d_M_about_48 : decode b_M_about 48 = .ok (.aload_n 0, 1) := by decide +kernel
theorem d_M_about_49 : decode b_M_about 49 = .ok (.getfield 101, 3) := by decide +kernel
theorem d_M_about_52 : decode b_M_about 52 = .ok (.ireturn, 1) := by decide +kernel
theorem d_M_about_53 : decode b_M_about 53 = .ok (.aload_n 0, 1) := by decide +kernel
theorem d_M_about_54 : decode b_M_about 54 = .ok (.getfield 104, 3) := by decide +kernel
theorem d_M_about_57 : decode b_M_about 57 = .ok (.ireturn, 1) := by decide +kernel
theorem d_M_about_58 : decode b_M_about 58 = .ok (.aload_n 0, 1) := by decide +kernel
theorem d_M_about_59 : decode b_M_about 59 = .ok (.getfield 107, 3) := by decide +kernel
theorem d_M_about_62 : decode b_M_about 62 = .ok (.ireturn, 1) := by decide +kernel
theorem d_M_about_63 : decode b_M_about 63 = .ok (.aload_n 0, 1) := by decide +kernel
theorem d_M_about_64 : decode b_M_about 64 = .ok (.getfield 110, 3) := by decide +kernel
theorem d_M_about_67 : decode b_M_about 67 = .ok (.ireturn, 1) := by decide +kernel
theorem d_M_about_68 : decode b_M_about 68 = .ok (.aload_n 0, 1) := by decide +kernel
theorem d_M_about_69 : decode b_M_about 69 = .ok (.getfield 110, 3) := by decide +kernel
theorem d_M_about_72 : decode b_M_about 72 = .ok (.ifCond .le (10), 3) := by decide +kernel
theorem d_M_about_75 : decode b_M_about 75 = .ok (.aload_n 0, 1) := by decide +kernel
theorem d_M_about_76 : decode b_M_about 76 = .ok (.getfield 113, 3) := by decide +kernel
theorem d_M_about_79 : decode b_M_about 79 = .ok (.goto (4), 3) := by decide +kernel
theorem d_M_about_82 : decode b_M_about 82 = .ok (.iconst 0, 1) := by decide +kernel
theorem d_M_about_83 : decode b_M_about 83 = .ok (.ireturn, 1) := by decide +kernel
theorem d_M_about_84 : decode b_M_about 84 = .ok (.aload_n 0, 1) := by decide +kernel
theorem d_M_about_85 : decode b_M_about 85 = .ok (.getfield 116, 3) := by decide +kernel
theorem d_M_about_88 : decode b_M_about 88 = .ok (.ireturn, 1) := by decide +kernel
theorem d_M_about_89 : decode b_M_about 89 = .ok (.aload_n 0, 1) := by decide +kernel
theorem d_M_about_90 : decode b_M_about 90 = .ok (.getfield 110, 3) := by decide +kernel
theorem d_M_about_93 : decode b_M_about 93 = .ok (.ifCond .le (10), 3) := by decide +kernel
theorem d_M_about_96 : decode b_M_about 96 = .ok (.aload_n 0, 1) := by decide +kernel
theorem d_M_about_97 : decode b_M_about 97 = .ok (.getfield 119, 3) := by decide +kernel
theorem d_M_about_100 : decode b_M_about 100 = .ok (.goto (4), 3) := by decide +kernel
theorem d_M_about_103 : decode b_M_about 103 = .ok (.iconst 0, 1) := by decide +kernel
theorem d_M_about_104 : decode b_M_about 104 = .ok (.ireturn, 1) := by decide +kernel
theorem d_M_about_105 : decode b_M_about 105 = .ok (.iconst (-1), 1) := by decide +kernel
theorem d_M_about_106 : decode b_M_about 106 = .ok (.ireturn, 1) := by decide +kernel
theorem d_N_init_0 : decode b_N_init 0 = .ok (.aload_n 0, 1) := by decide +kernel
theorem d_N_init_1 : decode b_N_init 1 = .ok (.invokespecial 3, 3) := by decide +kernel
theorem d_N_init_4 : decode b_N_init 4 = .ok (.aload_n 0, 1) := by decide +kernel
theorem d_N_init_5 : decode b_N_init 5 = .ok (.iconst (-1), 1) := by decide +kernel
theorem d_N_init_6 : decode b_N_init 6 = .ok (.putfield 9, 3) := by decide +kernel
theorem d_N_init_9 : decode b_N_init 9 = .ok (.aload_n 0, 1) := by decide +kernel
theorem d_N_init_10 : decode b_N_init 10 = .ok (.iload_n 1, 1) := by decide +kernel
theorem d_N_init_11 : decode b_N_init 11 = .ok (.putfield 15, 3) := by decide +kernel
theorem d_N_init_14 : decode b_N_init 14 = .ok (.aload_n 0, 1) := by decide +kernel
theorem d_N_init_15 : decode b_N_init 15 = .ok (.iload_n 2, 1) := by decide +kernel
theorem d_N_init_16 : decode b_N_init 16 = .ok (.putfield 18, 3) := by decide +kernel
theorem d_N_init_19 : decode b_N_init 19 = .ok (.aload_n 0, 1) := by decide +kernel
theorem d_N_init_20 : decode b_N_init 20 = .ok (.iload_n 3, 1) := by decide +kernel
theorem d_N_init_21 : decode b_N_init 21 = .ok (.putfield 21, 3) := by decide +kernel
theorem d_N_init_24 : decode b_N_init 24 = .ok (.aload_n 0, 1) := by decide +kernel
theorem d_N_init_25 : decode b_N_init 25 = .ok (.aload 4, 2) := by decide +kernel
theorem d_N_init_27 : decode b_N_init 27 = .ok (.putfield 24, 3) := by decide +kernel
theorem d_N_init_30 : decode b_N_init 30 = .ok (.aload_n 0, 1) := by decide +kernel
theorem d_N_init_31 : decode b_N_init 31 = .ok (.aload 4, 2) := by decide +kernel
theorem d_N_init_33 : decode b_N_init 33 = .ok (.ifnonnull (7), 3) := by decide +kernel
theorem d_N_init_36 : decode b_N_init 36 = .ok (.iconst 1, 1) := by decide +kernel
theorem d_N_init_37 : decode b_N_init 37 = .ok (.goto (10), 3) := by decide +kernel
theorem d_N_init_40 : decode b_N_init 40 = .ok (.aload 4, 2) := by decide +kernel
theorem d_N_init_42 : decode b_N_init 42 = .ok (.getfield 28, 3) := by decide +kernel
theorem d_N_init_45 : decode b_N_init 45 = .ok (.iconst 1, 1) := by decide +kernel
theorem d_N_init_46 : decode b_N_init 46 = .ok (.iadd, 1) := by decide +kernel
theorem d_N_init_47 : decode b_N_init 47 = .ok (.putfield 28, 3) := by decide +kernel
theorem d_N_init_50 : decode b_N_init 50 = .ok (.aload_n 0, 1) := by decide +kernel
theorem d_N_init_51 : decode b_N_init 51 = .ok (.iload 5, 2) := by decide +kernel
theorem d_N_init_53 : decode b_N_init 53 = .ok (.putfield 31, 3) := by decide +kernel
theorem d_N_init_56 : decode b_N_init 56 = .ok (.aload_n 0, 1) := by decide +kernel
theorem d_N_init_57 : decode b_N_init 57 = .ok (.iload 5, 2) := by decide +kernel
theorem d_N_init_59 : decode b_N_init 59 = .ok (.putfield 34, 3) := by decide +kernel
theorem d_N_init_62 : decode b_N_init 62 = .ok (.return_, 1) := by decide +kernel
theorem d_N_isInline_0 : decode b_N_isInline 0 = .ok (.aload_n 0, 1) := by decide +kernel
theorem d_N_isInline_1 : decode b_N_isInline 1 = .ok (.getfield 18, 3) := by decide +kernel
theorem d_N_isInline_4 : decode b_N_isInline 4 = .ok (.sipush (1792), 3) := by decide +kernel
theorem d_N_isInline_7 : decode b_N_isInline 7 = .ok (.invokestatic 37, 3) := by decide +kernel
theorem d_N_isInline_10 : decode b_N_isInline 10 = .ok (.ireturn, 1) := by decide +kernel
theorem d_N_mayHold_0 : decode b_N_mayHold 0 = .ok (.aload_n 0, 1) := by decide +kernel
theorem d_N_mayHold_1 : decode b_N_mayHold 1 = .ok (.getfield 18, 3) := by decide +kernel
theorem d_N_mayHold_4 : decode b_N_mayHold 4 = .ok (.tableswitch (103) (-1) (8) #[56, 83, 83, 103, 91, 56, 63, 63, 75, 83], 56) := by decide +kernel
theorem d_N_mayHold_60 : decode b_N_mayHold 60 = .ok (.iload_n 1, 1) := by decide +kernel
end
section
theorem d_N_mayHold_61 : decode b_N_mayHold 61 = .ok (.bipush (127), 2) := by decide +kernel
theorem d_N_mayHold_63 : decode b_N_mayHold 63 = .ok (.invokestatic 37, 3) := by decide +kernel
theorem d_N_mayHold_66 : decode b_N_mayHold 66 = .ok (.ireturn, 1) := by decide +kernel
theorem d_N_mayHold_67 : decode b_N_mayHold 67 = .ok (.iload_n 1, 1) := by decide +kernel
theorem d_N_mayHold_68 : decode b_N_mayHold 68 = .ok (.bipush (7), 2) := by decide +kernel
theorem d_N_mayHold_70 : decode b_N_mayHold 70 = .ok (.if_icmp .ne (7), 3) := by decide +kernel
theorem d_N_mayHold_73 : decode b_N_mayHold 73 = .ok (.iconst 1, 1) := by decide +kernel
theorem d_N_mayHold_74 : decode b_N_mayHold 74 = .ok (.goto (4), 3) := by decide +kernel
theorem d_N_mayHold_77 : decode b_N_mayHold 77 = .ok (.iconst 0, 1) := by decide +kernel
theorem d_N_mayHold_78 : decode b_N_mayHold 78 = .ok (.ireturn, 1) := by decide +kernel
theorem d_N_mayHold_79 : decode b_N_mayHold 79 = .ok (.iload_n 1, 1) := by decide +kernel
theorem d_N_mayHold_80 : decode b_N_mayHold 80 = .ok (.sipush (1919), 3) := by decide +kernel
theorem d_N_mayHold_83 : decode b_N_mayHold 83 = .ok (.invokestatic 37, 3) := by decide +kernel
theorem d_N_mayHold_86 : decode b_N_mayHold 86 = .ok (.ireturn, 1) := by decide +kernel
theorem d_N_mayHold_87 : decode b_N_mayHold 87 = .ok (.iload_n 1, 1) := by decide +kernel
theorem d_N_mayHold_88 : decode b_N_mayHold 88 = .ok (.sipush (1792), 3) := by decide +kernel
theorem d_N_mayHold_91 : decode b_N_mayHold 91 = .ok (.invokestatic 37, 3) := by decide +kernel
theorem d_N_mayHold_94 : decode b_N_mayHold 94 = .ok (.ireturn, 1) := by decide +kernel
theorem d_N_mayHold_95 : decode b_N_mayHold 95 = .ok (.iload_n 1, 1) := by decide +kernel
theorem d_N_mayHold_96 : decode b_N_mayHold 96 = .ok (.bipush (10), 2) := by decide +kernel
theorem d_N_mayHold_98 : decode b_N_mayHold 98 = .ok (.if_icmp .ne (7), 3) := by decide +kernel
theorem d_N_mayHold_101 : decode b_N_mayHold 101 = .ok (.iconst 1, 1) := by decide +kernel
theorem d_N_mayHold_102 : decode b_N_mayHold 102 = .ok (.goto (4), 3) := by decide +kernel
theorem d_N_mayHold_105 : decode b_N_mayHold 105 = .ok (.iconst 0, 1) := by decide +kernel
theorem d_N_mayHold_106 : decode b_N_mayHold 106 = .ok (.ireturn, 1) := by decide +kernel
theorem d_N_mayHold_107 : decode b_N_mayHold 107 = .ok (.iconst 0, 1) := by decide +kernel
theorem d_N_mayHold_108 : decode b_N_mayHold 108 = .ok (.ireturn, 1) := by decide +kernel
theorem d_N_take_0 : decode b_N_take 0 = .ok (.aload_n 0, 1) := by decide +kernel
theorem d_N_take_1 : decode b_N_take 1 = .ok (.getfield 41, 3) := by decide +kernel
theorem d_N_take_4 : decode b_N_take 4 = .ok (.ifnonnull (11), 3) := by decide +kernel
theorem d_N_take_7 : decode b_N_take 7 = .ok (.aload_n 0, 1) := by decide +kernel
theorem d_N_take_8 : decode b_N_take 8 = .ok (.aload_n 1, 1) := by decide +kernel
theorem d_N_take_9 : decode b_N_take 9 = .ok (.putfield 44, 3) := by decide +kernel
theorem d_N_take_12 : decode b_N_take 12 = .ok (.goto (11), 3) := by decide +kernel
theorem d_N_take_15 : decode b_N_take 15 = .ok (.aload_n 0, 1) := by decide +kernel
theorem d_N_take_16 : decode b_N_take 16 = .ok (.getfield 41, 3) := by decide +kernel
theorem d_N_take_19 : decode b_N_take 19 = .ok (.aload_n 1, 1) := by decide +kernel
theorem d_N_take_20 : decode b_N_take 20 = .ok (.putfield 47, 3) := by decide +kernel
theorem d_N_take_23 : decode b_N_take 23 = .ok (.aload_n 0, 1) := by decide +kernel
theorem d_N_take_24 : decode b_N_take 24 = .ok (.aload_n 1, 1) := by decide +kernel
theorem d_N_take_25 : decode b_N_take 25 = .ok (.putfield 41, 3) := by decide +kernel
theorem d_N_take_28 : decode b_N_take 28 = .ok (.return_, 1) := by decide +kernel
theorem d_N_reachTo_0 : decode b_N_reachTo 0 = .ok (.aload_n 0, 1) := by decide +kernel
theorem d_N_reachTo_1 : decode b_N_reachTo 1 = .ok (.astore_n 2, 1) := by decide +kernel
theorem d_N_reachTo_2 : decode b_N_reachTo 2 = .ok (.aload_n 2, 1) := by decide +kernel
theorem d_N_reachTo_3 : decode b_N_reachTo 3 = .ok (.ifnull (16), 3) := by decide +kernel
theorem d_N_reachTo_6 : decode b_N_reachTo 6 = .ok (.aload_n 2, 1) := by decide +kernel
theorem d_N_reachTo_7 : decode b_N_reachTo 7 = .ok (.iload_n 1, 1) := by decide +kernel
theorem d_N_reachTo_8 : decode b_N_reachTo 8 = .ok (.putfield 34, 3) := by decide +kernel
theorem d_N_reachTo_11 : decode b_N_reachTo 11 = .ok (.aload_n 2, 1) := by decide +kernel
theorem d_N_reachTo_12 : decode b_N_reachTo 12 = .ok (.getfield 24, 3) := by decide +kernel
theorem d_N_reachTo_15 : decode b_N_reachTo 15 = .ok (.astore_n 2, 1) := by decide +kernel
theorem d_N_reachTo_16 : decode b_N_reachTo 16 = .ok (.goto (-14), 3) := by decide +kernel
theorem d_N_reachTo_19 : decode b_N_reachTo 19 = .ok (.return_, 1) := by decide +kernel
theorem d_N_lastOfPart_0 : decode b_N_lastOfPart 0 = .ok (.aload_n 0, 1) := by decide +kernel
theorem d_N_lastOfPart_1 : decode b_N_lastOfPart 1 = .ok (.astore_n 1, 1) := by decide +kernel
theorem d_N_lastOfPart_2 : decode b_N_lastOfPart 2 = .ok (.aload_n 0, 1) := by decide +kernel
theorem d_N_lastOfPart_3 : decode b_N_lastOfPart 3 = .ok (.invokevirtual 50, 3) := by decide +kernel
theorem d_N_lastOfPart_6 : decode b_N_lastOfPart 6 = .ok (.ifCond .eq (28), 3) := by decide +kernel
theorem d_N_lastOfPart_9 : decode b_N_lastOfPart 9 = .ok (.aload_n 1, 1) := by decide +kernel
theorem d_N_lastOfPart_10 : decode b_N_lastOfPart 10 = .ok (.getfield 47, 3) := by decide +kernel
theorem d_N_lastOfPart_13 : decode b_N_lastOfPart 13 = .ok (.ifnull (21), 3) := by decide +kernel
theorem d_N_lastOfPart_16 : decode b_N_lastOfPart 16 = .ok (.aload_n 1, 1) := by decide +kernel
theorem d_N_lastOfPart_17 : decode b_N_lastOfPart 17 = .ok (.getfield 47, 3) := by decide +kernel
theorem d_N_lastOfPart_20 : decode b_N_lastOfPart 20 = .ok (.invokevirtual 50, 3) := by decide +kernel
theorem d_N_lastOfPart_23 : decode b_N_lastOfPart 23 = .ok (.ifCond .eq (11), 3) := by decide +kernel
theorem d_N_lastOfPart_26 : decode b_N_lastOfPart 26 = .ok (.aload_n 1, 1) := by decide +kernel
theorem d_N_lastOfPart_27 : decode b_N_lastOfPart 27 = .ok (.getfield 47, 3) := by decide +kernel
theorem d_N_lastOfPart_30 : decode b_N_lastOfPart 30 = .ok (.astore_n 1, 1) := by decide +kernel
theorem d_N_lastOfPart_31 : decode b_N_lastOfPart 31 = .ok (.goto (-29), 3) := by decide +kernel
theorem d_N_lastOfPart_34 : decode b_N_lastOfPart 34 = .ok (.aload_n 1, 1) := by decide +kernel
theorem d_N_lastOfPart_35 : decode b_N_lastOfPart 35 = .ok (.areturn, 1) := by decide +kernel
theorem d_R_init_0 : decode b_R_init 0 = .ok (.aload_n 0, 1) := by decide +kernel
theorem d_R_init_1 : decode b_R_init 1 = .ok (.invokespecial 3, 3) := by decide +kernel
theorem d_R_init_4 : decode b_R_init 4 = .ok (.aload_n 0, 1) := by decide +kernel
theorem d_R_init_5 : decode b_R_init 5 = .ok (.bipush (16), 2) := by decide +kernel
theorem d_R_init_7 : decode b_R_init 7 = .ok (.newarray .int, 2) := by decide +kernel
theorem d_R_init_9 : decode b_R_init 9 = .ok (.putfield 9, 3) := by decide +kernel
theorem d_R_init_12 : decode b_R_init 12 = .ok (.return_, 1) := by decide +kernel
theorem d_R_size_0 : decode b_R_size 0 = .ok (.aload_n 0, 1) := by decide +kernel
theorem d_R_size_1 : decode b_R_size 1 = .ok (.getfield 15, 3) := by decide +kernel
theorem d_R_size_4 : decode b_R_size 4 = .ok (.ireturn, 1) := by decide +kernel
theorem d_R_get_0 : decode b_R_get 0 = .ok (.iload_n 1, 1) := by decide +kernel
theorem d_R_get_1 : decode b_R_get 1 = .ok (.ifCond .lt (29), 3) := by decide +kernel
theorem d_R_get_4 : decode b_R_get 4 = .ok (.iload_n 1, 1) := by decide +kernel
theorem d_R_get_5 : decode b_R_get 5 = .ok (.aload_n 0, 1) := by decide +kernel
theorem d_R_get_6 : decode b_R_get 6 = .ok (.getfield 15, 3) := by decide +kernel
theorem d_R_get_9 : decode b_R_get 9 = .ok (.if_icmp .ge (21), 3) := by decide +kernel
theorem d_R_get_12 : decode b_R_get 12 = .ok (.iload_n 1, 1) := by decide +kernel
theorem d_R_get_13 : decode b_R_get 13 = .ok (.aload_n 0, 1) := by decide +kernel
theorem d_R_get_14 : decode b_R_get 14 = .ok (.getfield 9, 3) := by decide +kernel
theorem d_R_get_17 : decode b_R_get 17 = .ok (.arraylength, 1) := by decide +kernel
theorem d_R_get_18 : decode b_R_get 18 = .ok (.if_icmp .ge (12), 3) := by decide +kernel
theorem d_R_get_21 : decode b_R_get 21 = .ok (.aload_n 0, 1) := by decide +kernel
theorem d_R_get_22 : decode b_R_get 22 = .ok (.getfield 9, 3) := by decide +kernel
theorem d_R_get_25 : decode b_R_get 25 = .ok (.iload_n 1, 1) := by decide +kernel
theorem d_R_get_26 : decode b_R_get 26 = .ok (.iaload, 1) := by decide +kernel
theorem d_R_get_27 : decode b_R_get 27 = .ok (.goto (4), 3) := by decide +kernel
theorem d_R_get_30 : decode b_R_get 30 = .ok (.iconst (-1), 1) := by decide +kernel
theorem d_R_get_31 : decode b_R_get 31 = .ok (.ireturn, 1) := by decide +kernel
theorem d_R_set_0 : decode b_R_set 0 = .ok (.iload_n 1, 1) := by decide +kernel
theorem d_R_set_1 : decode b_R_set 1 = .ok (.ifCond .lt (27), 3) := by decide +kernel
theorem d_R_set_4 : decode b_R_set 4 = .ok (.iload_n 1, 1) := by decide +kernel
theorem d_R_set_5 : decode b_R_set 5 = .ok (.aload_n 0, 1) := by decide +kernel
theorem d_R_set_6 : decode b_R_set 6 = .ok (.getfield 15, 3) := by decide +kernel
theorem d_R_set_9 : decode b_R_set 9 = .ok (.if_icmp .ge (19), 3) := by decide +kernel
theorem d_R_set_12 : decode b_R_set 12 = .ok (.iload_n 1, 1) := by decide +kernel
theorem d_R_set_13 : decode b_R_set 13 = .ok (.aload_n 0, 1) := by decide +kernel
theorem d_R_set_14 : decode b_R_set 14 = .ok (.getfield 9, 3) := by decide +kernel
theorem d_R_set_17 : decode b_R_set 17 = .ok (.arraylength, 1) := by decide +kernel
theorem d_R_set_18 : decode b_R_set 18 = .ok (.if_icmp .ge (10), 3) := by decide +kernel
theorem d_R_set_21 : decode b_R_set 21 = .ok (.aload_n 0, 1) := by decide +kernel
theorem d_R_set_22 : decode b_R_set 22 = .ok (.getfield 9, 3) := by decide +kernel
theorem d_R_set_25 : decode b_R_set 25 = .ok (.iload_n 1, 1) := by decide +kernel
theorem d_R_set_26 : decode b_R_set 26 = .ok (.iload_n 2, 1) := by decide +kernel
theorem d_R_set_27 : decode b_R_set 27 = .ok (.iastore, 1) := by decide +kernel
theorem d_R_set_28 : decode b_R_set 28 = .ok (.return_, 1) := by decide +kernel
theorem d_R_add_0 : decode b_R_add 0 = .ok (.aload_n 0, 1) := by decide +kernel
theorem d_R_add_1 : decode b_R_add 1 = .ok (.getfield 15, 3) := by decide +kernel
theorem d_R_add_4 : decode b_R_add 4 = .ok (.aload_n 0, 1) := by decide +kernel
theorem d_R_add_5 : decode b_R_add 5 = .ok (.getfield 9, 3) := by decide +kernel
theorem d_R_add_8 : decode b_R_add 8 = .ok (.arraylength, 1) := by decide +kernel
theorem d_R_add_9 : decode b_R_add 9 = .ok (.if_icmp .lt (20), 3) := by decide +kernel
theorem d_R_add_12 : decode b_R_add 12 = .ok (.aload_n 0, 1) := by decide +kernel
theorem d_R_add_13 : decode b_R_add 13 = .ok (.aload_n 0, 1) := by decide +kernel
theorem d_R_add_14 : decode b_R_add 14 = .ok (.getfield 9, 3) := by decide +kernel
theorem d_R_add_17 : decode b_R_add 17 = .ok (.aload_n 0, 1) := by decide +kernel
theorem d_R_add_18 : decode b_R_add 18 = .ok (.getfield 15, 3) := by decide +kernel
theorem d_R_add_21 : decode b_R_add 21 = .ok (.iconst 2, 1) := by decide +kernel
theorem d_R_add_22 : decode b_R_add 22 = .ok (.imul, 1) := by decide +kernel
theorem d_R_add_23 : decode b_R_add 23 = .ok (.invokestatic 19, 3) := by decide +kernel
theorem d_R_add_26 : decode b_R_add 26 = .ok (.putfield 9, 3) := by decide +kernel
theorem d_R_add_29 : decode b_R_add 29 = .ok (.aload_n 0, 1) := by decide +kernel
theorem d_R_add_30 : decode b_R_add 30 = .ok (.getfield 9, 3) := by decide +kernel
theorem d_R_add_33 : decode b_R_add 33 = .ok (.aload_n 0, 1) := by decide +kernel
theorem d_R_add_34 : decode b_R_add 34 = .ok (.getfield 15, 3) := by decide +kernel
theorem d_R_add_37 : decode b_R_add 37 = .ok (.iload_n 1, 1) := by decide +kernel
theorem d_R_add_38 : decode b_R_add 38 = .ok (.iastore, 1) := by decide +kernel
theorem d_R_add_39 : decode b_R_add 39 = .ok (.aload_n 0, 1) := by decide +kernel
theorem d_R_add_40 : decode b_R_add 40 = .ok (.dup, 1) := by decide +kernel
theorem d_R_add_41 : decode b_R_add 41 = .ok (.getfield 15, 3) := by decide +kernel
theorem d_R_add_44 : decode b_R_add 44 = .ok (.iconst 1, 1) := by decide +kernel
theorem d_R_add_45 : decode b_R_add 45 = .ok (.iadd, 1) := by decide +kernel
theorem d_R_add_46 : decode b_R_add 46 = .ok (.putfield 15, 3) := by decide +kernel
theorem d_R_add_49 : decode b_R_add 49 = .ok (.return_, 1) := by decide +kernel
theorem d_R_addAll_0 : decode b_R_addAll 0 = .ok (.aload_n 0, 1) := by decide +kernel
theorem d_R_addAll_1 : decode b_R_addAll 1 = .ok (.getfield 15, 3) := by decide +kernel
theorem d_R_addAll_4 : decode b_R_addAll 4 = .ok (.aload_n 1, 1) := by decide +kernel
theorem d_R_addAll_5 : decode b_R_addAll 5 = .ok (.getfield 15, 3) := by decide +kernel
theorem d_R_addAll_8 : decode b_R_addAll 8 = .ok (.iadd, 1) := by decide +kernel
theorem d_R_addAll_9 : decode b_R_addAll 9 = .ok (.istore_n 2, 1) := by decide +kernel
theorem d_R_addAll_10 : decode b_R_addAll 10 = .ok (.iload_n 2, 1) := by decide +kernel
theorem d_R_addAll_11 : decode b_R_addAll 11 = .ok (.aload_n 0, 1) := by decide +kernel
theorem d_R_addAll_12 : decode b_R_addAll 12 = .ok (.getfield 9, 3) := by decide +kernel
theorem d_R_addAll_15 : decode b_R_addAll 15 = .ok (.arraylength, 1) := by decide +kernel
theorem d_R_addAll_16 : decode b_R_addAll 16 = .ok (.if_icmp .le (17), 3) := by decide +kernel
theorem d_R_addAll_19 : decode b_R_addAll 19 = .ok (.aload_n 0, 1) := by decide +kernel
theorem d_R_addAll_20 : decode b_R_addAll 20 = .ok (.aload_n 0, 1) := by decide +kernel
theorem d_R_addAll_21 : decode b_R_addAll 21 = .ok (.getfield 9, 3) := by decide +kernel
theorem d_R_addAll_24 : decode b_R_addAll 24 = .ok (.iload_n 2, 1) := by decide +kernel
theorem d_R_addAll_25 : decode b_R_addAll 25 = .ok (.iconst 2, 1) := by decide +kernel
theorem d_R_addAll_26 : decode b_R_addAll 26 = .ok (.imul, 1) := by decide +kernel
theorem d_R_addAll_27 : decode b_R_addAll 27 = .ok (.invokestatic 19, 3) := by decide +kernel
theorem d_R_addAll_30 : decode b_R_addAll 30 = .ok (.putfield 9, 3) := by decide +kernel
theorem d_R_addAll_33 : decode b_R_addAll 33 = .ok (.aload_n 1, 1) := by decide +kernel
theorem d_R_addAll_34 : decode b_R_addAll 34 = .ok (.getfield 9, 3) := by decide +kernel
theorem d_R_addAll_37 : decode b_R_addAll 37 = .ok (.iconst 0, 1) := by decide +kernel
theorem d_R_addAll_38 : decode b_R_addAll 38 = .ok (.aload_n 0, 1) := by decide +kernel
theorem d_R_addAll_39 : decode b_R_addAll 39 = .ok (.getfield 9, 3) := by decide +kernel
theorem d_R_addAll_42 : decode b_R_addAll 42 = .ok (.aload_n 0, 1) := by decide +kernel
theorem d_R_addAll_43 : decode b_R_addAll 43 = .ok (.getfield 15, 3) := by decide +kernel
theorem d_R_addAll_46 : decode b_R_addAll 46 = .ok (.aload_n 1, 1) := by decide +kernel
theorem d_R_addAll_47 : decode b_R_addAll 47 = .ok (.getfield 15, 3) := by decide +kernel
theorem d_R_addAll_50 : decode b_R_addAll 50 = .ok (.invokestatic 25, 3) := by decide +kernel
theorem d_R_addAll_53 : decode b_R_addAll 53 = .ok (.aload_n 0, 1) := by decide +kernel
theorem d_R_addAll_54 : decode b_R_addAll 54 = .ok (.iload_n 2, 1) := by decide +kernel
theorem d_R_addAll_55 : decode b_R_addAll 55 = .ok (.putfield 15, 3) := by decide +kernel
theorem d_R_addAll_58 : decode b_R_addAll 58 = .ok (.return_, 1) := by decide +kernel
theorem d_R_cut_0 : decode b_R_cut 0 = .ok (.iload_n 1, 1) := by decide +kernel
theorem d_R_cut_1 : decode b_R_cut 1 = .ok (.ifCond .lt (16), 3) := by decide +kernel
theorem d_R_cut_4 : decode b_R_cut 4 = .ok (.iload_n 1, 1) := by decide +kernel
theorem d_R_cut_5 : decode b_R_cut 5 = .ok (.aload_n 0, 1) := by decide +kernel
theorem d_R_cut_6 : decode b_R_cut 6 = .ok (.getfield 15, 3) := by decide +kernel
theorem d_R_cut_9 : decode b_R_cut 9 = .ok (.if_icmp .ge (8), 3) := by decide +kernel
theorem d_R_cut_12 : decode b_R_cut 12 = .ok (.aload_n 0, 1) := by decide +kernel
theorem d_R_cut_13 : decode b_R_cut 13 = .ok (.iload_n 1, 1) := by decide +kernel
theorem d_R_cut_14 : decode b_R_cut 14 = .ok (.putfield 15, 3) := by decide +kernel
theorem d_R_cut_17 : decode b_R_cut 17 = .ok (.return_, 1) := by decide +kernel
theorem d_S_init_0 : decode b_S_init 0 = .ok (.aload_n 0, 1) := by decide +kernel
theorem d_S_init_1 : decode b_S_init 1 = .ok (.invokespecial 3, 3) := by decide +kernel
theorem d_S_init_4 : decode b_S_init 4 = .ok (.aload_n 0, 1) := by decide +kernel
theorem d_S_init_5 : decode b_S_init 5 = .ok (.new 9, 3) := by decide +kernel
theorem d_S_init_8 : decode b_S_init 8 = .ok (.dup, 1) := by decide +kernel
theorem d_S_init_9 : decode b_S_init 9 = .ok (.invokespecial 11, 3) := by decide +kernel
theorem d_S_init_12 : decode b_S_init 12 = .ok (.putfield 12, 3) := by decide +kernel
theorem d_S_init_15 : decode b_S_init 15 = .ok (.aload_n 0, 1) := by decide +kernel
theorem d_S_init_16 : decode b_S_init 16 = .ok (.new 18, 3) := by decide +kernel
theorem d_S_init_19 : decode b_S_init 19 = .ok (.dup, 1) := by decide +kernel
theorem d_S_init_20 : decode b_S_init 20 = .ok (.invokespecial 20, 3) := by decide +kernel
theorem d_S_init_23 : decode b_S_init 23 = .ok (.putfield 21, 3) := by decide +kernel
theorem d_S_init_26 : decode b_S_init 26 = .ok (.aload_n 0, 1) := by decide +kernel
theorem d_S_init_27 : decode b_S_init 27 = .ok (.new 9, 3) := by decide +kernel
theorem d_S_init_30 : decode b_S_init 30 = .ok (.dup, 1) := by decide +kernel
theorem d_S_init_31 : decode b_S_init 31 = .ok (.invokespecial 11, 3) := by decide +kernel
theorem d_S_init_34 : decode b_S_init 34 = .ok (.putfield 25, 3) := by decide +kernel
theorem d_S_init_37 : decode b_S_init 37 = .ok (.aload_n 0, 1) := by decide +kernel
theorem d_S_init_38 : decode b_S_init 38 = .ok (.new 9, 3) := by decide +kernel
theorem d_S_init_41 : decode b_S_init 41 = .ok (.dup, 1) := by decide +kernel
theorem d_S_init_42 : decode b_S_init 42 = .ok (.invokespecial 11, 3) := by decide +kernel
theorem d_S_init_45 : decode b_S_init 45 = .ok (.putfield 28, 3) := by decide +kernel
theorem d_S_init_48 : decode b_S_init 48 = .ok (.aload_n 0, 1) := by decide +kernel
theorem d_S_init_49 : decode b_S_init 49 = .ok (.new 9, 3) := by decide +kernel
theorem d_S_init_52 : decode b_S_init 52 = .ok (.dup, 1) := by decide +kernel
theorem d_S_init_53 : decode b_S_init 53 = .ok (.invokespecial 11, 3) := by decide +kernel
theorem d_S_init_56 : decode b_S_init 56 = .ok (.putfield 31, 3) := by decide +kernel
theorem d_S_init_59 : decode b_S_init 59 = .ok (.aload_n 0, 1) := by decide +kernel
theorem d_S_init_60 : decode b_S_init 60 = .ok (.new 9, 3) := by decide +kernel
theorem d_S_init_63 : decode b_S_init 63 = .ok (.dup, 1) := by decide +kernel
theorem d_S_init_64 : decode b_S_init 64 = .ok (.invokespecial 11, 3) := by decide +kernel
theorem d_S_init_67 : decode b_S_init 67 = .ok (.putfield 34, 3) := by decide +kernel
theorem d_S_init_70 : decode b_S_init 70 = .ok (.return_, 1) := by decide +kernel
theorem d_S_layParts_0 : decode b_S_layParts 0 = .ok (.aload_n 0, 1) := by decide +kernel
theorem d_S_layParts_1 : decode b_S_layParts 1 = .ok (.getfield 21, 3) := by decide +kernel
theorem d_S_layParts_4 : decode b_S_layParts 4 = .ok (.invokevirtual 37, 3) := by decide +kernel
theorem d_S_layParts_7 : decode b_S_layParts 7 = .ok (.istore_n 3, 1) := by decide +kernel
theorem d_S_layParts_8 : decode b_S_layParts 8 = .ok (.aload_n 1, 1) := by decide +kernel
theorem d_S_layParts_9 : decode b_S_layParts 9 = .ok (.getfield 41, 3) := by decide +kernel
theorem d_S_layParts_12 : decode b_S_layParts 12 = .ok (.bipush (7), 2) := by decide +kernel
theorem d_S_layParts_14 : decode b_S_layParts 14 = .ok (.if_icmp .ne (11), 3) := by decide +kernel
theorem d_S_layParts_17 : decode b_S_layParts 17 = .ok (.aload_n 0, 1) := by decide +kernel
theorem d_S_layParts_18 : decode b_S_layParts 18 = .ok (.aload_n 1, 1) := by decide +kernel
theorem d_S_layParts_19 : decode b_S_layParts 19 = .ok (.invokevirtual 47, 3) := by decide +kernel
theorem d_S_layParts_22 : decode b_S_layParts 22 = .ok (.ifCond .eq (7), 3) := by decide +kernel
theorem d_S_layParts_25 : decode b_S_layParts 25 = .ok (.iconst 1, 1) := by decide +kernel
theorem d_S_layParts_26 : decode b_S_layParts 26 = .ok (.goto (4), 3) := by decide +kernel
theorem d_S_layParts_29 : decode b_S_layParts 29 = .ok (.iconst 0, 1) := by decide +kernel
theorem d_S_layParts_30 : decode b_S_layParts 30 = .ok (.istore 4, 2) := by decide +kernel
theorem d_S_layParts_32 : decode b_S_layParts 32 = .ok (.aload_n 1, 1) := by decide +kernel
theorem d_S_layParts_33 : decode b_S_layParts 33 = .ok (.getfield 51, 3) := by decide +kernel
theorem d_S_layParts_36 : decode b_S_layParts 36 = .ok (.astore 5, 2) := by decide +kernel
theorem d_S_layParts_38 : decode b_S_layParts 38 = .ok (.aload 5, 2) := by decide +kernel
theorem d_S_layParts_40 : decode b_S_layParts 40 = .ok (.ifnull (60), 3) := by decide +kernel
theorem d_S_layParts_43 : decode b_S_layParts 43 = .ok (.aload 5, 2) := by decide +kernel
theorem d_S_layParts_45 : decode b_S_layParts 45 = .ok (.invokevirtual 55, 3) := by decide +kernel
theorem d_S_layParts_48 : decode b_S_layParts 48 = .ok (.astore 6, 2) := by decide +kernel
theorem d_S_layParts_50 : decode b_S_layParts 50 = .ok (.iload 4, 2) := by decide +kernel
theorem d_S_layParts_52 : decode b_S_layParts 52 = .ok (.ifCond .eq (29), 3) := by decide +kernel
theorem d_S_layParts_55 : decode b_S_layParts 55 = .ok (.aload_n 0, 1) := by decide +kernel
theorem d_S_layParts_56 : decode b_S_layParts 56 = .ok (.getfield 21, 3) := by decide +kernel
theorem d_S_layParts_59 : decode b_S_layParts 59 = .ok (.invokevirtual 37, 3) := by decide +kernel
theorem d_S_layParts_62 : decode b_S_layParts 62 = .ok (.iload_n 3, 1) := by decide +kernel
theorem d_S_layParts_63 : decode b_S_layParts 63 = .ok (.if_icmp .le (18), 3) := by decide +kernel
theorem d_S_layParts_66 : decode b_S_layParts 66 = .ok (.aload_n 0, 1) := by decide +kernel
theorem d_S_layParts_67 : decode b_S_layParts 67 = .ok (.aload 5, 2) := by decide +kernel
theorem d_S_layParts_69 : decode b_S_layParts 69 = .ok (.aload 6, 2) := by decide +kernel
theorem d_S_layParts_71 : decode b_S_layParts 71 = .ok (.invokevirtual 59, 3) := by decide +kernel
theorem d_S_layParts_74 : decode b_S_layParts 74 = .ok (.ifCond .eq (7), 3) := by decide +kernel
theorem d_S_layParts_77 : decode b_S_layParts 77 = .ok (.aload_n 0, 1) := by decide +kernel
theorem d_S_layParts_78 : decode b_S_layParts 78 = .ok (.invokevirtual 63, 3) := by decide +kernel
theorem d_S_layParts_81 : decode b_S_layParts 81 = .ok (.aload_n 0, 1) := by decide +kernel
theorem d_S_layParts_82 : decode b_S_layParts 82 = .ok (.aload 5, 2) := by decide +kernel
theorem d_S_layParts_84 : decode b_S_layParts 84 = .ok (.aload 6, 2) := by decide +kernel
theorem d_S_layParts_86 : decode b_S_layParts 86 = .ok (.iload_n 2, 1) := by decide +kernel
theorem d_S_layParts_87 : decode b_S_layParts 87 = .ok (.invokevirtual 66, 3) := by decide +kernel
theorem d_S_layParts_90 : decode b_S_layParts 90 = .ok (.aload 6, 2) := by decide +kernel
theorem d_S_layParts_92 : decode b_S_layParts 92 = .ok (.getfield 70, 3) := by decide +kernel
theorem d_S_layParts_95 : decode b_S_layParts 95 = .ok (.astore 5, 2) := by decide +kernel
theorem d_S_layParts_97 : decode b_S_layParts 97 = .ok (.goto (-59), 3) := by decide +kernel
theorem d_S_layParts_100 : decode b_S_layParts 100 = .ok (.return_, 1) := by decide +kernel
theorem d_S_layPart_0 : decode b_S_layPart 0 = .ok (.aload_n 1, 1) := by decide +kernel
theorem d_S_layPart_1 : decode b_S_layPart 1 = .ok (.astore 4, 2) := by decide +kernel
theorem d_S_layPart_3 : decode b_S_layPart 3 = .ok (.aload 4, 2) := by decide +kernel
theorem d_S_layPart_5 : decode b_S_layPart 5 = .ok (.ifnull (34), 3) := by decide +kernel
theorem d_S_layPart_8 : decode b_S_layPart 8 = .ok (.aload 4, 2) := by decide +kernel
theorem d_S_layPart_10 : decode b_S_layPart 10 = .ok (.aload_n 2, 1) := by decide +kernel
theorem d_S_layPart_11 : decode b_S_layPart 11 = .ok (.getfield 70, 3) := by decide +kernel
theorem d_S_layPart_14 : decode b_S_layPart 14 = .ok (.if_acmp .eq (25), 3) := by decide +kernel
theorem d_S_layPart_17 : decode b_S_layPart 17 = .ok (.aload 4, 2) := by decide +kernel
theorem d_S_layPart_19 : decode b_S_layPart 19 = .ok (.aload_n 0, 1) := by decide +kernel
theorem d_S_layPart_20 : decode b_S_layPart 20 = .ok (.getfield 21, 3) := by decide +kernel
theorem d_S_layPart_23 : decode b_S_layPart 23 = .ok (.invokevirtual 37, 3) := by decide +kernel
theorem d_S_layPart_26 : decode b_S_layPart 26 = .ok (.putfield 73, 3) := by decide +kernel
theorem d_S_layPart_29 : decode b_S_layPart 29 = .ok (.aload 4, 2) := by decide +kernel
theorem d_S_layPart_31 : decode b_S_layPart 31 = .ok (.getfield 70, 3) := by decide +kernel
theorem d_S_layPart_34 : decode b_S_layPart 34 = .ok (.astore 4, 2) := by decide +kernel
theorem d_S_layPart_36 : decode b_S_layPart 36 = .ok (.goto (-33), 3) := by decide +kernel
theorem d_S_layPart_39 : decode b_S_layPart 39 = .ok (.aload_n 1, 1) := by decide +kernel
theorem d_S_layPart_40 : decode b_S_layPart 40 = .ok (.getfield 41, 3) := by decide +kernel
theorem d_S_layPart_43 : decode b_S_layPart 43 = .ok (.tableswitch (123) (1) (6) #[37, 88, 96, 105, 114, 114], 37) := by decide +kernel
theorem d_S_layPart_80 : decode b_S_layPart 80 = .ok (.aload_n 0, 1) := by decide +kernel
theorem d_S_layPart_81 : decode b_S_layPart 81 = .ok (.aload_n 1, 1) := by decide +kernel
theorem d_S_layPart_82 : decode b_S_layPart 82 = .ok (.getfield 76, 3) := by decide +kernel
theorem d_S_layPart_85 : decode b_S_layPart 85 = .ok (.iload_n 3, 1) := by decide +kernel
theorem d_S_layPart_86 : decode b_S_layPart 86 = .ok (.invokevirtual 79, 3) := by decide +kernel
theorem d_S_layPart_89 : decode b_S_layPart 89 = .ok (.aload_n 0, 1) := by decide +kernel
theorem d_S_layPart_90 : decode b_S_layPart 90 = .ok (.aload_n 1, 1) := by decide +kernel
theorem d_S_layPart_91 : decode b_S_layPart 91 = .ok (.getfield 83, 3) := by decide +kernel
theorem d_S_layPart_94 : decode b_S_layPart 94 = .ok (.aload_n 1, 1) := by decide +kernel
theorem d_S_layPart_95 : decode b_S_layPart 95 = .ok (.getfield 86, 3) := by decide +kernel
theorem d_S_layPart_98 : decode b_S_layPart 98 = .ok (.iload_n 3, 1) := by decide +kernel
theorem d_S_layPart_99 : decode b_S_layPart 99 = .ok (.invokevirtual 89, 3) := by decide +kernel
theorem d_S_layPart_102 : decode b_S_layPart 102 = .ok (.aload_n 0, 1) := by decide +kernel
theorem d_S_layPart_103 : decode b_S_layPart 103 = .ok (.getfield 21, 3) := by decide +kernel
theorem d_S_layPart_106 : decode b_S_layPart 106 = .ok (.getfield 93, 3) := by decide +kernel
theorem d_S_layPart_109 : decode b_S_layPart 109 = .ok (.aload_n 1, 1) := by decide +kernel
theorem d_S_layPart_110 : decode b_S_layPart 110 = .ok (.getfield 73, 3) := by decide +kernel
theorem d_S_layPart_113 : decode b_S_layPart 113 = .ok (.aload_n 0, 1) := by decide +kernel
theorem d_S_layPart_114 : decode b_S_layPart 114 = .ok (.getfield 21, 3) := by decide +kernel
theorem d_S_layPart_117 : decode b_S_layPart 117 = .ok (.invokevirtual 37, 3) := by decide +kernel
theorem d_S_layPart_120 : decode b_S_layPart 120 = .ok (.aload_n 1, 1) := by decide +kernel
theorem d_S_layPart_121 : decode b_S_layPart 121 = .ok (.getfield 73, 3) := by decide +kernel
theorem d_S_layPart_124 : decode b_S_layPart 124 = .ok (.isub, 1) := by decide +kernel
theorem d_S_layPart_125 : decode b_S_layPart 125 = .ok (.invokevirtual 96, 3) := by decide +kernel
theorem d_S_layPart_128 : decode b_S_layPart 128 = .ok (.goto (51), 3) := by decide +kernel
theorem d_S_layPart_131 : decode b_S_layPart 131 = .ok (.aload_n 0, 1) := by decide +kernel
theorem d_S_layPart_132 : decode b_S_layPart 132 = .ok (.iload_n 3, 1) := by decide +kernel
theorem d_S_layPart_133 : decode b_S_layPart 133 = .ok (.invokevirtual 99, 3) := by decide +kernel
theorem d_S_layPart_136 : decode b_S_layPart 136 = .ok (.goto (43), 3) := by decide +kernel
theorem d_S_layPart_139 : decode b_S_layPart 139 = .ok (.aload_n 0, 1) := by decide +kernel
theorem d_S_layPart_140 : decode b_S_layPart 140 = .ok (.aload_n 1, 1) := by decide +kernel
theorem d_S_layPart_141 : decode b_S_layPart 141 = .ok (.iload_n 3, 1) := by decide +kernel
theorem d_S_layPart_142 : decode b_S_layPart 142 = .ok (.invokevirtual 103, 3) := by decide +kernel
theorem d_S_layPart_145 : decode b_S_layPart 145 = .ok (.goto (34), 3) := by decide +kernel
theorem d_S_layPart_148 : decode b_S_layPart 148 = .ok (.aload_n 0, 1) := by decide +kernel
theorem d_S_layPart_149 : decode b_S_layPart 149 = .ok (.aload_n 1, 1) := by decide +kernel
theorem d_S_layPart_150 : decode b_S_layPart 150 = .ok (.iload_n 3, 1) := by decide +kernel
theorem d_S_layPart_151 : decode b_S_layPart 151 = .ok (.invokevirtual 107, 3) := by decide +kernel
theorem d_S_layPart_154 : decode b_S_layPart 154 = .ok (.goto (25), 3) := by decide +kernel
theorem d_S_layPart_157 : decode b_S_layPart 157 = .ok (.aload_n 0, 1) := by decide +kernel
theorem d_S_layPart_158 : decode b_S_layPart 158 = .ok (.aload_n 1, 1) := by decide +kernel
theorem d_S_layPart_159 : decode b_S_layPart 159 = .ok (.iload_n 3, 1) := by decide +kernel
theorem d_S_layPart_160 : decode b_S_layPart 160 = .ok (.invokevirtual 110, 3) := by decide +kernel
theorem d_S_layPart_163 : decode b_S_layPart 163 = .ok (.goto (16), 3) := by decide +kernel
theorem d_S_layPart_166 : decode b_S_layPart 166 = .ok (.aload_n 0, 1) := by decide +kernel
theorem d_S_layPart_167 : decode b_S_layPart 167 = .ok (.aload_n 1, 1) := by decide +kernel
theorem d_S_layPart_168 : decode b_S_layPart 168 = .ok (.getfield 83, 3) := by decide +kernel
theorem d_S_layPart_171 : decode b_S_layPart 171 = .ok (.aload_n 2, 1) := by decide +kernel
theorem d_S_layPart_172 : decode b_S_layPart 172 = .ok (.getfield 86, 3) := by decide +kernel
theorem d_S_layPart_175 : decode b_S_layPart 175 = .ok (.iload_n 3, 1) := by decide +kernel
theorem d_S_layPart_176 : decode b_S_layPart 176 = .ok (.invokevirtual 89, 3) := by decide +kernel
theorem d_S_layPart_179 : decode b_S_layPart 179 = .ok (.return_, 1) := by decide +kernel
theorem d_S_addHeadingSign_0 : decode b_S_addHeadingSign 0 = .ok (.iconst 0, 1) := by decide +kernel
theorem d_S_addHeadingSign_1 : decode b_S_addHeadingSign 1 = .ok (.istore_n 3, 1) := by decide +kernel
theorem d_S_addHeadingSign_2 : decode b_S_addHeadingSign 2 = .ok (.iload_n 3, 1) := by decide +kernel
theorem d_S_addHeadingSign_3 : decode b_S_addHeadingSign 3 = .ok (.iload_n 1, 1) := by decide +kernel
theorem d_S_addHeadingSign_4 : decode b_S_addHeadingSign 4 = .ok (.if_icmp .ge (16), 3) := by decide +kernel
theorem d_S_addHeadingSign_7 : decode b_S_addHeadingSign 7 = .ok (.aload_n 0, 1) := by decide +kernel
theorem d_S_addHeadingSign_8 : decode b_S_addHeadingSign 8 = .ok (.bipush (61), 2) := by decide +kernel
theorem d_S_addHeadingSign_10 : decode b_S_addHeadingSign 10 = .ok (.iload_n 2, 1) := by decide +kernel
theorem d_S_addHeadingSign_11 : decode b_S_addHeadingSign 11 = .ok (.invokevirtual 113, 3) := by decide +kernel
theorem d_S_addHeadingSign_14 : decode b_S_addHeadingSign 14 = .ok (.iinc 3 (1), 3) := by decide +kernel
theorem d_S_addHeadingSign_17 : decode b_S_addHeadingSign 17 = .ok (.goto (-15), 3) := by decide +kernel
theorem d_S_addHeadingSign_20 : decode b_S_addHeadingSign 20 = .ok (.aload_n 0, 1) := by decide +kernel
theorem d_S_addHeadingSign_21 : decode b_S_addHeadingSign 21 = .ok (.iload_n 2, 1) := by decide +kernel
theorem d_S_addHeadingSign_22 : decode b_S_addHeadingSign 22 = .ok (.invokevirtual 116, 3) := by decide +kernel
theorem d_S_addHeadingSign_25 : decode b_S_addHeadingSign 25 = .ok (.return_, 1) := by decide +kernel
theorem d_S_layRule_0 : decode b_S_layRule 0 = .ok (.iconst 0, 1) := by decide +kernel
theorem d_S_layRule_1 : decode b_S_layRule 1 = .ok (.istore_n 2, 1) := by decide +kernel
theorem d_S_layRule_2 : decode b_S_layRule 2 = .ok (.iload_n 2, 1) := by decide +kernel
theorem d_S_layRule_3 : decode b_S_layRule 3 = .ok (.iload_n 1, 1) := by decide +kernel
theorem d_S_layRule_4 : decode b_S_layRule 4 = .ok (.if_icmp .ge (18), 3) := by decide +kernel
theorem d_S_layRule_7 : decode b_S_layRule 7 = .ok (.aload_n 0, 1) := by decide +kernel
theorem d_S_layRule_8 : decode b_S_layRule 8 = .ok (.getfield 34, 3) := by decide +kernel
theorem d_S_layRule_11 : decode b_S_layRule 11 = .ok (.bipush (45), 2) := by decide +kernel
theorem d_S_layRule_13 : decode b_S_layRule 13 = .ok (.invokevirtual 119, 3) := by decide +kernel
theorem d_S_layRule_16 : decode b_S_layRule 16 = .ok (.iinc 2 (1), 3) := by decide +kernel
theorem d_S_layRule_19 : decode b_S_layRule 19 = .ok (.goto (-17), 3) := by decide +kernel
theorem d_S_layRule_22 : decode b_S_layRule 22 = .ok (.aload_n 0, 1) := by decide +kernel
theorem d_S_layRule_23 : decode b_S_layRule 23 = .ok (.invokevirtual 122, 3) := by decide +kernel
theorem d_S_layRule_26 : decode b_S_layRule 26 = .ok (.return_, 1) := by decide +kernel
theorem d_S_layCode_0 : decode b_S_layCode 0 = .ok (.aload_n 1, 1) := by decide +kernel
theorem d_S_layCode_1 : decode b_S_layCode 1 = .ok (.getfield 83, 3) := by decide +kernel
theorem d_S_layCode_4 : decode b_S_layCode 4 = .ok (.istore_n 3, 1) := by decide +kernel
theorem d_S_layCode_5 : decode b_S_layCode 5 = .ok (.iload_n 3, 1) := by decide +kernel
theorem d_S_layCode_6 : decode b_S_layCode 6 = .ok (.aload_n 1, 1) := by decide +kernel
theorem d_S_layCode_7 : decode b_S_layCode 7 = .ok (.getfield 86, 3) := by decide +kernel
theorem d_S_layCode_10 : decode b_S_layCode 10 = .ok (.if_icmp .ge (57), 3) := by decide +kernel
theorem d_S_layCode_13 : decode b_S_layCode 13 = .ok (.aload_n 0, 1) := by decide +kernel
theorem d_S_layCode_14 : decode b_S_layCode 14 = .ok (.getfield 12, 3) := by decide +kernel
theorem d_S_layCode_17 : decode b_S_layCode 17 = .ok (.iload_n 3, 1) := by decide +kernel
theorem d_S_layCode_18 : decode b_S_layCode 18 = .ok (.invokevirtual 125, 3) := by decide +kernel
theorem d_S_layCode_21 : decode b_S_layCode 21 = .ok (.istore 4, 2) := by decide +kernel
theorem d_S_layCode_23 : decode b_S_layCode 23 = .ok (.iload 4, 2) := by decide +kernel
theorem d_S_layCode_25 : decode b_S_layCode 25 = .ok (.bipush (10), 2) := by decide +kernel
theorem d_S_layCode_27 : decode b_S_layCode 27 = .ok (.if_icmp .ne (10), 3) := by decide +kernel
theorem d_S_layCode_30 : decode b_S_layCode 30 = .ok (.aload_n 0, 1) := by decide +kernel
theorem d_S_layCode_31 : decode b_S_layCode 31 = .ok (.invokevirtual 122, 3) := by decide +kernel
theorem d_S_layCode_34 : decode b_S_layCode 34 = .ok (.goto (27), 3) := by decide +kernel
theorem d_S_layCode_37 : decode b_S_layCode 37 = .ok (.aload_n 0, 1) := by decide +kernel
theorem d_S_layCode_38 : decode b_S_layCode 38 = .ok (.getfield 34, 3) := by decide +kernel
theorem d_S_layCode_41 : decode b_S_layCode 41 = .ok (.invokevirtual 129, 3) := by decide +kernel
theorem d_S_layCode_44 : decode b_S_layCode 44 = .ok (.iload_n 2, 1) := by decide +kernel
theorem d_S_layCode_45 : decode b_S_layCode 45 = .ok (.if_icmp .lt (7), 3) := by decide +kernel
theorem d_S_layCode_48 : decode b_S_layCode 48 = .ok (.aload_n 0, 1) := by decide +kernel
theorem d_S_layCode_49 : decode b_S_layCode 49 = .ok (.invokevirtual 122, 3) := by decide +kernel
theorem d_S_layCode_52 : decode b_S_layCode 52 = .ok (.aload_n 0, 1) := by decide +kernel
theorem d_S_layCode_53 : decode b_S_layCode 53 = .ok (.getfield 34, 3) := by decide +kernel
theorem d_S_layCode_56 : decode b_S_layCode 56 = .ok (.iload 4, 2) := by decide +kernel
theorem d_S_layCode_58 : decode b_S_layCode 58 = .ok (.invokevirtual 119, 3) := by decide +kernel
theorem d_S_layCode_61 : decode b_S_layCode 61 = .ok (.iinc 3 (1), 3) := by decide +kernel
end
section
theorem d_S_layCode_64 : decode b_S_layCode 64 = .ok (.goto (-59), 3) := by decide +kernel
theorem d_S_layCode_67 : decode b_S_layCode 67 = .ok (.aload_n 0, 1) := by decide +kernel
theorem d_S_layCode_68 : decode b_S_layCode 68 = .ok (.getfield 34, 3) := by decide +kernel
theorem d_S_layCode_71 : decode b_S_layCode 71 = .ok (.invokevirtual 129, 3) := by decide +kernel
theorem d_S_layCode_74 : decode b_S_layCode 74 = .ok (.ifCond .le (7), 3) := by decide +kernel
theorem d_S_layCode_77 : decode b_S_layCode 77 = .ok (.aload_n 0, 1) := by decide +kernel
theorem d_S_layCode_78 : decode b_S_layCode 78 = .ok (.invokevirtual 122, 3) := by decide +kernel
theorem d_S_layCode_81 : decode b_S_layCode 81 = .ok (.return_, 1) := by decide +kernel
theorem d_S_layQuote_0 : decode b_S_layQuote 0 = .ok (.aload_n 0, 1) := by decide +kernel
theorem d_S_layQuote_1 : decode b_S_layQuote 1 = .ok (.getfield 25, 3) := by decide +kernel
theorem d_S_layQuote_4 : decode b_S_layQuote 4 = .ok (.invokevirtual 129, 3) := by decide +kernel
theorem d_S_layQuote_7 : decode b_S_layQuote 7 = .ok (.istore_n 3, 1) := by decide +kernel
theorem d_S_layQuote_8 : decode b_S_layQuote 8 = .ok (.aload_n 0, 1) := by decide +kernel
theorem d_S_layQuote_9 : decode b_S_layQuote 9 = .ok (.bipush (62), 2) := by decide +kernel
theorem d_S_layQuote_11 : decode b_S_layQuote 11 = .ok (.bipush (62), 2) := by decide +kernel
theorem d_S_layQuote_13 : decode b_S_layQuote 13 = .ok (.invokevirtual 132, 3) := by decide +kernel
theorem d_S_layQuote_16 : decode b_S_layQuote 16 = .ok (.aload_n 0, 1) := by decide +kernel
theorem d_S_layQuote_17 : decode b_S_layQuote 17 = .ok (.bipush (32), 2) := by decide +kernel
theorem d_S_layQuote_19 : decode b_S_layQuote 19 = .ok (.bipush (32), 2) := by decide +kernel
theorem d_S_layQuote_21 : decode b_S_layQuote 21 = .ok (.invokevirtual 132, 3) := by decide +kernel
theorem d_S_layQuote_24 : decode b_S_layQuote 24 = .ok (.aload_n 0, 1) := by decide +kernel
theorem d_S_layQuote_25 : decode b_S_layQuote 25 = .ok (.aload_n 1, 1) := by decide +kernel
theorem d_S_layQuote_26 : decode b_S_layQuote 26 = .ok (.iload_n 2, 1) := by decide +kernel
theorem d_S_layQuote_27 : decode b_S_layQuote 27 = .ok (.iconst 2, 1) := by decide +kernel
theorem d_S_layQuote_28 : decode b_S_layQuote 28 = .ok (.invokestatic 135, 3) := by decide +kernel
theorem d_S_layQuote_31 : decode b_S_layQuote 31 = .ok (.invokevirtual 139, 3) := by decide +kernel
theorem d_S_layQuote_34 : decode b_S_layQuote 34 = .ok (.aload_n 0, 1) := by decide +kernel
theorem d_S_layQuote_35 : decode b_S_layQuote 35 = .ok (.iload_n 3, 1) := by decide +kernel
theorem d_S_layQuote_36 : decode b_S_layQuote 36 = .ok (.invokevirtual 142, 3) := by decide +kernel
theorem d_S_layQuote_39 : decode b_S_layQuote 39 = .ok (.return_, 1) := by decide +kernel
theorem d_S_layItems_0 : decode b_S_layItems 0 = .ok (.iconst 0, 1) := by decide +kernel
theorem d_S_layItems_1 : decode b_S_layItems 1 = .ok (.istore_n 3, 1) := by decide +kernel
theorem d_S_layItems_2 : decode b_S_layItems 2 = .ok (.aload_n 1, 1) := by decide +kernel
theorem d_S_layItems_3 : decode b_S_layItems 3 = .ok (.getfield 51, 3) := by decide +kernel
theorem d_S_layItems_6 : decode b_S_layItems 6 = .ok (.astore 4, 2) := by decide +kernel
theorem d_S_layItems_8 : decode b_S_layItems 8 = .ok (.aload 4, 2) := by decide +kernel
theorem d_S_layItems_10 : decode b_S_layItems 10 = .ok (.ifnull (32), 3) := by decide +kernel
theorem d_S_layItems_13 : decode b_S_layItems 13 = .ok (.iload_n 3, 1) := by decide +kernel
theorem d_S_layItems_14 : decode b_S_layItems 14 = .ok (.ifCond .ne (12), 3) := by decide +kernel
theorem d_S_layItems_17 : decode b_S_layItems 17 = .ok (.aload_n 0, 1) := by decide +kernel
theorem d_S_layItems_18 : decode b_S_layItems 18 = .ok (.aload 4, 2) := by decide +kernel
theorem d_S_layItems_20 : decode b_S_layItems 20 = .ok (.invokevirtual 47, 3) := by decide +kernel
theorem d_S_layItems_23 : decode b_S_layItems 23 = .ok (.ifCond .eq (7), 3) := by decide +kernel
theorem d_S_layItems_26 : decode b_S_layItems 26 = .ok (.iconst 1, 1) := by decide +kernel
theorem d_S_layItems_27 : decode b_S_layItems 27 = .ok (.goto (4), 3) := by decide +kernel
theorem d_S_layItems_30 : decode b_S_layItems 30 = .ok (.iconst 0, 1) := by decide +kernel
theorem d_S_layItems_31 : decode b_S_layItems 31 = .ok (.istore_n 3, 1) := by decide +kernel
theorem d_S_layItems_32 : decode b_S_layItems 32 = .ok (.aload 4, 2) := by decide +kernel
theorem d_S_layItems_34 : decode b_S_layItems 34 = .ok (.getfield 70, 3) := by decide +kernel
theorem d_S_layItems_37 : decode b_S_layItems 37 = .ok (.astore 4, 2) := by decide +kernel
theorem d_S_layItems_39 : decode b_S_layItems 39 = .ok (.goto (-31), 3) := by decide +kernel
theorem d_S_layItems_42 : decode b_S_layItems 42 = .ok (.aload_n 1, 1) := by decide +kernel
theorem d_S_layItems_43 : decode b_S_layItems 43 = .ok (.getfield 76, 3) := by decide +kernel
theorem d_S_layItems_46 : decode b_S_layItems 46 = .ok (.istore 4, 2) := by decide +kernel
theorem d_S_layItems_48 : decode b_S_layItems 48 = .ok (.aload_n 1, 1) := by decide +kernel
theorem d_S_layItems_49 : decode b_S_layItems 49 = .ok (.getfield 51, 3) := by decide +kernel
theorem d_S_layItems_52 : decode b_S_layItems 52 = .ok (.astore 5, 2) := by decide +kernel
theorem d_S_layItems_54 : decode b_S_layItems 54 = .ok (.aload 5, 2) := by decide +kernel
theorem d_S_layItems_56 : decode b_S_layItems 56 = .ok (.ifnull (110), 3) := by decide +kernel
theorem d_S_layItems_59 : decode b_S_layItems 59 = .ok (.iload_n 3, 1) := by decide +kernel
theorem d_S_layItems_60 : decode b_S_layItems 60 = .ok (.ifCond .eq (16), 3) := by decide +kernel
theorem d_S_layItems_63 : decode b_S_layItems 63 = .ok (.aload 5, 2) := by decide +kernel
theorem d_S_layItems_65 : decode b_S_layItems 65 = .ok (.aload_n 1, 1) := by decide +kernel
theorem d_S_layItems_66 : decode b_S_layItems 66 = .ok (.getfield 51, 3) := by decide +kernel
theorem d_S_layItems_69 : decode b_S_layItems 69 = .ok (.if_acmp .eq (7), 3) := by decide +kernel
theorem d_S_layItems_72 : decode b_S_layItems 72 = .ok (.aload_n 0, 1) := by decide +kernel
theorem d_S_layItems_73 : decode b_S_layItems 73 = .ok (.invokevirtual 63, 3) := by decide +kernel
theorem d_S_layItems_76 : decode b_S_layItems 76 = .ok (.aload_n 0, 1) := by decide +kernel
theorem d_S_layItems_77 : decode b_S_layItems 77 = .ok (.getfield 21, 3) := by decide +kernel
theorem d_S_layItems_80 : decode b_S_layItems 80 = .ok (.invokevirtual 37, 3) := by decide +kernel
theorem d_S_layItems_83 : decode b_S_layItems 83 = .ok (.istore 6, 2) := by decide +kernel
theorem d_S_layItems_85 : decode b_S_layItems 85 = .ok (.aload_n 0, 1) := by decide +kernel
theorem d_S_layItems_86 : decode b_S_layItems 86 = .ok (.getfield 25, 3) := by decide +kernel
theorem d_S_layItems_89 : decode b_S_layItems 89 = .ok (.invokevirtual 129, 3) := by decide +kernel
theorem d_S_layItems_92 : decode b_S_layItems 92 = .ok (.istore 7, 2) := by decide +kernel
theorem d_S_layItems_94 : decode b_S_layItems 94 = .ok (.aload 5, 2) := by decide +kernel
theorem d_S_layItems_96 : decode b_S_layItems 96 = .ok (.iload 6, 2) := by decide +kernel
theorem d_S_layItems_98 : decode b_S_layItems 98 = .ok (.putfield 73, 3) := by decide +kernel
theorem d_S_layItems_101 : decode b_S_layItems 101 = .ok (.aload_n 0, 1) := by decide +kernel
theorem d_S_layItems_102 : decode b_S_layItems 102 = .ok (.aload_n 1, 1) := by decide +kernel
theorem d_S_layItems_103 : decode b_S_layItems 103 = .ok (.getfield 41, 3) := by decide +kernel
theorem d_S_layItems_106 : decode b_S_layItems 106 = .ok (.iload 4, 2) := by decide +kernel
theorem d_S_layItems_108 : decode b_S_layItems 108 = .ok (.invokevirtual 145, 3) := by decide +kernel
theorem d_S_layItems_111 : decode b_S_layItems 111 = .ok (.aload_n 0, 1) := by decide +kernel
theorem d_S_layItems_112 : decode b_S_layItems 112 = .ok (.aload 5, 2) := by decide +kernel
theorem d_S_layItems_114 : decode b_S_layItems 114 = .ok (.iload_n 2, 1) := by decide +kernel
theorem d_S_layItems_115 : decode b_S_layItems 115 = .ok (.aload_n 0, 1) := by decide +kernel
theorem d_S_layItems_116 : decode b_S_layItems 116 = .ok (.getfield 25, 3) := by decide +kernel
theorem d_S_layItems_119 : decode b_S_layItems 119 = .ok (.invokevirtual 129, 3) := by decide +kernel
theorem d_S_layItems_122 : decode b_S_layItems 122 = .ok (.iload 7, 2) := by decide +kernel
theorem d_S_layItems_124 : decode b_S_layItems 124 = .ok (.isub, 1) := by decide +kernel
theorem d_S_layItems_125 : decode b_S_layItems 125 = .ok (.invokestatic 135, 3) := by decide +kernel
theorem d_S_layItems_128 : decode b_S_layItems 128 = .ok (.invokevirtual 139, 3) := by decide +kernel
theorem d_S_layItems_131 : decode b_S_layItems 131 = .ok (.aload_n 0, 1) := by decide +kernel
theorem d_S_layItems_132 : decode b_S_layItems 132 = .ok (.getfield 21, 3) := by decide +kernel
theorem d_S_layItems_135 : decode b_S_layItems 135 = .ok (.invokevirtual 37, 3) := by decide +kernel
theorem d_S_layItems_138 : decode b_S_layItems 138 = .ok (.iload 6, 2) := by decide +kernel
theorem d_S_layItems_140 : decode b_S_layItems 140 = .ok (.if_icmp .ne (7), 3) := by decide +kernel
theorem d_S_layItems_143 : decode b_S_layItems 143 = .ok (.aload_n 0, 1) := by decide +kernel
theorem d_S_layItems_144 : decode b_S_layItems 144 = .ok (.invokevirtual 122, 3) := by decide +kernel
theorem d_S_layItems_147 : decode b_S_layItems 147 = .ok (.aload_n 0, 1) := by decide +kernel
theorem d_S_layItems_148 : decode b_S_layItems 148 = .ok (.iload 7, 2) := by decide +kernel
theorem d_S_layItems_150 : decode b_S_layItems 150 = .ok (.invokevirtual 142, 3) := by decide +kernel
theorem d_S_layItems_153 : decode b_S_layItems 153 = .ok (.iinc 4 (1), 3) := by decide +kernel
theorem d_S_layItems_156 : decode b_S_layItems 156 = .ok (.aload 5, 2) := by decide +kernel
theorem d_S_layItems_158 : decode b_S_layItems 158 = .ok (.getfield 70, 3) := by decide +kernel
theorem d_S_layItems_161 : decode b_S_layItems 161 = .ok (.astore 5, 2) := by decide +kernel
theorem d_S_layItems_163 : decode b_S_layItems 163 = .ok (.goto (-109), 3) := by decide +kernel
theorem d_S_layItems_166 : decode b_S_layItems 166 = .ok (.return_, 1) := by decide +kernel
theorem d_S_layWords_0 : decode b_S_layWords 0 = .ok (.iload_n 1, 1) := by decide +kernel
theorem d_S_layWords_1 : decode b_S_layWords 1 = .ok (.istore 4, 2) := by decide +kernel
theorem d_S_layWords_3 : decode b_S_layWords 3 = .ok (.iload 4, 2) := by decide +kernel
theorem d_S_layWords_5 : decode b_S_layWords 5 = .ok (.iload_n 2, 1) := by decide +kernel
theorem d_S_layWords_6 : decode b_S_layWords 6 = .ok (.if_icmp .ge (63), 3) := by decide +kernel
theorem d_S_layWords_9 : decode b_S_layWords 9 = .ok (.aload_n 0, 1) := by decide +kernel
theorem d_S_layWords_10 : decode b_S_layWords 10 = .ok (.getfield 12, 3) := by decide +kernel
theorem d_S_layWords_13 : decode b_S_layWords 13 = .ok (.iload 4, 2) := by decide +kernel
theorem d_S_layWords_15 : decode b_S_layWords 15 = .ok (.invokevirtual 125, 3) := by decide +kernel
theorem d_S_layWords_18 : decode b_S_layWords 18 = .ok (.istore 5, 2) := by decide +kernel
theorem d_S_layWords_20 : decode b_S_layWords 20 = .ok (.iload 5, 2) := by decide +kernel
theorem d_S_layWords_22 : decode b_S_layWords 22 = .ok (.sipush (256), 3) := by decide +kernel
theorem d_S_layWords_25 : decode b_S_layWords 25 = .ok (.if_icmp .ne (15), 3) := by decide +kernel
theorem d_S_layWords_28 : decode b_S_layWords 28 = .ok (.aload_n 0, 1) := by decide +kernel
theorem d_S_layWords_29 : decode b_S_layWords 29 = .ok (.iload_n 3, 1) := by decide +kernel
theorem d_S_layWords_30 : decode b_S_layWords 30 = .ok (.invokevirtual 116, 3) := by decide +kernel
theorem d_S_layWords_33 : decode b_S_layWords 33 = .ok (.aload_n 0, 1) := by decide +kernel
theorem d_S_layWords_34 : decode b_S_layWords 34 = .ok (.invokevirtual 122, 3) := by decide +kernel
theorem d_S_layWords_37 : decode b_S_layWords 37 = .ok (.goto (26), 3) := by decide +kernel
theorem d_S_layWords_40 : decode b_S_layWords 40 = .ok (.iload 5, 2) := by decide +kernel
theorem d_S_layWords_42 : decode b_S_layWords 42 = .ok (.invokestatic 148, 3) := by decide +kernel
theorem d_S_layWords_45 : decode b_S_layWords 45 = .ok (.ifCond .eq (11), 3) := by decide +kernel
theorem d_S_layWords_48 : decode b_S_layWords 48 = .ok (.aload_n 0, 1) := by decide +kernel
theorem d_S_layWords_49 : decode b_S_layWords 49 = .ok (.iload_n 3, 1) := by decide +kernel
theorem d_S_layWords_50 : decode b_S_layWords 50 = .ok (.invokevirtual 116, 3) := by decide +kernel
theorem d_S_layWords_53 : decode b_S_layWords 53 = .ok (.goto (10), 3) := by decide +kernel
theorem d_S_layWords_56 : decode b_S_layWords 56 = .ok (.aload_n 0, 1) := by decide +kernel
theorem d_S_layWords_57 : decode b_S_layWords 57 = .ok (.iload 5, 2) := by decide +kernel
theorem d_S_layWords_59 : decode b_S_layWords 59 = .ok (.iload_n 3, 1) := by decide +kernel
theorem d_S_layWords_60 : decode b_S_layWords 60 = .ok (.invokevirtual 113, 3) := by decide +kernel
theorem d_S_layWords_63 : decode b_S_layWords 63 = .ok (.iinc 4 (1), 3) := by decide +kernel
theorem d_S_layWords_66 : decode b_S_layWords 66 = .ok (.goto (-63), 3) := by decide +kernel
theorem d_S_layWords_69 : decode b_S_layWords 69 = .ok (.aload_n 0, 1) := by decide +kernel
theorem d_S_layWords_70 : decode b_S_layWords 70 = .ok (.iload_n 3, 1) := by decide +kernel
theorem d_S_layWords_71 : decode b_S_layWords 71 = .ok (.invokevirtual 116, 3) := by decide +kernel
theorem d_S_layWords_74 : decode b_S_layWords 74 = .ok (.aload_n 0, 1) := by decide +kernel
theorem d_S_layWords_75 : decode b_S_layWords 75 = .ok (.getfield 34, 3) := by decide +kernel
theorem d_S_layWords_78 : decode b_S_layWords 78 = .ok (.invokevirtual 129, 3) := by decide +kernel
theorem d_S_layWords_81 : decode b_S_layWords 81 = .ok (.ifCond .le (7), 3) := by decide +kernel
theorem d_S_layWords_84 : decode b_S_layWords 84 = .ok (.aload_n 0, 1) := by decide +kernel
theorem d_S_layWords_85 : decode b_S_layWords 85 = .ok (.invokevirtual 122, 3) := by decide +kernel
theorem d_S_layWords_88 : decode b_S_layWords 88 = .ok (.return_, 1) := by decide +kernel
theorem d_S_addLetter_0 : decode b_S_addLetter 0 = .ok (.aload_n 0, 1) := by decide +kernel
theorem d_S_addLetter_1 : decode b_S_addLetter 1 = .ok (.getfield 31, 3) := by decide +kernel
theorem d_S_addLetter_4 : decode b_S_addLetter 4 = .ok (.invokevirtual 129, 3) := by decide +kernel
theorem d_S_addLetter_7 : decode b_S_addLetter 7 = .ok (.iload_n 2, 1) := by decide +kernel
theorem d_S_addLetter_8 : decode b_S_addLetter 8 = .ok (.if_icmp .lt (36), 3) := by decide +kernel
theorem d_S_addLetter_11 : decode b_S_addLetter 11 = .ok (.aload_n 0, 1) := by decide +kernel
theorem d_S_addLetter_12 : decode b_S_addLetter 12 = .ok (.getfield 34, 3) := by decide +kernel
theorem d_S_addLetter_15 : decode b_S_addLetter 15 = .ok (.invokevirtual 129, 3) := by decide +kernel
theorem d_S_addLetter_18 : decode b_S_addLetter 18 = .ok (.ifCond .le (7), 3) := by decide +kernel
theorem d_S_addLetter_21 : decode b_S_addLetter 21 = .ok (.aload_n 0, 1) := by decide +kernel
theorem d_S_addLetter_22 : decode b_S_addLetter 22 = .ok (.invokevirtual 122, 3) := by decide +kernel
theorem d_S_addLetter_25 : decode b_S_addLetter 25 = .ok (.aload_n 0, 1) := by decide +kernel
theorem d_S_addLetter_26 : decode b_S_addLetter 26 = .ok (.getfield 34, 3) := by decide +kernel
theorem d_S_addLetter_29 : decode b_S_addLetter 29 = .ok (.aload_n 0, 1) := by decide +kernel
theorem d_S_addLetter_30 : decode b_S_addLetter 30 = .ok (.getfield 31, 3) := by decide +kernel
theorem d_S_addLetter_33 : decode b_S_addLetter 33 = .ok (.invokevirtual 152, 3) := by decide +kernel
theorem d_S_addLetter_36 : decode b_S_addLetter 36 = .ok (.aload_n 0, 1) := by decide +kernel
theorem d_S_addLetter_37 : decode b_S_addLetter 37 = .ok (.getfield 31, 3) := by decide +kernel
theorem d_S_addLetter_40 : decode b_S_addLetter 40 = .ok (.iconst 0, 1) := by decide +kernel
theorem d_S_addLetter_41 : decode b_S_addLetter 41 = .ok (.invokevirtual 156, 3) := by decide +kernel
theorem d_S_addLetter_44 : decode b_S_addLetter 44 = .ok (.aload_n 0, 1) := by decide +kernel
theorem d_S_addLetter_45 : decode b_S_addLetter 45 = .ok (.getfield 31, 3) := by decide +kernel
theorem d_S_addLetter_48 : decode b_S_addLetter 48 = .ok (.iload_n 1, 1) := by decide +kernel
theorem d_S_addLetter_49 : decode b_S_addLetter 49 = .ok (.invokevirtual 119, 3) := by decide +kernel
theorem d_S_addLetter_52 : decode b_S_addLetter 52 = .ok (.return_, 1) := by decide +kernel
theorem d_S_endWord_0 : decode b_S_endWord 0 = .ok (.aload_n 0, 1) := by decide +kernel
theorem d_S_endWord_1 : decode b_S_endWord 1 = .ok (.getfield 31, 3) := by decide +kernel
theorem d_S_endWord_4 : decode b_S_endWord 4 = .ok (.invokevirtual 129, 3) := by decide +kernel
theorem d_S_endWord_7 : decode b_S_endWord 7 = .ok (.ifCond .ne (4), 3) := by decide +kernel
theorem d_S_endWord_10 : decode b_S_endWord 10 = .ok (.return_, 1) := by decide +kernel
theorem d_S_endWord_11 : decode b_S_endWord 11 = .ok (.aload_n 0, 1) := by decide +kernel
theorem d_S_endWord_12 : decode b_S_endWord 12 = .ok (.getfield 34, 3) := by decide +kernel
theorem d_S_endWord_15 : decode b_S_endWord 15 = .ok (.invokevirtual 129, 3) := by decide +kernel
theorem d_S_endWord_18 : decode b_S_endWord 18 = .ok (.ifCond .le (28), 3) := by decide +kernel
theorem d_S_endWord_21 : decode b_S_endWord 21 = .ok (.aload_n 0, 1) := by decide +kernel
theorem d_S_endWord_22 : decode b_S_endWord 22 = .ok (.getfield 34, 3) := by decide +kernel
theorem d_S_endWord_25 : decode b_S_endWord 25 = .ok (.invokevirtual 129, 3) := by decide +kernel
theorem d_S_endWord_28 : decode b_S_endWord 28 = .ok (.iconst 1, 1) := by decide +kernel
theorem d_S_endWord_29 : decode b_S_endWord 29 = .ok (.iadd, 1) := by decide +kernel
theorem d_S_endWord_30 : decode b_S_endWord 30 = .ok (.aload_n 0, 1) := by decide +kernel
theorem d_S_endWord_31 : decode b_S_endWord 31 = .ok (.getfield 31, 3) := by decide +kernel
theorem d_S_endWord_34 : decode b_S_endWord 34 = .ok (.invokevirtual 129, 3) := by decide +kernel
theorem d_S_endWord_37 : decode b_S_endWord 37 = .ok (.iadd, 1) := by decide +kernel
theorem d_S_endWord_38 : decode b_S_endWord 38 = .ok (.iload_n 1, 1) := by decide +kernel
theorem d_S_endWord_39 : decode b_S_endWord 39 = .ok (.if_icmp .le (7), 3) := by decide +kernel
theorem d_S_endWord_42 : decode b_S_endWord 42 = .ok (.aload_n 0, 1) := by decide +kernel
theorem d_S_endWord_43 : decode b_S_endWord 43 = .ok (.invokevirtual 122, 3) := by decide +kernel
theorem d_S_endWord_46 : decode b_S_endWord 46 = .ok (.aload_n 0, 1) := by decide +kernel
theorem d_S_endWord_47 : decode b_S_endWord 47 = .ok (.getfield 34, 3) := by decide +kernel
theorem d_S_endWord_50 : decode b_S_endWord 50 = .ok (.invokevirtual 129, 3) := by decide +kernel
theorem d_S_endWord_53 : decode b_S_endWord 53 = .ok (.ifCond .le (12), 3) := by decide +kernel
theorem d_S_endWord_56 : decode b_S_endWord 56 = .ok (.aload_n 0, 1) := by decide +kernel
theorem d_S_endWord_57 : decode b_S_endWord 57 = .ok (.getfield 34, 3) := by decide +kernel
theorem d_S_endWord_60 : decode b_S_endWord 60 = .ok (.bipush (32), 2) := by decide +kernel
theorem d_S_endWord_62 : decode b_S_endWord 62 = .ok (.invokevirtual 119, 3) := by decide +kernel
theorem d_S_endWord_65 : decode b_S_endWord 65 = .ok (.aload_n 0, 1) := by decide +kernel
theorem d_S_endWord_66 : decode b_S_endWord 66 = .ok (.getfield 34, 3) := by decide +kernel
theorem d_S_endWord_69 : decode b_S_endWord 69 = .ok (.aload_n 0, 1) := by decide +kernel
theorem d_S_endWord_70 : decode b_S_endWord 70 = .ok (.getfield 31, 3) := by decide +kernel
theorem d_S_endWord_73 : decode b_S_endWord 73 = .ok (.invokevirtual 152, 3) := by decide +kernel
theorem d_S_endWord_76 : decode b_S_endWord 76 = .ok (.aload_n 0, 1) := by decide +kernel
theorem d_S_endWord_77 : decode b_S_endWord 77 = .ok (.getfield 31, 3) := by decide +kernel
theorem d_S_endWord_80 : decode b_S_endWord 80 = .ok (.iconst 0, 1) := by decide +kernel
theorem d_S_endWord_81 : decode b_S_endWord 81 = .ok (.invokevirtual 156, 3) := by decide +kernel
theorem d_S_endWord_84 : decode b_S_endWord 84 = .ok (.return_, 1) := by decide +kernel
theorem d_S_putLine_0 : decode b_S_putLine 0 = .ok (.aload_n 0, 1) := by decide +kernel
theorem d_S_putLine_1 : decode b_S_putLine 1 = .ok (.getfield 21, 3) := by decide +kernel
theorem d_S_putLine_4 : decode b_S_putLine 4 = .ok (.aload_n 0, 1) := by decide +kernel
theorem d_S_putLine_5 : decode b_S_putLine 5 = .ok (.getfield 25, 3) := by decide +kernel
theorem d_S_putLine_8 : decode b_S_putLine 8 = .ok (.aload_n 0, 1) := by decide +kernel
theorem d_S_putLine_9 : decode b_S_putLine 9 = .ok (.getfield 34, 3) := by decide +kernel
theorem d_S_putLine_12 : decode b_S_putLine 12 = .ok (.iconst 0, 1) := by decide +kernel
theorem d_S_putLine_13 : decode b_S_putLine 13 = .ok (.invokevirtual 159, 3) := by decide +kernel
theorem d_S_putLine_16 : decode b_S_putLine 16 = .ok (.aload_n 0, 1) := by decide +kernel
theorem d_S_putLine_17 : decode b_S_putLine 17 = .ok (.getfield 34, 3) := by decide +kernel
theorem d_S_putLine_20 : decode b_S_putLine 20 = .ok (.iconst 0, 1) := by decide +kernel
theorem d_S_putLine_21 : decode b_S_putLine 21 = .ok (.invokevirtual 156, 3) := by decide +kernel
theorem d_S_putLine_24 : decode b_S_putLine 24 = .ok (.iconst 0, 1) := by decide +kernel
theorem d_S_putLine_25 : decode b_S_putLine 25 = .ok (.istore_n 1, 1) := by decide +kernel
theorem d_S_putLine_26 : decode b_S_putLine 26 = .ok (.iload_n 1, 1) := by decide +kernel
theorem d_S_putLine_27 : decode b_S_putLine 27 = .ok (.aload_n 0, 1) := by decide +kernel
theorem d_S_putLine_28 : decode b_S_putLine 28 = .ok (.getfield 25, 3) := by decide +kernel
theorem d_S_putLine_31 : decode b_S_putLine 31 = .ok (.invokevirtual 129, 3) := by decide +kernel
theorem d_S_putLine_34 : decode b_S_putLine 34 = .ok (.if_icmp .ge (25), 3) := by decide +kernel
theorem d_S_putLine_37 : decode b_S_putLine 37 = .ok (.aload_n 0, 1) := by decide +kernel
theorem d_S_putLine_38 : decode b_S_putLine 38 = .ok (.getfield 25, 3) := by decide +kernel
theorem d_S_putLine_41 : decode b_S_putLine 41 = .ok (.iload_n 1, 1) := by decide +kernel
theorem d_S_putLine_42 : decode b_S_putLine 42 = .ok (.aload_n 0, 1) := by decide +kernel
theorem d_S_putLine_43 : decode b_S_putLine 43 = .ok (.getfield 28, 3) := by decide +kernel
theorem d_S_putLine_46 : decode b_S_putLine 46 = .ok (.iload_n 1, 1) := by decide +kernel
theorem d_S_putLine_47 : decode b_S_putLine 47 = .ok (.invokevirtual 125, 3) := by decide +kernel
theorem d_S_putLine_50 : decode b_S_putLine 50 = .ok (.invokevirtual 96, 3) := by decide +kernel
theorem d_S_putLine_53 : decode b_S_putLine 53 = .ok (.iinc 1 (1), 3) := by decide +kernel
theorem d_S_putLine_56 : decode b_S_putLine 56 = .ok (.goto (-30), 3) := by decide +kernel
theorem d_S_putLine_59 : decode b_S_putLine 59 = .ok (.return_, 1) := by decide +kernel
theorem d_S_putBetween_0 : decode b_S_putBetween 0 = .ok (.aload_n 0, 1) := by decide +kernel
theorem d_S_putBetween_1 : decode b_S_putBetween 1 = .ok (.getfield 21, 3) := by decide +kernel
theorem d_S_putBetween_4 : decode b_S_putBetween 4 = .ok (.aload_n 0, 1) := by decide +kernel
theorem d_S_putBetween_5 : decode b_S_putBetween 5 = .ok (.getfield 25, 3) := by decide +kernel
theorem d_S_putBetween_8 : decode b_S_putBetween 8 = .ok (.aload_n 0, 1) := by decide +kernel
theorem d_S_putBetween_9 : decode b_S_putBetween 9 = .ok (.getfield 34, 3) := by decide +kernel
theorem d_S_putBetween_12 : decode b_S_putBetween 12 = .ok (.iconst 1, 1) := by decide +kernel
theorem d_S_putBetween_13 : decode b_S_putBetween 13 = .ok (.invokevirtual 159, 3) := by decide +kernel
theorem d_S_putBetween_16 : decode b_S_putBetween 16 = .ok (.return_, 1) := by decide +kernel
theorem d_S_addSign_0 : decode b_S_addSign 0 = .ok (.iload_n 1, 1) := by decide +kernel
theorem d_S_addSign_1 : decode b_S_addSign 1 = .ok (.iconst 5, 1) := by decide +kernel
theorem d_S_addSign_2 : decode b_S_addSign 2 = .ok (.if_icmp .ne (14), 3) := by decide +kernel
theorem d_S_addSign_5 : decode b_S_addSign 5 = .ok (.aload_n 0, 1) := by decide +kernel
theorem d_S_addSign_6 : decode b_S_addSign 6 = .ok (.bipush (42), 2) := by decide +kernel
theorem d_S_addSign_8 : decode b_S_addSign 8 = .ok (.bipush (32), 2) := by decide +kernel
theorem d_S_addSign_10 : decode b_S_addSign 10 = .ok (.invokevirtual 132, 3) := by decide +kernel
theorem d_S_addSign_13 : decode b_S_addSign 13 = .ok (.goto (16), 3) := by decide +kernel
theorem d_S_addSign_16 : decode b_S_addSign 16 = .ok (.aload_n 0, 1) := by decide +kernel
theorem d_S_addSign_17 : decode b_S_addSign 17 = .ok (.iload_n 2, 1) := by decide +kernel
theorem d_S_addSign_18 : decode b_S_addSign 18 = .ok (.invokevirtual 163, 3) := by decide +kernel
theorem d_S_addSign_21 : decode b_S_addSign 21 = .ok (.aload_n 0, 1) := by decide +kernel
theorem d_S_addSign_22 : decode b_S_addSign 22 = .ok (.bipush (46), 2) := by decide +kernel
theorem d_S_addSign_24 : decode b_S_addSign 24 = .ok (.bipush (32), 2) := by decide +kernel
theorem d_S_addSign_26 : decode b_S_addSign 26 = .ok (.invokevirtual 132, 3) := by decide +kernel
theorem d_S_addSign_29 : decode b_S_addSign 29 = .ok (.aload_n 0, 1) := by decide +kernel
theorem d_S_addSign_30 : decode b_S_addSign 30 = .ok (.bipush (32), 2) := by decide +kernel
theorem d_S_addSign_32 : decode b_S_addSign 32 = .ok (.bipush (32), 2) := by decide +kernel
theorem d_S_addSign_34 : decode b_S_addSign 34 = .ok (.invokevirtual 132, 3) := by decide +kernel
theorem d_S_addSign_37 : decode b_S_addSign 37 = .ok (.return_, 1) := by decide +kernel
theorem d_S_addDigits_0 : decode b_S_addDigits 0 = .ok (.ldc 166, 2) := by decide +kernel
theorem d_S_addDigits_2 : decode b_S_addDigits 2 = .ok (.istore_n 2, 1) := by decide +kernel
theorem d_S_addDigits_3 : decode b_S_addDigits 3 = .ok (.iload_n 2, 1) := by decide +kernel
theorem d_S_addDigits_4 : decode b_S_addDigits 4 = .ok (.iconst 1, 1) := by decide +kernel
theorem d_S_addDigits_5 : decode b_S_addDigits 5 = .ok (.if_icmp .le (16), 3) := by decide +kernel
theorem d_S_addDigits_8 : decode b_S_addDigits 8 = .ok (.iload_n 2, 1) := by decide +kernel
theorem d_S_addDigits_9 : decode b_S_addDigits 9 = .ok (.iload_n 1, 1) := by decide +kernel
theorem d_S_addDigits_10 : decode b_S_addDigits 10 = .ok (.if_icmp .le (11), 3) := by decide +kernel
theorem d_S_addDigits_13 : decode b_S_addDigits 13 = .ok (.iload_n 2, 1) := by decide +kernel
theorem d_S_addDigits_14 : decode b_S_addDigits 14 = .ok (.bipush (10), 2) := by decide +kernel
theorem d_S_addDigits_16 : decode b_S_addDigits 16 = .ok (.idiv, 1) := by decide +kernel
theorem d_S_addDigits_17 : decode b_S_addDigits 17 = .ok (.istore_n 2, 1) := by decide +kernel
theorem d_S_addDigits_18 : decode b_S_addDigits 18 = .ok (.goto (-15), 3) := by decide +kernel
theorem d_S_addDigits_21 : decode b_S_addDigits 21 = .ok (.iload_n 2, 1) := by decide +kernel
theorem d_S_addDigits_22 : decode b_S_addDigits 22 = .ok (.ifCond .le (26), 3) := by decide +kernel
theorem d_S_addDigits_25 : decode b_S_addDigits 25 = .ok (.aload_n 0, 1) := by decide +kernel
theorem d_S_addDigits_26 : decode b_S_addDigits 26 = .ok (.bipush (48), 2) := by decide +kernel
theorem d_S_addDigits_28 : decode b_S_addDigits 28 = .ok (.iload_n 1, 1) := by decide +kernel
theorem d_S_addDigits_29 : decode b_S_addDigits 29 = .ok (.iload_n 2, 1) := by decide +kernel
theorem d_S_addDigits_30 : decode b_S_addDigits 30 = .ok (.idiv, 1) := by decide +kernel
theorem d_S_addDigits_31 : decode b_S_addDigits 31 = .ok (.bipush (10), 2) := by decide +kernel
theorem d_S_addDigits_33 : decode b_S_addDigits 33 = .ok (.irem, 1) := by decide +kernel
theorem d_S_addDigits_34 : decode b_S_addDigits 34 = .ok (.iadd, 1) := by decide +kernel
theorem d_S_addDigits_35 : decode b_S_addDigits 35 = .ok (.bipush (32), 2) := by decide +kernel
theorem d_S_addDigits_37 : decode b_S_addDigits 37 = .ok (.invokevirtual 132, 3) := by decide +kernel
theorem d_S_addDigits_40 : decode b_S_addDigits 40 = .ok (.iload_n 2, 1) := by decide +kernel
theorem d_S_addDigits_41 : decode b_S_addDigits 41 = .ok (.bipush (10), 2) := by decide +kernel
theorem d_S_addDigits_43 : decode b_S_addDigits 43 = .ok (.idiv, 1) := by decide +kernel
theorem d_S_addDigits_44 : decode b_S_addDigits 44 = .ok (.istore_n 2, 1) := by decide +kernel
theorem d_S_addDigits_45 : decode b_S_addDigits 45 = .ok (.goto (-24), 3) := by decide +kernel
theorem d_S_addDigits_48 : decode b_S_addDigits 48 = .ok (.return_, 1) := by decide +kernel
theorem d_S_addAhead_0 : decode b_S_addAhead 0 = .ok (.aload_n 0, 1) := by decide +kernel
theorem d_S_addAhead_1 : decode b_S_addAhead 1 = .ok (.getfield 25, 3) := by decide +kernel
theorem d_S_addAhead_4 : decode b_S_addAhead 4 = .ok (.iload_n 1, 1) := by decide +kernel
theorem d_S_addAhead_5 : decode b_S_addAhead 5 = .ok (.invokevirtual 119, 3) := by decide +kernel
theorem d_S_addAhead_8 : decode b_S_addAhead 8 = .ok (.aload_n 0, 1) := by decide +kernel
theorem d_S_addAhead_9 : decode b_S_addAhead 9 = .ok (.getfield 28, 3) := by decide +kernel
theorem d_S_addAhead_12 : decode b_S_addAhead 12 = .ok (.iload_n 2, 1) := by decide +kernel
theorem d_S_addAhead_13 : decode b_S_addAhead 13 = .ok (.invokevirtual 119, 3) := by decide +kernel
theorem d_S_addAhead_16 : decode b_S_addAhead 16 = .ok (.return_, 1) := by decide +kernel
theorem d_S_cutAhead_0 : decode b_S_cutAhead 0 = .ok (.aload_n 0, 1) := by decide +kernel
theorem d_S_cutAhead_1 : decode b_S_cutAhead 1 = .ok (.getfield 25, 3) := by decide +kernel
theorem d_S_cutAhead_4 : decode b_S_cutAhead 4 = .ok (.iload_n 1, 1) := by decide +kernel
theorem d_S_cutAhead_5 : decode b_S_cutAhead 5 = .ok (.invokevirtual 156, 3) := by decide +kernel
theorem d_S_cutAhead_8 : decode b_S_cutAhead 8 = .ok (.aload_n 0, 1) := by decide +kernel
theorem d_S_cutAhead_9 : decode b_S_cutAhead 9 = .ok (.getfield 28, 3) := by decide +kernel
theorem d_S_cutAhead_12 : decode b_S_cutAhead 12 = .ok (.iload_n 1, 1) := by decide +kernel
theorem d_S_cutAhead_13 : decode b_S_cutAhead 13 = .ok (.invokevirtual 156, 3) := by decide +kernel
theorem d_S_cutAhead_16 : decode b_S_cutAhead 16 = .ok (.return_, 1) := by decide +kernel
theorem d_S_hasLines_0 : decode b_S_hasLines 0 = .ok (.aload_n 1, 1) := by decide +kernel
theorem d_S_hasLines_1 : decode b_S_hasLines 1 = .ok (.getfield 41, 3) := by decide +kernel
theorem d_S_hasLines_4 : decode b_S_hasLines 4 = .ok (.tableswitch (78) (1) (6) #[40, 40, 42, 59, 65, 65], 40) := by decide +kernel
theorem d_S_hasLines_44 : decode b_S_hasLines 44 = .ok (.iconst 1, 1) := by decide +kernel
theorem d_S_hasLines_45 : decode b_S_hasLines 45 = .ok (.ireturn, 1) := by decide +kernel
theorem d_S_hasLines_46 : decode b_S_hasLines 46 = .ok (.aload_n 1, 1) := by decide +kernel
theorem d_S_hasLines_47 : decode b_S_hasLines 47 = .ok (.getfield 86, 3) := by decide +kernel
theorem d_S_hasLines_50 : decode b_S_hasLines 50 = .ok (.aload_n 1, 1) := by decide +kernel
theorem d_S_hasLines_51 : decode b_S_hasLines 51 = .ok (.getfield 83, 3) := by decide +kernel
theorem d_S_hasLines_54 : decode b_S_hasLines 54 = .ok (.if_icmp .le (7), 3) := by decide +kernel
theorem d_S_hasLines_57 : decode b_S_hasLines 57 = .ok (.iconst 1, 1) := by decide +kernel
theorem d_S_hasLines_58 : decode b_S_hasLines 58 = .ok (.goto (4), 3) := by decide +kernel
theorem d_S_hasLines_61 : decode b_S_hasLines 61 = .ok (.iconst 0, 1) := by decide +kernel
theorem d_S_hasLines_62 : decode b_S_hasLines 62 = .ok (.ireturn, 1) := by decide +kernel
theorem d_S_hasLines_63 : decode b_S_hasLines 63 = .ok (.aload_n 0, 1) := by decide +kernel
theorem d_S_hasLines_64 : decode b_S_hasLines 64 = .ok (.aload_n 1, 1) := by decide +kernel
theorem d_S_hasLines_65 : decode b_S_hasLines 65 = .ok (.invokevirtual 167, 3) := by decide +kernel
theorem d_S_hasLines_68 : decode b_S_hasLines 68 = .ok (.ireturn, 1) := by decide +kernel
theorem d_S_hasLines_69 : decode b_S_hasLines 69 = .ok (.aload_n 1, 1) := by decide +kernel
theorem d_S_hasLines_70 : decode b_S_hasLines 70 = .ok (.getfield 51, 3) := by decide +kernel
theorem d_S_hasLines_73 : decode b_S_hasLines 73 = .ok (.ifnull (7), 3) := by decide +kernel
theorem d_S_hasLines_76 : decode b_S_hasLines 76 = .ok (.iconst 1, 1) := by decide +kernel
theorem d_S_hasLines_77 : decode b_S_hasLines 77 = .ok (.goto (4), 3) := by decide +kernel
theorem d_S_hasLines_80 : decode b_S_hasLines 80 = .ok (.iconst 0, 1) := by decide +kernel
theorem d_S_hasLines_81 : decode b_S_hasLines 81 = .ok (.ireturn, 1) := by decide +kernel
theorem d_S_hasLines_82 : decode b_S_hasLines 82 = .ok (.aload_n 0, 1) := by decide +kernel
theorem d_S_hasLines_83 : decode b_S_hasLines 83 = .ok (.aload_n 1, 1) := by decide +kernel
theorem d_S_hasLines_84 : decode b_S_hasLines 84 = .ok (.getfield 83, 3) := by decide +kernel
theorem d_S_hasLines_87 : decode b_S_hasLines 87 = .ok (.aload_n 2, 1) := by decide +kernel
theorem d_S_hasLines_88 : decode b_S_hasLines 88 = .ok (.getfield 86, 3) := by decide +kernel
theorem d_S_hasLines_91 : decode b_S_hasLines 91 = .ok (.invokevirtual 170, 3) := by decide +kernel
theorem d_S_hasLines_94 : decode b_S_hasLines 94 = .ok (.ireturn, 1) := by decide +kernel
theorem d_S_holdsLines_0 : decode b_S_holdsLines 0 = .ok (.aload_n 1, 1) := by decide +kernel
theorem d_S_holdsLines_1 : decode b_S_holdsLines 1 = .ok (.getfield 51, 3) := by decide +kernel
theorem d_S_holdsLines_4 : decode b_S_holdsLines 4 = .ok (.astore_n 2, 1) := by decide +kernel
theorem d_S_holdsLines_5 : decode b_S_holdsLines 5 = .ok (.aload_n 2, 1) := by decide +kernel
theorem d_S_holdsLines_6 : decode b_S_holdsLines 6 = .ok (.ifnull (22), 3) := by decide +kernel
theorem d_S_holdsLines_9 : decode b_S_holdsLines 9 = .ok (.aload_n 0, 1) := by decide +kernel
theorem d_S_holdsLines_10 : decode b_S_holdsLines 10 = .ok (.aload_n 2, 1) := by decide +kernel
theorem d_S_holdsLines_11 : decode b_S_holdsLines 11 = .ok (.aload_n 2, 1) := by decide +kernel
theorem d_S_holdsLines_12 : decode b_S_holdsLines 12 = .ok (.invokevirtual 59, 3) := by decide +kernel
theorem d_S_holdsLines_15 : decode b_S_holdsLines 15 = .ok (.ifCond .eq (5), 3) := by decide +kernel
theorem d_S_holdsLines_18 : decode b_S_holdsLines 18 = .ok (.iconst 1, 1) := by decide +kernel
theorem d_S_holdsLines_19 : decode b_S_holdsLines 19 = .ok (.ireturn, 1) := by decide +kernel
theorem d_S_holdsLines_20 : decode b_S_holdsLines 20 = .ok (.aload_n 2, 1) := by decide +kernel
theorem d_S_holdsLines_21 : decode b_S_holdsLines 21 = .ok (.getfield 70, 3) := by decide +kernel
theorem d_S_holdsLines_24 : decode b_S_holdsLines 24 = .ok (.astore_n 2, 1) := by decide +kernel
theorem d_S_holdsLines_25 : decode b_S_holdsLines 25 = .ok (.goto (-20), 3) := by decide +kernel
theorem d_S_holdsLines_28 : decode b_S_holdsLines 28 = .ok (.iconst 0, 1) := by decide +kernel
theorem d_S_holdsLines_29 : decode b_S_holdsLines 29 = .ok (.ireturn, 1) := by decide +kernel
theorem d_S_holdsParagraph_0 : decode b_S_holdsParagraph 0 = .ok (.aload_n 1, 1) := by decide +kernel
theorem d_S_holdsParagraph_1 : decode b_S_holdsParagraph 1 = .ok (.getfield 51, 3) := by decide +kernel
theorem d_S_holdsParagraph_4 : decode b_S_holdsParagraph 4 = .ok (.astore_n 2, 1) := by decide +kernel
theorem d_S_holdsParagraph_5 : decode b_S_holdsParagraph 5 = .ok (.aload_n 2, 1) := by decide +kernel
theorem d_S_holdsParagraph_6 : decode b_S_holdsParagraph 6 = .ok (.ifnull (35), 3) := by decide +kernel
theorem d_S_holdsParagraph_9 : decode b_S_holdsParagraph 9 = .ok (.aload_n 2, 1) := by decide +kernel
theorem d_S_holdsParagraph_10 : decode b_S_holdsParagraph 10 = .ok (.getfield 41, 3) := by decide +kernel
theorem d_S_holdsParagraph_13 : decode b_S_holdsParagraph 13 = .ok (.ifCond .ne (20), 3) := by decide +kernel
theorem d_S_holdsParagraph_16 : decode b_S_holdsParagraph 16 = .ok (.aload_n 0, 1) := by decide +kernel
theorem d_S_holdsParagraph_17 : decode b_S_holdsParagraph 17 = .ok (.aload_n 2, 1) := by decide +kernel
theorem d_S_holdsParagraph_18 : decode b_S_holdsParagraph 18 = .ok (.getfield 83, 3) := by decide +kernel
theorem d_S_holdsParagraph_21 : decode b_S_holdsParagraph 21 = .ok (.aload_n 2, 1) := by decide +kernel
theorem d_S_holdsParagraph_22 : decode b_S_holdsParagraph 22 = .ok (.getfield 86, 3) := by decide +kernel
theorem d_S_holdsParagraph_25 : decode b_S_holdsParagraph 25 = .ok (.invokevirtual 170, 3) := by decide +kernel
theorem d_S_holdsParagraph_28 : decode b_S_holdsParagraph 28 = .ok (.ifCond .eq (5), 3) := by decide +kernel
theorem d_S_holdsParagraph_31 : decode b_S_holdsParagraph 31 = .ok (.iconst 1, 1) := by decide +kernel
theorem d_S_holdsParagraph_32 : decode b_S_holdsParagraph 32 = .ok (.ireturn, 1) := by decide +kernel
theorem d_S_holdsParagraph_33 : decode b_S_holdsParagraph 33 = .ok (.aload_n 2, 1) := by decide +kernel
theorem d_S_holdsParagraph_34 : decode b_S_holdsParagraph 34 = .ok (.getfield 70, 3) := by decide +kernel
theorem d_S_holdsParagraph_37 : decode b_S_holdsParagraph 37 = .ok (.astore_n 2, 1) := by decide +kernel
theorem d_S_holdsParagraph_38 : decode b_S_holdsParagraph 38 = .ok (.goto (-33), 3) := by decide +kernel
theorem d_S_holdsParagraph_41 : decode b_S_holdsParagraph 41 = .ok (.iconst 0, 1) := by decide +kernel
theorem d_S_holdsParagraph_42 : decode b_S_holdsParagraph 42 = .ok (.ireturn, 1) := by decide +kernel
theorem d_S_hasWords_0 : decode b_S_hasWords 0 = .ok (.iload_n 1, 1) := by decide +kernel
theorem d_S_hasWords_1 : decode b_S_hasWords 1 = .ok (.istore_n 3, 1) := by decide +kernel
theorem d_S_hasWords_2 : decode b_S_hasWords 2 = .ok (.iload_n 3, 1) := by decide +kernel
end
section
theorem d_S_hasWords_3 : decode b_S_hasWords 3 = .ok (.iload_n 2, 1) := by decide +kernel
theorem d_S_hasWords_4 : decode b_S_hasWords 4 = .ok (.if_icmp .ge (25), 3) := by decide +kernel
theorem d_S_hasWords_7 : decode b_S_hasWords 7 = .ok (.aload_n 0, 1) := by decide +kernel
theorem d_S_hasWords_8 : decode b_S_hasWords 8 = .ok (.getfield 12, 3) := by decide +kernel
theorem d_S_hasWords_11 : decode b_S_hasWords 11 = .ok (.iload_n 3, 1) := by decide +kernel
theorem d_S_hasWords_12 : decode b_S_hasWords 12 = .ok (.invokevirtual 125, 3) := by decide +kernel
theorem d_S_hasWords_15 : decode b_S_hasWords 15 = .ok (.invokestatic 148, 3) := by decide +kernel
theorem d_S_hasWords_18 : decode b_S_hasWords 18 = .ok (.ifCond .ne (5), 3) := by decide +kernel
theorem d_S_hasWords_21 : decode b_S_hasWords 21 = .ok (.iconst 1, 1) := by decide +kernel
theorem d_S_hasWords_22 : decode b_S_hasWords 22 = .ok (.ireturn, 1) := by decide +kernel
theorem d_S_hasWords_23 : decode b_S_hasWords 23 = .ok (.iinc 3 (1), 3) := by decide +kernel
theorem d_S_hasWords_26 : decode b_S_hasWords 26 = .ok (.goto (-24), 3) := by decide +kernel
theorem d_S_hasWords_29 : decode b_S_hasWords 29 = .ok (.iconst 0, 1) := by decide +kernel
theorem d_S_hasWords_30 : decode b_S_hasWords 30 = .ok (.ireturn, 1) := by decide +kernel
theorem d_S_narrower_0 : decode b_S_narrower 0 = .ok (.iconst 4, 1) := by decide +kernel
theorem d_S_narrower_1 : decode b_S_narrower 1 = .ok (.iload_n 0, 1) := by decide +kernel
theorem d_S_narrower_2 : decode b_S_narrower 2 = .ok (.iload_n 1, 1) := by decide +kernel
theorem d_S_narrower_3 : decode b_S_narrower 3 = .ok (.isub, 1) := by decide +kernel
theorem d_S_narrower_4 : decode b_S_narrower 4 = .ok (.invokestatic 174, 3) := by decide +kernel
theorem d_S_narrower_7 : decode b_S_narrower 7 = .ok (.ireturn, 1) := by decide +kernel
theorem d_T_init_0 : decode b_T_init 0 = .ok (.aload_n 0, 1) := by decide +kernel
theorem d_T_init_1 : decode b_T_init 1 = .ok (.invokespecial 3, 3) := by decide +kernel
theorem d_T_init_4 : decode b_T_init 4 = .ok (.aload_n 0, 1) := by decide +kernel
theorem d_T_init_5 : decode b_T_init 5 = .ok (.new 9, 3) := by decide +kernel
theorem d_T_init_8 : decode b_T_init 8 = .ok (.dup, 1) := by decide +kernel
theorem d_T_init_9 : decode b_T_init 9 = .ok (.invokespecial 11, 3) := by decide +kernel
theorem d_T_init_12 : decode b_T_init 12 = .ok (.putfield 12, 3) := by decide +kernel
theorem d_T_init_15 : decode b_T_init 15 = .ok (.aload_n 0, 1) := by decide +kernel
theorem d_T_init_16 : decode b_T_init 16 = .ok (.new 9, 3) := by decide +kernel
theorem d_T_init_19 : decode b_T_init 19 = .ok (.dup, 1) := by decide +kernel
theorem d_T_init_20 : decode b_T_init 20 = .ok (.invokespecial 11, 3) := by decide +kernel
theorem d_T_init_23 : decode b_T_init 23 = .ok (.putfield 18, 3) := by decide +kernel
theorem d_T_init_26 : decode b_T_init 26 = .ok (.aload_n 0, 1) := by decide +kernel
theorem d_T_init_27 : decode b_T_init 27 = .ok (.new 9, 3) := by decide +kernel
theorem d_T_init_30 : decode b_T_init 30 = .ok (.dup, 1) := by decide +kernel
theorem d_T_init_31 : decode b_T_init 31 = .ok (.invokespecial 11, 3) := by decide +kernel
theorem d_T_init_34 : decode b_T_init 34 = .ok (.putfield 21, 3) := by decide +kernel
theorem d_T_init_37 : decode b_T_init 37 = .ok (.aload_n 0, 1) := by decide +kernel
theorem d_T_init_38 : decode b_T_init 38 = .ok (.new 9, 3) := by decide +kernel
theorem d_T_init_41 : decode b_T_init 41 = .ok (.dup, 1) := by decide +kernel
theorem d_T_init_42 : decode b_T_init 42 = .ok (.invokespecial 11, 3) := by decide +kernel
theorem d_T_init_45 : decode b_T_init 45 = .ok (.putfield 24, 3) := by decide +kernel
theorem d_T_init_48 : decode b_T_init 48 = .ok (.aload_n 0, 1) := by decide +kernel
theorem d_T_init_49 : decode b_T_init 49 = .ok (.new 9, 3) := by decide +kernel
theorem d_T_init_52 : decode b_T_init 52 = .ok (.dup, 1) := by decide +kernel
theorem d_T_init_53 : decode b_T_init 53 = .ok (.invokespecial 11, 3) := by decide +kernel
theorem d_T_init_56 : decode b_T_init 56 = .ok (.putfield 27, 3) := by decide +kernel
theorem d_T_init_59 : decode b_T_init 59 = .ok (.aload_n 0, 1) := by decide +kernel
theorem d_T_init_60 : decode b_T_init 60 = .ok (.new 9, 3) := by decide +kernel
theorem d_T_init_63 : decode b_T_init 63 = .ok (.dup, 1) := by decide +kernel
theorem d_T_init_64 : decode b_T_init 64 = .ok (.invokespecial 11, 3) := by decide +kernel
theorem d_T_init_67 : decode b_T_init 67 = .ok (.putfield 30, 3) := by decide +kernel
theorem d_T_init_70 : decode b_T_init 70 = .ok (.aload_n 0, 1) := by decide +kernel
theorem d_T_init_71 : decode b_T_init 71 = .ok (.new 9, 3) := by decide +kernel
theorem d_T_init_74 : decode b_T_init 74 = .ok (.dup, 1) := by decide +kernel
theorem d_T_init_75 : decode b_T_init 75 = .ok (.invokespecial 11, 3) := by decide +kernel
theorem d_T_init_78 : decode b_T_init 78 = .ok (.putfield 33, 3) := by decide +kernel
theorem d_T_init_81 : decode b_T_init 81 = .ok (.aload_n 0, 1) := by decide +kernel
theorem d_T_init_82 : decode b_T_init 82 = .ok (.new 9, 3) := by decide +kernel
theorem d_T_init_85 : decode b_T_init 85 = .ok (.dup, 1) := by decide +kernel
theorem d_T_init_86 : decode b_T_init 86 = .ok (.invokespecial 11, 3) := by decide +kernel
theorem d_T_init_89 : decode b_T_init 89 = .ok (.putfield 36, 3) := by decide +kernel
theorem d_T_init_92 : decode b_T_init 92 = .ok (.return_, 1) := by decide +kernel
theorem d_T_lineCount_0 : decode b_T_lineCount 0 = .ok (.aload_n 0, 1) := by decide +kernel
theorem d_T_lineCount_1 : decode b_T_lineCount 1 = .ok (.getfield 18, 3) := by decide +kernel
theorem d_T_lineCount_4 : decode b_T_lineCount 4 = .ok (.invokevirtual 39, 3) := by decide +kernel
theorem d_T_lineCount_7 : decode b_T_lineCount 7 = .ok (.ireturn, 1) := by decide +kernel
theorem d_T_pageCount_0 : decode b_T_pageCount 0 = .ok (.aload_n 0, 1) := by decide +kernel
theorem d_T_pageCount_1 : decode b_T_pageCount 1 = .ok (.getfield 33, 3) := by decide +kernel
theorem d_T_pageCount_4 : decode b_T_pageCount 4 = .ok (.invokevirtual 39, 3) := by decide +kernel
theorem d_T_pageCount_7 : decode b_T_pageCount 7 = .ok (.ireturn, 1) := by decide +kernel
theorem d_T_reset_0 : decode b_T_reset 0 = .ok (.aload_n 0, 1) := by decide +kernel
theorem d_T_reset_1 : decode b_T_reset 1 = .ok (.getfield 12, 3) := by decide +kernel
theorem d_T_reset_4 : decode b_T_reset 4 = .ok (.iconst 0, 1) := by decide +kernel
theorem d_T_reset_5 : decode b_T_reset 5 = .ok (.invokevirtual 43, 3) := by decide +kernel
theorem d_T_reset_8 : decode b_T_reset 8 = .ok (.aload_n 0, 1) := by decide +kernel
theorem d_T_reset_9 : decode b_T_reset 9 = .ok (.getfield 18, 3) := by decide +kernel
theorem d_T_reset_12 : decode b_T_reset 12 = .ok (.iconst 0, 1) := by decide +kernel
theorem d_T_reset_13 : decode b_T_reset 13 = .ok (.invokevirtual 43, 3) := by decide +kernel
theorem d_T_reset_16 : decode b_T_reset 16 = .ok (.aload_n 0, 1) := by decide +kernel
theorem d_T_reset_17 : decode b_T_reset 17 = .ok (.getfield 21, 3) := by decide +kernel
theorem d_T_reset_20 : decode b_T_reset 20 = .ok (.iconst 0, 1) := by decide +kernel
theorem d_T_reset_21 : decode b_T_reset 21 = .ok (.invokevirtual 43, 3) := by decide +kernel
theorem d_T_reset_24 : decode b_T_reset 24 = .ok (.aload_n 0, 1) := by decide +kernel
theorem d_T_reset_25 : decode b_T_reset 25 = .ok (.getfield 24, 3) := by decide +kernel
theorem d_T_reset_28 : decode b_T_reset 28 = .ok (.iconst 0, 1) := by decide +kernel
theorem d_T_reset_29 : decode b_T_reset 29 = .ok (.invokevirtual 43, 3) := by decide +kernel
theorem d_T_reset_32 : decode b_T_reset 32 = .ok (.aload_n 0, 1) := by decide +kernel
theorem d_T_reset_33 : decode b_T_reset 33 = .ok (.getfield 27, 3) := by decide +kernel
theorem d_T_reset_36 : decode b_T_reset 36 = .ok (.iconst 0, 1) := by decide +kernel
theorem d_T_reset_37 : decode b_T_reset 37 = .ok (.invokevirtual 43, 3) := by decide +kernel
theorem d_T_reset_40 : decode b_T_reset 40 = .ok (.aload_n 0, 1) := by decide +kernel
theorem d_T_reset_41 : decode b_T_reset 41 = .ok (.getfield 30, 3) := by decide +kernel
theorem d_T_reset_44 : decode b_T_reset 44 = .ok (.iconst 0, 1) := by decide +kernel
theorem d_T_reset_45 : decode b_T_reset 45 = .ok (.invokevirtual 43, 3) := by decide +kernel
theorem d_T_reset_48 : decode b_T_reset 48 = .ok (.aload_n 0, 1) := by decide +kernel
theorem d_T_reset_49 : decode b_T_reset 49 = .ok (.getfield 33, 3) := by decide +kernel
theorem d_T_reset_52 : decode b_T_reset 52 = .ok (.iconst 0, 1) := by decide +kernel
theorem d_T_reset_53 : decode b_T_reset 53 = .ok (.invokevirtual 43, 3) := by decide +kernel
theorem d_T_reset_56 : decode b_T_reset 56 = .ok (.aload_n 0, 1) := by decide +kernel
theorem d_T_reset_57 : decode b_T_reset 57 = .ok (.getfield 36, 3) := by decide +kernel
theorem d_T_reset_60 : decode b_T_reset 60 = .ok (.iconst 0, 1) := by decide +kernel
theorem d_T_reset_61 : decode b_T_reset 61 = .ok (.invokevirtual 43, 3) := by decide +kernel
theorem d_T_reset_64 : decode b_T_reset 64 = .ok (.aload_n 0, 1) := by decide +kernel
theorem d_T_reset_65 : decode b_T_reset 65 = .ok (.iload_n 1, 1) := by decide +kernel
theorem d_T_reset_66 : decode b_T_reset 66 = .ok (.putfield 47, 3) := by decide +kernel
theorem d_T_reset_69 : decode b_T_reset 69 = .ok (.aload_n 0, 1) := by decide +kernel
theorem d_T_reset_70 : decode b_T_reset 70 = .ok (.iload_n 2, 1) := by decide +kernel
theorem d_T_reset_71 : decode b_T_reset 71 = .ok (.putfield 51, 3) := by decide +kernel
theorem d_T_reset_74 : decode b_T_reset 74 = .ok (.aload_n 0, 1) := by decide +kernel
theorem d_T_reset_75 : decode b_T_reset 75 = .ok (.iconst 0, 1) := by decide +kernel
theorem d_T_reset_76 : decode b_T_reset 76 = .ok (.putfield 54, 3) := by decide +kernel
theorem d_T_reset_79 : decode b_T_reset 79 = .ok (.return_, 1) := by decide +kernel
theorem d_T_addLine_0 : decode b_T_addLine 0 = .ok (.aload_n 0, 1) := by decide +kernel
theorem d_T_addLine_1 : decode b_T_addLine 1 = .ok (.getfield 18, 3) := by decide +kernel
theorem d_T_addLine_4 : decode b_T_addLine 4 = .ok (.invokevirtual 39, 3) := by decide +kernel
theorem d_T_addLine_7 : decode b_T_addLine 7 = .ok (.sipush (1500), 3) := by decide +kernel
theorem d_T_addLine_10 : decode b_T_addLine 10 = .ok (.if_icmp .lt (9), 3) := by decide +kernel
theorem d_T_addLine_13 : decode b_T_addLine 13 = .ok (.aload_n 0, 1) := by decide +kernel
theorem d_T_addLine_14 : decode b_T_addLine 14 = .ok (.iconst 1, 1) := by decide +kernel
theorem d_T_addLine_15 : decode b_T_addLine 15 = .ok (.putfield 54, 3) := by decide +kernel
theorem d_T_addLine_18 : decode b_T_addLine 18 = .ok (.return_, 1) := by decide +kernel
theorem d_T_addLine_19 : decode b_T_addLine 19 = .ok (.aload_n 0, 1) := by decide +kernel
theorem d_T_addLine_20 : decode b_T_addLine 20 = .ok (.getfield 12, 3) := by decide +kernel
theorem d_T_addLine_23 : decode b_T_addLine 23 = .ok (.invokevirtual 39, 3) := by decide +kernel
theorem d_T_addLine_26 : decode b_T_addLine 26 = .ok (.istore 4, 2) := by decide +kernel
theorem d_T_addLine_28 : decode b_T_addLine 28 = .ok (.aload_n 0, 1) := by decide +kernel
theorem d_T_addLine_29 : decode b_T_addLine 29 = .ok (.getfield 12, 3) := by decide +kernel
theorem d_T_addLine_32 : decode b_T_addLine 32 = .ok (.aload_n 1, 1) := by decide +kernel
theorem d_T_addLine_33 : decode b_T_addLine 33 = .ok (.invokevirtual 58, 3) := by decide +kernel
theorem d_T_addLine_36 : decode b_T_addLine 36 = .ok (.aload_n 0, 1) := by decide +kernel
theorem d_T_addLine_37 : decode b_T_addLine 37 = .ok (.getfield 12, 3) := by decide +kernel
theorem d_T_addLine_40 : decode b_T_addLine 40 = .ok (.aload_n 2, 1) := by decide +kernel
theorem d_T_addLine_41 : decode b_T_addLine 41 = .ok (.invokevirtual 58, 3) := by decide +kernel
theorem d_T_addLine_44 : decode b_T_addLine 44 = .ok (.aload_n 0, 1) := by decide +kernel
theorem d_T_addLine_45 : decode b_T_addLine 45 = .ok (.getfield 12, 3) := by decide +kernel
theorem d_T_addLine_48 : decode b_T_addLine 48 = .ok (.invokevirtual 39, 3) := by decide +kernel
theorem d_T_addLine_51 : decode b_T_addLine 51 = .ok (.istore 5, 2) := by decide +kernel
theorem d_T_addLine_53 : decode b_T_addLine 53 = .ok (.iload 5, 2) := by decide +kernel
theorem d_T_addLine_55 : decode b_T_addLine 55 = .ok (.iload 4, 2) := by decide +kernel
theorem d_T_addLine_57 : decode b_T_addLine 57 = .ok (.if_icmp .le (25), 3) := by decide +kernel
theorem d_T_addLine_60 : decode b_T_addLine 60 = .ok (.aload_n 0, 1) := by decide +kernel
theorem d_T_addLine_61 : decode b_T_addLine 61 = .ok (.getfield 12, 3) := by decide +kernel
theorem d_T_addLine_64 : decode b_T_addLine 64 = .ok (.iload 5, 2) := by decide +kernel
theorem d_T_addLine_66 : decode b_T_addLine 66 = .ok (.iconst 1, 1) := by decide +kernel
theorem d_T_addLine_67 : decode b_T_addLine 67 = .ok (.isub, 1) := by decide +kernel
theorem d_T_addLine_68 : decode b_T_addLine 68 = .ok (.invokevirtual 62, 3) := by decide +kernel
theorem d_T_addLine_71 : decode b_T_addLine 71 = .ok (.bipush (32), 2) := by decide +kernel
theorem d_T_addLine_73 : decode b_T_addLine 73 = .ok (.if_icmp .ne (9), 3) := by decide +kernel
theorem d_T_addLine_76 : decode b_T_addLine 76 = .ok (.iinc 5 (-1), 3) := by decide +kernel
theorem d_T_addLine_79 : decode b_T_addLine 79 = .ok (.goto (-26), 3) := by decide +kernel
theorem d_T_addLine_82 : decode b_T_addLine 82 = .ok (.aload_n 0, 1) := by decide +kernel
theorem d_T_addLine_83 : decode b_T_addLine 83 = .ok (.getfield 12, 3) := by decide +kernel
theorem d_T_addLine_86 : decode b_T_addLine 86 = .ok (.iload 5, 2) := by decide +kernel
theorem d_T_addLine_88 : decode b_T_addLine 88 = .ok (.invokevirtual 43, 3) := by decide +kernel
theorem d_T_addLine_91 : decode b_T_addLine 91 = .ok (.aload_n 0, 1) := by decide +kernel
theorem d_T_addLine_92 : decode b_T_addLine 92 = .ok (.getfield 18, 3) := by decide +kernel
theorem d_T_addLine_95 : decode b_T_addLine 95 = .ok (.iload 4, 2) := by decide +kernel
theorem d_T_addLine_97 : decode b_T_addLine 97 = .ok (.invokevirtual 66, 3) := by decide +kernel
theorem d_T_addLine_100 : decode b_T_addLine 100 = .ok (.aload_n 0, 1) := by decide +kernel
theorem d_T_addLine_101 : decode b_T_addLine 101 = .ok (.getfield 21, 3) := by decide +kernel
theorem d_T_addLine_104 : decode b_T_addLine 104 = .ok (.iload 5, 2) := by decide +kernel
theorem d_T_addLine_106 : decode b_T_addLine 106 = .ok (.iload 4, 2) := by decide +kernel
theorem d_T_addLine_108 : decode b_T_addLine 108 = .ok (.isub, 1) := by decide +kernel
theorem d_T_addLine_109 : decode b_T_addLine 109 = .ok (.invokevirtual 66, 3) := by decide +kernel
theorem d_T_addLine_112 : decode b_T_addLine 112 = .ok (.aload_n 0, 1) := by decide +kernel
theorem d_T_addLine_113 : decode b_T_addLine 113 = .ok (.getfield 24, 3) := by decide +kernel
theorem d_T_addLine_116 : decode b_T_addLine 116 = .ok (.iconst (-1), 1) := by decide +kernel
theorem d_T_addLine_117 : decode b_T_addLine 117 = .ok (.invokevirtual 66, 3) := by decide +kernel
theorem d_T_addLine_120 : decode b_T_addLine 120 = .ok (.aload_n 0, 1) := by decide +kernel
theorem d_T_addLine_121 : decode b_T_addLine 121 = .ok (.getfield 27, 3) := by decide +kernel
theorem d_T_addLine_124 : decode b_T_addLine 124 = .ok (.iconst 0, 1) := by decide +kernel
theorem d_T_addLine_125 : decode b_T_addLine 125 = .ok (.invokevirtual 66, 3) := by decide +kernel
theorem d_T_addLine_128 : decode b_T_addLine 128 = .ok (.aload_n 0, 1) := by decide +kernel
theorem d_T_addLine_129 : decode b_T_addLine 129 = .ok (.getfield 30, 3) := by decide +kernel
theorem d_T_addLine_132 : decode b_T_addLine 132 = .ok (.iload_n 3, 1) := by decide +kernel
theorem d_T_addLine_133 : decode b_T_addLine 133 = .ok (.invokevirtual 66, 3) := by decide +kernel
theorem d_T_addLine_136 : decode b_T_addLine 136 = .ok (.return_, 1) := by decide +kernel
theorem d_T_fillPages_0 : decode b_T_fillPages 0 = .ok (.iconst 0, 1) := by decide +kernel
theorem d_T_fillPages_1 : decode b_T_fillPages 1 = .ok (.istore_n 1, 1) := by decide +kernel
theorem d_T_fillPages_2 : decode b_T_fillPages 2 = .ok (.iconst 0, 1) := by decide +kernel
theorem d_T_fillPages_3 : decode b_T_fillPages 3 = .ok (.istore_n 2, 1) := by decide +kernel
theorem d_T_fillPages_4 : decode b_T_fillPages 4 = .ok (.iload_n 2, 1) := by decide +kernel
theorem d_T_fillPages_5 : decode b_T_fillPages 5 = .ok (.aload_n 0, 1) := by decide +kernel
theorem d_T_fillPages_6 : decode b_T_fillPages 6 = .ok (.invokevirtual 69, 3) := by decide +kernel
theorem d_T_fillPages_9 : decode b_T_fillPages 9 = .ok (.if_icmp .ge (101), 3) := by decide +kernel
theorem d_T_fillPages_12 : decode b_T_fillPages 12 = .ok (.iload_n 1, 1) := by decide +kernel
theorem d_T_fillPages_13 : decode b_T_fillPages 13 = .ok (.aload_n 0, 1) := by decide +kernel
theorem d_T_fillPages_14 : decode b_T_fillPages 14 = .ok (.getfield 47, 3) := by decide +kernel
theorem d_T_fillPages_17 : decode b_T_fillPages 17 = .ok (.if_icmp .ge (16), 3) := by decide +kernel
theorem d_T_fillPages_20 : decode b_T_fillPages 20 = .ok (.iload_n 1, 1) := by decide +kernel
theorem d_T_fillPages_21 : decode b_T_fillPages 21 = .ok (.ifCond .le (14), 3) := by decide +kernel
theorem d_T_fillPages_24 : decode b_T_fillPages 24 = .ok (.aload_n 0, 1) := by decide +kernel
theorem d_T_fillPages_25 : decode b_T_fillPages 25 = .ok (.iload_n 2, 1) := by decide +kernel
theorem d_T_fillPages_26 : decode b_T_fillPages 26 = .ok (.iload_n 1, 1) := by decide +kernel
theorem d_T_fillPages_27 : decode b_T_fillPages 27 = .ok (.invokevirtual 72, 3) := by decide +kernel
theorem d_T_fillPages_30 : decode b_T_fillPages 30 = .ok (.ifCond .eq (5), 3) := by decide +kernel
theorem d_T_fillPages_33 : decode b_T_fillPages 33 = .ok (.iconst 0, 1) := by decide +kernel
theorem d_T_fillPages_34 : decode b_T_fillPages 34 = .ok (.istore_n 1, 1) := by decide +kernel
theorem d_T_fillPages_35 : decode b_T_fillPages 35 = .ok (.iload_n 1, 1) := by decide +kernel
theorem d_T_fillPages_36 : decode b_T_fillPages 36 = .ok (.ifCond .ne (17), 3) := by decide +kernel
theorem d_T_fillPages_39 : decode b_T_fillPages 39 = .ok (.aload_n 0, 1) := by decide +kernel
theorem d_T_fillPages_40 : decode b_T_fillPages 40 = .ok (.getfield 21, 3) := by decide +kernel
theorem d_T_fillPages_43 : decode b_T_fillPages 43 = .ok (.iload_n 2, 1) := by decide +kernel
theorem d_T_fillPages_44 : decode b_T_fillPages 44 = .ok (.invokevirtual 62, 3) := by decide +kernel
theorem d_T_fillPages_47 : decode b_T_fillPages 47 = .ok (.ifCond .ne (6), 3) := by decide +kernel
theorem d_T_fillPages_50 : decode b_T_fillPages 50 = .ok (.goto (54), 3) := by decide +kernel
theorem d_T_fillPages_53 : decode b_T_fillPages 53 = .ok (.iload_n 1, 1) := by decide +kernel
theorem d_T_fillPages_54 : decode b_T_fillPages 54 = .ok (.ifCond .ne (19), 3) := by decide +kernel
theorem d_T_fillPages_57 : decode b_T_fillPages 57 = .ok (.aload_n 0, 1) := by decide +kernel
theorem d_T_fillPages_58 : decode b_T_fillPages 58 = .ok (.getfield 33, 3) := by decide +kernel
theorem d_T_fillPages_61 : decode b_T_fillPages 61 = .ok (.iload_n 2, 1) := by decide +kernel
theorem d_T_fillPages_62 : decode b_T_fillPages 62 = .ok (.invokevirtual 66, 3) := by decide +kernel
theorem d_T_fillPages_65 : decode b_T_fillPages 65 = .ok (.aload_n 0, 1) := by decide +kernel
theorem d_T_fillPages_66 : decode b_T_fillPages 66 = .ok (.getfield 36, 3) := by decide +kernel
theorem d_T_fillPages_69 : decode b_T_fillPages 69 = .ok (.iconst 0, 1) := by decide +kernel
theorem d_T_fillPages_70 : decode b_T_fillPages 70 = .ok (.invokevirtual 66, 3) := by decide +kernel
theorem d_T_fillPages_73 : decode b_T_fillPages 73 = .ok (.iinc 1 (1), 3) := by decide +kernel
theorem d_T_fillPages_76 : decode b_T_fillPages 76 = .ok (.aload_n 0, 1) := by decide +kernel
theorem d_T_fillPages_77 : decode b_T_fillPages 77 = .ok (.getfield 24, 3) := by decide +kernel
theorem d_T_fillPages_80 : decode b_T_fillPages 80 = .ok (.iload_n 2, 1) := by decide +kernel
theorem d_T_fillPages_81 : decode b_T_fillPages 81 = .ok (.aload_n 0, 1) := by decide +kernel
theorem d_T_fillPages_82 : decode b_T_fillPages 82 = .ok (.invokevirtual 76, 3) := by decide +kernel
theorem d_T_fillPages_85 : decode b_T_fillPages 85 = .ok (.iconst 1, 1) := by decide +kernel
theorem d_T_fillPages_86 : decode b_T_fillPages 86 = .ok (.isub, 1) := by decide +kernel
theorem d_T_fillPages_87 : decode b_T_fillPages 87 = .ok (.invokevirtual 79, 3) := by decide +kernel
theorem d_T_fillPages_90 : decode b_T_fillPages 90 = .ok (.aload_n 0, 1) := by decide +kernel
theorem d_T_fillPages_91 : decode b_T_fillPages 91 = .ok (.getfield 36, 3) := by decide +kernel
theorem d_T_fillPages_94 : decode b_T_fillPages 94 = .ok (.aload_n 0, 1) := by decide +kernel
theorem d_T_fillPages_95 : decode b_T_fillPages 95 = .ok (.invokevirtual 76, 3) := by decide +kernel
theorem d_T_fillPages_98 : decode b_T_fillPages 98 = .ok (.iconst 1, 1) := by decide +kernel
theorem d_T_fillPages_99 : decode b_T_fillPages 99 = .ok (.isub, 1) := by decide +kernel
theorem d_T_fillPages_100 : decode b_T_fillPages 100 = .ok (.iload_n 1, 1) := by decide +kernel
theorem d_T_fillPages_101 : decode b_T_fillPages 101 = .ok (.invokevirtual 79, 3) := by decide +kernel
theorem d_T_fillPages_104 : decode b_T_fillPages 104 = .ok (.iinc 2 (1), 3) := by decide +kernel
theorem d_T_fillPages_107 : decode b_T_fillPages 107 = .ok (.goto (-103), 3) := by decide +kernel
theorem d_T_fillPages_110 : decode b_T_fillPages 110 = .ok (.aload_n 0, 1) := by decide +kernel
theorem d_T_fillPages_111 : decode b_T_fillPages 111 = .ok (.invokevirtual 76, 3) := by decide +kernel
theorem d_T_fillPages_114 : decode b_T_fillPages 114 = .ok (.ifCond .ne (22), 3) := by decide +kernel
theorem d_T_fillPages_117 : decode b_T_fillPages 117 = .ok (.aload_n 0, 1) := by decide +kernel
theorem d_T_fillPages_118 : decode b_T_fillPages 118 = .ok (.getfield 33, 3) := by decide +kernel
theorem d_T_fillPages_121 : decode b_T_fillPages 121 = .ok (.aload_n 0, 1) := by decide +kernel
theorem d_T_fillPages_122 : decode b_T_fillPages 122 = .ok (.invokevirtual 69, 3) := by decide +kernel
theorem d_T_fillPages_125 : decode b_T_fillPages 125 = .ok (.invokevirtual 66, 3) := by decide +kernel
theorem d_T_fillPages_128 : decode b_T_fillPages 128 = .ok (.aload_n 0, 1) := by decide +kernel
theorem d_T_fillPages_129 : decode b_T_fillPages 129 = .ok (.getfield 36, 3) := by decide +kernel
theorem d_T_fillPages_132 : decode b_T_fillPages 132 = .ok (.iconst 0, 1) := by decide +kernel
theorem d_T_fillPages_133 : decode b_T_fillPages 133 = .ok (.invokevirtual 66, 3) := by decide +kernel
theorem d_T_fillPages_136 : decode b_T_fillPages 136 = .ok (.return_, 1) := by decide +kernel
theorem d_T_isPageEndedBy_0 : decode b_T_isPageEndedBy 0 = .ok (.aload_n 0, 1) := by decide +kernel
theorem d_T_isPageEndedBy_1 : decode b_T_isPageEndedBy 1 = .ok (.getfield 27, 3) := by decide +kernel
theorem d_T_isPageEndedBy_4 : decode b_T_isPageEndedBy 4 = .ok (.iload_n 1, 1) := by decide +kernel
theorem d_T_isPageEndedBy_5 : decode b_T_isPageEndedBy 5 = .ok (.invokevirtual 62, 3) := by decide +kernel
theorem d_T_isPageEndedBy_8 : decode b_T_isPageEndedBy 8 = .ok (.istore_n 3, 1) := by decide +kernel
theorem d_T_isPageEndedBy_9 : decode b_T_isPageEndedBy 9 = .ok (.iload_n 3, 1) := by decide +kernel
theorem d_T_isPageEndedBy_10 : decode b_T_isPageEndedBy 10 = .ok (.ifCond .gt (5), 3) := by decide +kernel
theorem d_T_isPageEndedBy_13 : decode b_T_isPageEndedBy 13 = .ok (.iconst 0, 1) := by decide +kernel
theorem d_T_isPageEndedBy_14 : decode b_T_isPageEndedBy 14 = .ok (.ireturn, 1) := by decide +kernel
theorem d_T_isPageEndedBy_15 : decode b_T_isPageEndedBy 15 = .ok (.iload_n 1, 1) := by decide +kernel
theorem d_T_isPageEndedBy_16 : decode b_T_isPageEndedBy 16 = .ok (.iload_n 3, 1) := by decide +kernel
theorem d_T_isPageEndedBy_17 : decode b_T_isPageEndedBy 17 = .ok (.iadd, 1) := by decide +kernel
theorem d_T_isPageEndedBy_18 : decode b_T_isPageEndedBy 18 = .ok (.istore 4, 2) := by decide +kernel
theorem d_T_isPageEndedBy_20 : decode b_T_isPageEndedBy 20 = .ok (.iload 4, 2) := by decide +kernel
theorem d_T_isPageEndedBy_22 : decode b_T_isPageEndedBy 22 = .ok (.aload_n 0, 1) := by decide +kernel
theorem d_T_isPageEndedBy_23 : decode b_T_isPageEndedBy 23 = .ok (.invokevirtual 69, 3) := by decide +kernel
theorem d_T_isPageEndedBy_26 : decode b_T_isPageEndedBy 26 = .ok (.if_icmp .ge (21), 3) := by decide +kernel
theorem d_T_isPageEndedBy_29 : decode b_T_isPageEndedBy 29 = .ok (.aload_n 0, 1) := by decide +kernel
theorem d_T_isPageEndedBy_30 : decode b_T_isPageEndedBy 30 = .ok (.getfield 21, 3) := by decide +kernel
theorem d_T_isPageEndedBy_33 : decode b_T_isPageEndedBy 33 = .ok (.iload 4, 2) := by decide +kernel
theorem d_T_isPageEndedBy_35 : decode b_T_isPageEndedBy 35 = .ok (.invokevirtual 62, 3) := by decide +kernel
theorem d_T_isPageEndedBy_38 : decode b_T_isPageEndedBy 38 = .ok (.ifCond .ne (9), 3) := by decide +kernel
theorem d_T_isPageEndedBy_41 : decode b_T_isPageEndedBy 41 = .ok (.iinc 4 (1), 3) := by decide +kernel
theorem d_T_isPageEndedBy_44 : decode b_T_isPageEndedBy 44 = .ok (.goto (-24), 3) := by decide +kernel
theorem d_T_isPageEndedBy_47 : decode b_T_isPageEndedBy 47 = .ok (.iload 4, 2) := by decide +kernel
theorem d_T_isPageEndedBy_49 : decode b_T_isPageEndedBy 49 = .ok (.iconst 1, 1) := by decide +kernel
theorem d_T_isPageEndedBy_50 : decode b_T_isPageEndedBy 50 = .ok (.iadd, 1) := by decide +kernel
theorem d_T_isPageEndedBy_51 : decode b_T_isPageEndedBy 51 = .ok (.aload_n 0, 1) := by decide +kernel
theorem d_T_isPageEndedBy_52 : decode b_T_isPageEndedBy 52 = .ok (.invokevirtual 69, 3) := by decide +kernel
theorem d_T_isPageEndedBy_55 : decode b_T_isPageEndedBy 55 = .ok (.invokestatic 83, 3) := by decide +kernel
theorem d_T_isPageEndedBy_58 : decode b_T_isPageEndedBy 58 = .ok (.iload_n 1, 1) := by decide +kernel
theorem d_T_isPageEndedBy_59 : decode b_T_isPageEndedBy 59 = .ok (.isub, 1) := by decide +kernel
theorem d_T_isPageEndedBy_60 : decode b_T_isPageEndedBy 60 = .ok (.istore 5, 2) := by decide +kernel
theorem d_T_isPageEndedBy_62 : decode b_T_isPageEndedBy 62 = .ok (.iload 5, 2) := by decide +kernel
theorem d_T_isPageEndedBy_64 : decode b_T_isPageEndedBy 64 = .ok (.aload_n 0, 1) := by decide +kernel
theorem d_T_isPageEndedBy_65 : decode b_T_isPageEndedBy 65 = .ok (.getfield 47, 3) := by decide +kernel
theorem d_T_isPageEndedBy_68 : decode b_T_isPageEndedBy 68 = .ok (.if_icmp .gt (18), 3) := by decide +kernel
theorem d_T_isPageEndedBy_71 : decode b_T_isPageEndedBy 71 = .ok (.iload 5, 2) := by decide +kernel
theorem d_T_isPageEndedBy_73 : decode b_T_isPageEndedBy 73 = .ok (.aload_n 0, 1) := by decide +kernel
theorem d_T_isPageEndedBy_74 : decode b_T_isPageEndedBy 74 = .ok (.getfield 47, 3) := by decide +kernel
theorem d_T_isPageEndedBy_77 : decode b_T_isPageEndedBy 77 = .ok (.iload_n 2, 1) := by decide +kernel
theorem d_T_isPageEndedBy_78 : decode b_T_isPageEndedBy 78 = .ok (.isub, 1) := by decide +kernel
theorem d_T_isPageEndedBy_79 : decode b_T_isPageEndedBy 79 = .ok (.if_icmp .le (7), 3) := by decide +kernel
theorem d_T_isPageEndedBy_82 : decode b_T_isPageEndedBy 82 = .ok (.iconst 1, 1) := by decide +kernel
theorem d_T_isPageEndedBy_83 : decode b_T_isPageEndedBy 83 = .ok (.goto (4), 3) := by decide +kernel
theorem d_T_isPageEndedBy_86 : decode b_T_isPageEndedBy 86 = .ok (.iconst 0, 1) := by decide +kernel
theorem d_T_isPageEndedBy_87 : decode b_T_isPageEndedBy 87 = .ok (.ireturn, 1) := by decide +kernel
theorem d_T_pageFrom_0 : decode b_T_pageFrom 0 = .ok (.iload_n 1, 1) := by decide +kernel
theorem d_T_pageFrom_1 : decode b_T_pageFrom 1 = .ok (.istore_n 2, 1) := by decide +kernel
theorem d_T_pageFrom_2 : decode b_T_pageFrom 2 = .ok (.iload_n 2, 1) := by decide +kernel
theorem d_T_pageFrom_3 : decode b_T_pageFrom 3 = .ok (.aload_n 0, 1) := by decide +kernel
theorem d_T_pageFrom_4 : decode b_T_pageFrom 4 = .ok (.invokevirtual 69, 3) := by decide +kernel
theorem d_T_pageFrom_7 : decode b_T_pageFrom 7 = .ok (.if_icmp .ge (41), 3) := by decide +kernel
theorem d_T_pageFrom_10 : decode b_T_pageFrom 10 = .ok (.aload_n 0, 1) := by decide +kernel
theorem d_T_pageFrom_11 : decode b_T_pageFrom 11 = .ok (.getfield 30, 3) := by decide +kernel
theorem d_T_pageFrom_14 : decode b_T_pageFrom 14 = .ok (.iload_n 2, 1) := by decide +kernel
theorem d_T_pageFrom_15 : decode b_T_pageFrom 15 = .ok (.invokevirtual 62, 3) := by decide +kernel
theorem d_T_pageFrom_18 : decode b_T_pageFrom 18 = .ok (.ifCond .ne (24), 3) := by decide +kernel
theorem d_T_pageFrom_21 : decode b_T_pageFrom 21 = .ok (.aload_n 0, 1) := by decide +kernel
theorem d_T_pageFrom_22 : decode b_T_pageFrom 22 = .ok (.getfield 24, 3) := by decide +kernel
theorem d_T_pageFrom_25 : decode b_T_pageFrom 25 = .ok (.iload_n 2, 1) := by decide +kernel
theorem d_T_pageFrom_26 : decode b_T_pageFrom 26 = .ok (.invokevirtual 62, 3) := by decide +kernel
theorem d_T_pageFrom_29 : decode b_T_pageFrom 29 = .ok (.iconst (-1), 1) := by decide +kernel
theorem d_T_pageFrom_30 : decode b_T_pageFrom 30 = .ok (.if_icmp .eq (12), 3) := by decide +kernel
theorem d_T_pageFrom_33 : decode b_T_pageFrom 33 = .ok (.aload_n 0, 1) := by decide +kernel
theorem d_T_pageFrom_34 : decode b_T_pageFrom 34 = .ok (.getfield 24, 3) := by decide +kernel
theorem d_T_pageFrom_37 : decode b_T_pageFrom 37 = .ok (.iload_n 2, 1) := by decide +kernel
theorem d_T_pageFrom_38 : decode b_T_pageFrom 38 = .ok (.invokevirtual 62, 3) := by decide +kernel
theorem d_T_pageFrom_41 : decode b_T_pageFrom 41 = .ok (.ireturn, 1) := by decide +kernel
theorem d_T_pageFrom_42 : decode b_T_pageFrom 42 = .ok (.iinc 2 (1), 3) := by decide +kernel
theorem d_T_pageFrom_45 : decode b_T_pageFrom 45 = .ok (.goto (-43), 3) := by decide +kernel
theorem d_T_pageFrom_48 : decode b_T_pageFrom 48 = .ok (.aload_n 0, 1) := by decide +kernel
theorem d_T_pageFrom_49 : decode b_T_pageFrom 49 = .ok (.invokevirtual 76, 3) := by decide +kernel
theorem d_T_pageFrom_52 : decode b_T_pageFrom 52 = .ok (.iconst 1, 1) := by decide +kernel
theorem d_T_pageFrom_53 : decode b_T_pageFrom 53 = .ok (.isub, 1) := by decide +kernel
theorem d_T_pageFrom_54 : decode b_T_pageFrom 54 = .ok (.ireturn, 1) := by decide +kernel
theorem d_T_character_0 : decode b_T_character 0 = .ok (.iload_n 1, 1) := by decide +kernel
theorem d_T_character_1 : decode b_T_character 1 = .ok (.ifCond .lt (35), 3) := by decide +kernel
theorem d_T_character_4 : decode b_T_character 4 = .ok (.iload_n 1, 1) := by decide +kernel
theorem d_T_character_5 : decode b_T_character 5 = .ok (.aload_n 0, 1) := by decide +kernel
theorem d_T_character_6 : decode b_T_character 6 = .ok (.invokevirtual 76, 3) := by decide +kernel
theorem d_T_character_9 : decode b_T_character 9 = .ok (.if_icmp .ge (27), 3) := by decide +kernel
theorem d_T_character_12 : decode b_T_character 12 = .ok (.iload_n 2, 1) := by decide +kernel
theorem d_T_character_13 : decode b_T_character 13 = .ok (.ifCond .lt (23), 3) := by decide +kernel
theorem d_T_character_16 : decode b_T_character 16 = .ok (.iload_n 2, 1) := by decide +kernel
theorem d_T_character_17 : decode b_T_character 17 = .ok (.aload_n 0, 1) := by decide +kernel
theorem d_T_character_18 : decode b_T_character 18 = .ok (.getfield 47, 3) := by decide +kernel
theorem d_T_character_21 : decode b_T_character 21 = .ok (.if_icmp .ge (15), 3) := by decide +kernel
theorem d_T_character_24 : decode b_T_character 24 = .ok (.iload_n 3, 1) := by decide +kernel
theorem d_T_character_25 : decode b_T_character 25 = .ok (.ifCond .lt (11), 3) := by decide +kernel
theorem d_T_character_28 : decode b_T_character 28 = .ok (.iload_n 3, 1) := by decide +kernel
theorem d_T_character_29 : decode b_T_character 29 = .ok (.aload_n 0, 1) := by decide +kernel
theorem d_T_character_30 : decode b_T_character 30 = .ok (.getfield 51, 3) := by decide +kernel
theorem d_T_character_33 : decode b_T_character 33 = .ok (.if_icmp .lt (5), 3) := by decide +kernel
theorem d_T_character_36 : decode b_T_character 36 = .ok (.iconst (-1), 1) := by decide +kernel
theorem d_T_character_37 : decode b_T_character 37 = .ok (.ireturn, 1) := by decide +kernel
theorem d_T_character_38 : decode b_T_character 38 = .ok (.iload_n 2, 1) := by decide +kernel
theorem d_T_character_39 : decode b_T_character 39 = .ok (.aload_n 0, 1) := by decide +kernel
theorem d_T_character_40 : decode b_T_character 40 = .ok (.getfield 36, 3) := by decide +kernel
theorem d_T_character_43 : decode b_T_character 43 = .ok (.iload_n 1, 1) := by decide +kernel
theorem d_T_character_44 : decode b_T_character 44 = .ok (.invokevirtual 62, 3) := by decide +kernel
theorem d_T_character_47 : decode b_T_character 47 = .ok (.if_icmp .lt (6), 3) := by decide +kernel
theorem d_T_character_50 : decode b_T_character 50 = .ok (.bipush (32), 2) := by decide +kernel
theorem d_T_character_52 : decode b_T_character 52 = .ok (.ireturn, 1) := by decide +kernel
theorem d_T_character_53 : decode b_T_character 53 = .ok (.aload_n 0, 1) := by decide +kernel
theorem d_T_character_54 : decode b_T_character 54 = .ok (.getfield 33, 3) := by decide +kernel
theorem d_T_character_57 : decode b_T_character 57 = .ok (.iload_n 1, 1) := by decide +kernel
theorem d_T_character_58 : decode b_T_character 58 = .ok (.invokevirtual 62, 3) := by decide +kernel
theorem d_T_character_61 : decode b_T_character 61 = .ok (.iload_n 2, 1) := by decide +kernel
theorem d_T_character_62 : decode b_T_character 62 = .ok (.iadd, 1) := by decide +kernel
theorem d_T_character_63 : decode b_T_character 63 = .ok (.istore 4, 2) := by decide +kernel
theorem d_T_character_65 : decode b_T_character 65 = .ok (.iload_n 3, 1) := by decide +kernel
theorem d_T_character_66 : decode b_T_character 66 = .ok (.aload_n 0, 1) := by decide +kernel
theorem d_T_character_67 : decode b_T_character 67 = .ok (.getfield 21, 3) := by decide +kernel
theorem d_T_character_70 : decode b_T_character 70 = .ok (.iload 4, 2) := by decide +kernel
theorem d_T_character_72 : decode b_T_character 72 = .ok (.invokevirtual 62, 3) := by decide +kernel
theorem d_T_character_75 : decode b_T_character 75 = .ok (.if_icmp .ge (24), 3) := by decide +kernel
theorem d_T_character_78 : decode b_T_character 78 = .ok (.aload_n 0, 1) := by decide +kernel
theorem d_T_character_79 : decode b_T_character 79 = .ok (.getfield 12, 3) := by decide +kernel
theorem d_T_character_82 : decode b_T_character 82 = .ok (.aload_n 0, 1) := by decide +kernel
theorem d_T_character_83 : decode b_T_character 83 = .ok (.getfield 18, 3) := by decide +kernel
theorem d_T_character_86 : decode b_T_character 86 = .ok (.iload 4, 2) := by decide +kernel
theorem d_T_character_88 : decode b_T_character 88 = .ok (.invokevirtual 62, 3) := by decide +kernel
theorem d_T_character_91 : decode b_T_character 91 = .ok (.iload_n 3, 1) := by decide +kernel
theorem d_T_character_92 : decode b_T_character 92 = .ok (.iadd, 1) := by decide +kernel
theorem d_T_character_93 : decode b_T_character 93 = .ok (.invokevirtual 62, 3) := by decide +kernel
theorem d_T_character_96 : decode b_T_character 96 = .ok (.goto (5), 3) := by decide +kernel
theorem d_T_character_99 : decode b_T_character 99 = .ok (.bipush (32), 2) := by decide +kernel
theorem d_T_character_101 : decode b_T_character 101 = .ok (.ireturn, 1) := by decide +kernel
theorem d_L_begin_0 : decode b_L_begin 0 = .ok (.aload_n 3, 1) := by decide +kernel
theorem d_L_begin_1 : decode b_L_begin 1 = .ok (.iconst 0, 1) := by decide +kernel
theorem d_L_begin_2 : decode b_L_begin 2 = .ok (.aload_n 0, 1) := by decide +kernel
theorem d_L_begin_3 : decode b_L_begin 3 = .ok (.iload_n 1, 1) := by decide +kernel
theorem d_L_begin_4 : decode b_L_begin 4 = .ok (.iload_n 2, 1) := by decide +kernel
theorem d_L_begin_5 : decode b_L_begin 5 = .ok (.invokevirtual 7, 3) := by decide +kernel
theorem d_L_begin_8 : decode b_L_begin 8 = .ok (.i2l, 1) := by decide +kernel
theorem d_L_begin_9 : decode b_L_begin 9 = .ok (.lastore, 1) := by decide +kernel
theorem d_L_begin_10 : decode b_L_begin 10 = .ok (.goto (11), 3) := by decide +kernel
theorem d_L_begin_13 : decode b_L_begin 13 = .ok (.astore 4, 2) := by decide +kernel
theorem d_L_begin_15 : decode b_L_begin 15 = .ok (.iconst 1, 1) := by decide +kernel
theorem d_L_begin_16 : decode b_L_begin 16 = .ok (.ireturn, 1) := by decide +kernel
theorem d_L_begin_17 : decode b_L_begin 17 = .ok (.astore 4, 2) := by decide +kernel
theorem d_L_begin_19 : decode b_L_begin 19 = .ok (.iconst 2, 1) := by decide +kernel
theorem d_L_begin_20 : decode b_L_begin 20 = .ok (.ireturn, 1) := by decide +kernel
theorem d_L_begin_21 : decode b_L_begin 21 = .ok (.iconst 0, 1) := by decide +kernel
theorem d_L_begin_22 : decode b_L_begin 22 = .ok (.ireturn, 1) := by decide +kernel
theorem d_L_say_0 : decode b_L_say 0 = .ok (.aload 6, 2) := by decide +kernel
theorem d_L_say_2 : decode b_L_say 2 = .ok (.iconst 0, 1) := by decide +kernel
theorem d_L_say_3 : decode b_L_say 3 = .ok (.aload_n 0, 1) := by decide +kernel
theorem d_L_say_4 : decode b_L_say 4 = .ok (.iload_n 1, 1) := by decide +kernel
theorem d_L_say_5 : decode b_L_say 5 = .ok (.iload_n 2, 1) := by decide +kernel
end
section
theorem d_L_say_6 : decode b_L_say 6 = .ok (.iload_n 3, 1) := by decide +kernel
theorem d_L_say_7 : decode b_L_say 7 = .ok (.iload 4, 2) := by decide +kernel
theorem d_L_say_9 : decode b_L_say 9 = .ok (.iload 5, 2) := by decide +kernel
theorem d_L_say_11 : decode b_L_say 11 = .ok (.invokevirtual 17, 3) := by decide +kernel
theorem d_L_say_14 : decode b_L_say 14 = .ok (.i2l, 1) := by decide +kernel
theorem d_L_say_15 : decode b_L_say 15 = .ok (.lastore, 1) := by decide +kernel
theorem d_L_say_16 : decode b_L_say 16 = .ok (.goto (11), 3) := by decide +kernel
theorem d_L_say_19 : decode b_L_say 19 = .ok (.astore 7, 2) := by decide +kernel
theorem d_L_say_21 : decode b_L_say 21 = .ok (.iconst 1, 1) := by decide +kernel
theorem d_L_say_22 : decode b_L_say 22 = .ok (.ireturn, 1) := by decide +kernel
theorem d_L_say_23 : decode b_L_say 23 = .ok (.astore 7, 2) := by decide +kernel
theorem d_L_say_25 : decode b_L_say 25 = .ok (.iconst 2, 1) := by decide +kernel
theorem d_L_say_26 : decode b_L_say 26 = .ok (.ireturn, 1) := by decide +kernel
theorem d_L_say_27 : decode b_L_say 27 = .ok (.iconst 0, 1) := by decide +kernel
theorem d_L_say_28 : decode b_L_say 28 = .ok (.ireturn, 1) := by decide +kernel
theorem d_L_pages_0 : decode b_L_pages 0 = .ok (.aload_n 3, 1) := by decide +kernel
theorem d_L_pages_1 : decode b_L_pages 1 = .ok (.iconst 0, 1) := by decide +kernel
theorem d_L_pages_2 : decode b_L_pages 2 = .ok (.aload_n 0, 1) := by decide +kernel
theorem d_L_pages_3 : decode b_L_pages 3 = .ok (.iload_n 1, 1) := by decide +kernel
theorem d_L_pages_4 : decode b_L_pages 4 = .ok (.iload_n 2, 1) := by decide +kernel
theorem d_L_pages_5 : decode b_L_pages 5 = .ok (.invokevirtual 21, 3) := by decide +kernel
theorem d_L_pages_8 : decode b_L_pages 8 = .ok (.i2l, 1) := by decide +kernel
theorem d_L_pages_9 : decode b_L_pages 9 = .ok (.lastore, 1) := by decide +kernel
theorem d_L_pages_10 : decode b_L_pages 10 = .ok (.goto (11), 3) := by decide +kernel
theorem d_L_pages_13 : decode b_L_pages 13 = .ok (.astore 4, 2) := by decide +kernel
theorem d_L_pages_15 : decode b_L_pages 15 = .ok (.iconst 1, 1) := by decide +kernel
theorem d_L_pages_16 : decode b_L_pages 16 = .ok (.ireturn, 1) := by decide +kernel
theorem d_L_pages_17 : decode b_L_pages 17 = .ok (.astore 4, 2) := by decide +kernel
theorem d_L_pages_19 : decode b_L_pages 19 = .ok (.iconst 2, 1) := by decide +kernel
theorem d_L_pages_20 : decode b_L_pages 20 = .ok (.ireturn, 1) := by decide +kernel
theorem d_L_pages_21 : decode b_L_pages 21 = .ok (.iconst 0, 1) := by decide +kernel
theorem d_L_pages_22 : decode b_L_pages 22 = .ok (.ireturn, 1) := by decide +kernel
theorem d_L_law_0 : decode b_L_law 0 = .ok (.new 8, 3) := by decide +kernel
theorem d_L_law_3 : decode b_L_law 3 = .ok (.dup, 1) := by decide +kernel
theorem d_L_law_4 : decode b_L_law 4 = .ok (.invokespecial 24, 3) := by decide +kernel
theorem d_L_law_7 : decode b_L_law 7 = .ok (.astore_n 1, 1) := by decide +kernel
theorem d_L_law_8 : decode b_L_law 8 = .ok (.new 25, 3) := by decide +kernel
theorem d_L_law_11 : decode b_L_law 11 = .ok (.dup, 1) := by decide +kernel
theorem d_L_law_12 : decode b_L_law 12 = .ok (.invokespecial 27, 3) := by decide +kernel
theorem d_L_law_15 : decode b_L_law 15 = .ok (.astore_n 2, 1) := by decide +kernel
theorem d_L_law_16 : decode b_L_law 16 = .ok (.iconst 1, 1) := by decide +kernel
theorem d_L_law_17 : decode b_L_law 17 = .ok (.newarray .long, 2) := by decide +kernel
theorem d_L_law_19 : decode b_L_law 19 = .ok (.astore_n 3, 1) := by decide +kernel
theorem d_L_law_20 : decode b_L_law 20 = .ok (.iconst 0, 1) := by decide +kernel
theorem d_L_law_21 : decode b_L_law 21 = .ok (.istore 4, 2) := by decide +kernel
theorem d_L_law_23 : decode b_L_law 23 = .ok (.iload 4, 2) := by decide +kernel
theorem d_L_law_25 : decode b_L_law 25 = .ok (.aload_n 0, 1) := by decide +kernel
theorem d_L_law_26 : decode b_L_law 26 = .ok (.arraylength, 1) := by decide +kernel
theorem d_L_law_27 : decode b_L_law 27 = .ok (.bipush (6), 2) := by decide +kernel
theorem d_L_law_29 : decode b_L_law 29 = .ok (.isub, 1) := by decide +kernel
theorem d_L_law_30 : decode b_L_law 30 = .ok (.if_icmp .gt (466), 3) := by decide +kernel
theorem d_L_law_33 : decode b_L_law 33 = .ok (.aload_n 0, 1) := by decide +kernel
theorem d_L_law_34 : decode b_L_law 34 = .ok (.iload 4, 2) := by decide +kernel
theorem d_L_law_36 : decode b_L_law 36 = .ok (.iaload, 1) := by decide +kernel
theorem d_L_law_37 : decode b_L_law 37 = .ok (.bipush (15), 2) := by decide +kernel
theorem d_L_law_39 : decode b_L_law 39 = .ok (.iand, 1) := by decide +kernel
theorem d_L_law_40 : decode b_L_law 40 = .ok (.tableswitch (450) (0) (10) #[60, 100, 113, 189, 200, 240, 289, 326, 363, 388, 425], 60) := by decide +kernel
theorem d_L_law_100 : decode b_L_law 100 = .ok (.aload_n 1, 1) := by decide +kernel
theorem d_L_law_101 : decode b_L_law 101 = .ok (.aload_n 0, 1) := by decide +kernel
theorem d_L_law_102 : decode b_L_law 102 = .ok (.iload 4, 2) := by decide +kernel
theorem d_L_law_104 : decode b_L_law 104 = .ok (.iconst 1, 1) := by decide +kernel
theorem d_L_law_105 : decode b_L_law 105 = .ok (.iadd, 1) := by decide +kernel
theorem d_L_law_106 : decode b_L_law 106 = .ok (.iaload, 1) := by decide +kernel
theorem d_L_law_107 : decode b_L_law 107 = .ok (.aload_n 0, 1) := by decide +kernel
theorem d_L_law_108 : decode b_L_law 108 = .ok (.iload 4, 2) := by decide +kernel
theorem d_L_law_110 : decode b_L_law 110 = .ok (.iconst 2, 1) := by decide +kernel
theorem d_L_law_111 : decode b_L_law 111 = .ok (.iadd, 1) := by decide +kernel
theorem d_L_law_112 : decode b_L_law 112 = .ok (.iaload, 1) := by decide +kernel
theorem d_L_law_113 : decode b_L_law 113 = .ok (.aload_n 3, 1) := by decide +kernel
theorem d_L_law_114 : decode b_L_law 114 = .ok (.invokestatic 28, 3) := by decide +kernel
theorem d_L_law_117 : decode b_L_law 117 = .ok (.istore 5, 2) := by decide +kernel
theorem d_L_law_119 : decode b_L_law 119 = .ok (.aload_n 2, 1) := by decide +kernel
theorem d_L_law_120 : decode b_L_law 120 = .ok (.aload_n 0, 1) := by decide +kernel
theorem d_L_law_121 : decode b_L_law 121 = .ok (.iload 4, 2) := by decide +kernel
theorem d_L_law_123 : decode b_L_law 123 = .ok (.iconst 1, 1) := by decide +kernel
theorem d_L_law_124 : decode b_L_law 124 = .ok (.iadd, 1) := by decide +kernel
theorem d_L_law_125 : decode b_L_law 125 = .ok (.iaload, 1) := by decide +kernel
theorem d_L_law_126 : decode b_L_law 126 = .ok (.aload_n 0, 1) := by decide +kernel
theorem d_L_law_127 : decode b_L_law 127 = .ok (.iload 4, 2) := by decide +kernel
theorem d_L_law_129 : decode b_L_law 129 = .ok (.iconst 2, 1) := by decide +kernel
theorem d_L_law_130 : decode b_L_law 130 = .ok (.iadd, 1) := by decide +kernel
theorem d_L_law_131 : decode b_L_law 131 = .ok (.iaload, 1) := by decide +kernel
theorem d_L_law_132 : decode b_L_law 132 = .ok (.invokevirtual 33, 3) := by decide +kernel
theorem d_L_law_135 : decode b_L_law 135 = .ok (.istore 6, 2) := by decide +kernel
theorem d_L_law_137 : decode b_L_law 137 = .ok (.goto (353), 3) := by decide +kernel
theorem d_L_law_140 : decode b_L_law 140 = .ok (.aload_n 1, 1) := by decide +kernel
theorem d_L_law_141 : decode b_L_law 141 = .ok (.invokevirtual 34, 3) := by decide +kernel
theorem d_L_law_144 : decode b_L_law 144 = .ok (.aload_n 2, 1) := by decide +kernel
theorem d_L_law_145 : decode b_L_law 145 = .ok (.invokevirtual 38, 3) := by decide +kernel
theorem d_L_law_148 : decode b_L_law 148 = .ok (.if_icmp .eq (342), 3) := by decide +kernel
theorem d_L_law_151 : decode b_L_law 151 = .ok (.iconst 0, 1) := by decide +kernel
theorem d_L_law_152 : decode b_L_law 152 = .ok (.ireturn, 1) := by decide +kernel
theorem d_L_law_153 : decode b_L_law 153 = .ok (.aload_n 1, 1) := by decide +kernel
theorem d_L_law_154 : decode b_L_law 154 = .ok (.aload_n 0, 1) := by decide +kernel
theorem d_L_law_155 : decode b_L_law 155 = .ok (.iload 4, 2) := by decide +kernel
theorem d_L_law_157 : decode b_L_law 157 = .ok (.iconst 1, 1) := by decide +kernel
theorem d_L_law_158 : decode b_L_law 158 = .ok (.iadd, 1) := by decide +kernel
theorem d_L_law_159 : decode b_L_law 159 = .ok (.iaload, 1) := by decide +kernel
theorem d_L_law_160 : decode b_L_law 160 = .ok (.aload_n 0, 1) := by decide +kernel
theorem d_L_law_161 : decode b_L_law 161 = .ok (.iload 4, 2) := by decide +kernel
theorem d_L_law_163 : decode b_L_law 163 = .ok (.iconst 2, 1) := by decide +kernel
theorem d_L_law_164 : decode b_L_law 164 = .ok (.iadd, 1) := by decide +kernel
theorem d_L_law_165 : decode b_L_law 165 = .ok (.iaload, 1) := by decide +kernel
theorem d_L_law_166 : decode b_L_law 166 = .ok (.aload_n 0, 1) := by decide +kernel
theorem d_L_law_167 : decode b_L_law 167 = .ok (.iload 4, 2) := by decide +kernel
theorem d_L_law_169 : decode b_L_law 169 = .ok (.iconst 3, 1) := by decide +kernel
theorem d_L_law_170 : decode b_L_law 170 = .ok (.iadd, 1) := by decide +kernel
theorem d_L_law_171 : decode b_L_law 171 = .ok (.iaload, 1) := by decide +kernel
theorem d_L_law_172 : decode b_L_law 172 = .ok (.aload_n 0, 1) := by decide +kernel
theorem d_L_law_173 : decode b_L_law 173 = .ok (.iload 4, 2) := by decide +kernel
theorem d_L_law_175 : decode b_L_law 175 = .ok (.iconst 4, 1) := by decide +kernel
theorem d_L_law_176 : decode b_L_law 176 = .ok (.iadd, 1) := by decide +kernel
theorem d_L_law_177 : decode b_L_law 177 = .ok (.iaload, 1) := by decide +kernel
theorem d_L_law_178 : decode b_L_law 178 = .ok (.aload_n 0, 1) := by decide +kernel
theorem d_L_law_179 : decode b_L_law 179 = .ok (.iload 4, 2) := by decide +kernel
theorem d_L_law_181 : decode b_L_law 181 = .ok (.iconst 5, 1) := by decide +kernel
theorem d_L_law_182 : decode b_L_law 182 = .ok (.iadd, 1) := by decide +kernel
theorem d_L_law_183 : decode b_L_law 183 = .ok (.iaload, 1) := by decide +kernel
theorem d_L_law_184 : decode b_L_law 184 = .ok (.aload_n 3, 1) := by decide +kernel
theorem d_L_law_185 : decode b_L_law 185 = .ok (.invokestatic 39, 3) := by decide +kernel
theorem d_L_law_188 : decode b_L_law 188 = .ok (.istore 5, 2) := by decide +kernel
theorem d_L_law_190 : decode b_L_law 190 = .ok (.aload_n 2, 1) := by decide +kernel
theorem d_L_law_191 : decode b_L_law 191 = .ok (.aload_n 0, 1) := by decide +kernel
theorem d_L_law_192 : decode b_L_law 192 = .ok (.iload 4, 2) := by decide +kernel
theorem d_L_law_194 : decode b_L_law 194 = .ok (.iconst 1, 1) := by decide +kernel
theorem d_L_law_195 : decode b_L_law 195 = .ok (.iadd, 1) := by decide +kernel
theorem d_L_law_196 : decode b_L_law 196 = .ok (.iaload, 1) := by decide +kernel
theorem d_L_law_197 : decode b_L_law 197 = .ok (.aload_n 0, 1) := by decide +kernel
theorem d_L_law_198 : decode b_L_law 198 = .ok (.iload 4, 2) := by decide +kernel
theorem d_L_law_200 : decode b_L_law 200 = .ok (.iconst 2, 1) := by decide +kernel
theorem d_L_law_201 : decode b_L_law 201 = .ok (.iadd, 1) := by decide +kernel
theorem d_L_law_202 : decode b_L_law 202 = .ok (.iaload, 1) := by decide +kernel
theorem d_L_law_203 : decode b_L_law 203 = .ok (.aload_n 0, 1) := by decide +kernel
theorem d_L_law_204 : decode b_L_law 204 = .ok (.iload 4, 2) := by decide +kernel
theorem d_L_law_206 : decode b_L_law 206 = .ok (.iconst 3, 1) := by decide +kernel
theorem d_L_law_207 : decode b_L_law 207 = .ok (.iadd, 1) := by decide +kernel
theorem d_L_law_208 : decode b_L_law 208 = .ok (.iaload, 1) := by decide +kernel
theorem d_L_law_209 : decode b_L_law 209 = .ok (.aload_n 0, 1) := by decide +kernel
theorem d_L_law_210 : decode b_L_law 210 = .ok (.iload 4, 2) := by decide +kernel
theorem d_L_law_212 : decode b_L_law 212 = .ok (.iconst 4, 1) := by decide +kernel
theorem d_L_law_213 : decode b_L_law 213 = .ok (.iadd, 1) := by decide +kernel
theorem d_L_law_214 : decode b_L_law 214 = .ok (.iaload, 1) := by decide +kernel
theorem d_L_law_215 : decode b_L_law 215 = .ok (.aload_n 0, 1) := by decide +kernel
theorem d_L_law_216 : decode b_L_law 216 = .ok (.iload 4, 2) := by decide +kernel
theorem d_L_law_218 : decode b_L_law 218 = .ok (.iconst 5, 1) := by decide +kernel
theorem d_L_law_219 : decode b_L_law 219 = .ok (.iadd, 1) := by decide +kernel
theorem d_L_law_220 : decode b_L_law 220 = .ok (.iaload, 1) := by decide +kernel
theorem d_L_law_221 : decode b_L_law 221 = .ok (.invokevirtual 42, 3) := by decide +kernel
theorem d_L_law_224 : decode b_L_law 224 = .ok (.istore 6, 2) := by decide +kernel
theorem d_L_law_226 : decode b_L_law 226 = .ok (.goto (264), 3) := by decide +kernel
theorem d_L_law_229 : decode b_L_law 229 = .ok (.aload_n 1, 1) := by decide +kernel
theorem d_L_law_230 : decode b_L_law 230 = .ok (.invokevirtual 43, 3) := by decide +kernel
theorem d_L_law_233 : decode b_L_law 233 = .ok (.aload_n 2, 1) := by decide +kernel
theorem d_L_law_234 : decode b_L_law 234 = .ok (.invokevirtual 46, 3) := by decide +kernel
theorem d_L_law_237 : decode b_L_law 237 = .ok (.goto (253), 3) := by decide +kernel
theorem d_L_law_240 : decode b_L_law 240 = .ok (.aload_n 1, 1) := by decide +kernel
theorem d_L_law_241 : decode b_L_law 241 = .ok (.aload_n 0, 1) := by decide +kernel
theorem d_L_law_242 : decode b_L_law 242 = .ok (.iload 4, 2) := by decide +kernel
theorem d_L_law_244 : decode b_L_law 244 = .ok (.iconst 1, 1) := by decide +kernel
theorem d_L_law_245 : decode b_L_law 245 = .ok (.iadd, 1) := by decide +kernel
theorem d_L_law_246 : decode b_L_law 246 = .ok (.iaload, 1) := by decide +kernel
theorem d_L_law_247 : decode b_L_law 247 = .ok (.aload_n 0, 1) := by decide +kernel
theorem d_L_law_248 : decode b_L_law 248 = .ok (.iload 4, 2) := by decide +kernel
theorem d_L_law_250 : decode b_L_law 250 = .ok (.iconst 2, 1) := by decide +kernel
theorem d_L_law_251 : decode b_L_law 251 = .ok (.iadd, 1) := by decide +kernel
theorem d_L_law_252 : decode b_L_law 252 = .ok (.iaload, 1) := by decide +kernel
theorem d_L_law_253 : decode b_L_law 253 = .ok (.aload_n 3, 1) := by decide +kernel
theorem d_L_law_254 : decode b_L_law 254 = .ok (.invokestatic 47, 3) := by decide +kernel
theorem d_L_law_257 : decode b_L_law 257 = .ok (.istore 5, 2) := by decide +kernel
theorem d_L_law_259 : decode b_L_law 259 = .ok (.aload_n 2, 1) := by decide +kernel
theorem d_L_law_260 : decode b_L_law 260 = .ok (.aload_n 0, 1) := by decide +kernel
theorem d_L_law_261 : decode b_L_law 261 = .ok (.iload 4, 2) := by decide +kernel
theorem d_L_law_263 : decode b_L_law 263 = .ok (.iconst 1, 1) := by decide +kernel
theorem d_L_law_264 : decode b_L_law 264 = .ok (.iadd, 1) := by decide +kernel
theorem d_L_law_265 : decode b_L_law 265 = .ok (.iaload, 1) := by decide +kernel
theorem d_L_law_266 : decode b_L_law 266 = .ok (.aload_n 0, 1) := by decide +kernel
theorem d_L_law_267 : decode b_L_law 267 = .ok (.iload 4, 2) := by decide +kernel
theorem d_L_law_269 : decode b_L_law 269 = .ok (.iconst 2, 1) := by decide +kernel
theorem d_L_law_270 : decode b_L_law 270 = .ok (.iadd, 1) := by decide +kernel
theorem d_L_law_271 : decode b_L_law 271 = .ok (.iaload, 1) := by decide +kernel
theorem d_L_law_272 : decode b_L_law 272 = .ok (.invokevirtual 49, 3) := by decide +kernel
theorem d_L_law_275 : decode b_L_law 275 = .ok (.istore 6, 2) := by decide +kernel
theorem d_L_law_277 : decode b_L_law 277 = .ok (.goto (213), 3) := by decide +kernel
theorem d_L_law_280 : decode b_L_law 280 = .ok (.aload_n 1, 1) := by decide +kernel
theorem d_L_law_281 : decode b_L_law 281 = .ok (.aload_n 0, 1) := by decide +kernel
theorem d_L_law_282 : decode b_L_law 282 = .ok (.iload 4, 2) := by decide +kernel
theorem d_L_law_284 : decode b_L_law 284 = .ok (.iconst 1, 1) := by decide +kernel
theorem d_L_law_285 : decode b_L_law 285 = .ok (.iadd, 1) := by decide +kernel
theorem d_L_law_286 : decode b_L_law 286 = .ok (.iaload, 1) := by decide +kernel
theorem d_L_law_287 : decode b_L_law 287 = .ok (.aload_n 0, 1) := by decide +kernel
theorem d_L_law_288 : decode b_L_law 288 = .ok (.iload 4, 2) := by decide +kernel
theorem d_L_law_290 : decode b_L_law 290 = .ok (.iconst 2, 1) := by decide +kernel
theorem d_L_law_291 : decode b_L_law 291 = .ok (.iadd, 1) := by decide +kernel
theorem d_L_law_292 : decode b_L_law 292 = .ok (.iaload, 1) := by decide +kernel
theorem d_L_law_293 : decode b_L_law 293 = .ok (.aload_n 0, 1) := by decide +kernel
theorem d_L_law_294 : decode b_L_law 294 = .ok (.iload 4, 2) := by decide +kernel
theorem d_L_law_296 : decode b_L_law 296 = .ok (.iconst 3, 1) := by decide +kernel
theorem d_L_law_297 : decode b_L_law 297 = .ok (.iadd, 1) := by decide +kernel
theorem d_L_law_298 : decode b_L_law 298 = .ok (.iaload, 1) := by decide +kernel
theorem d_L_law_299 : decode b_L_law 299 = .ok (.invokevirtual 50, 3) := by decide +kernel
theorem d_L_law_302 : decode b_L_law 302 = .ok (.pop, 1) := by decide +kernel
theorem d_L_law_303 : decode b_L_law 303 = .ok (.aload_n 2, 1) := by decide +kernel
theorem d_L_law_304 : decode b_L_law 304 = .ok (.aload_n 0, 1) := by decide +kernel
theorem d_L_law_305 : decode b_L_law 305 = .ok (.iload 4, 2) := by decide +kernel
theorem d_L_law_307 : decode b_L_law 307 = .ok (.iconst 1, 1) := by decide +kernel
theorem d_L_law_308 : decode b_L_law 308 = .ok (.iadd, 1) := by decide +kernel
theorem d_L_law_309 : decode b_L_law 309 = .ok (.iaload, 1) := by decide +kernel
theorem d_L_law_310 : decode b_L_law 310 = .ok (.aload_n 0, 1) := by decide +kernel
theorem d_L_law_311 : decode b_L_law 311 = .ok (.iload 4, 2) := by decide +kernel
theorem d_L_law_313 : decode b_L_law 313 = .ok (.iconst 2, 1) := by decide +kernel
theorem d_L_law_314 : decode b_L_law 314 = .ok (.iadd, 1) := by decide +kernel
theorem d_L_law_315 : decode b_L_law 315 = .ok (.iaload, 1) := by decide +kernel
theorem d_L_law_316 : decode b_L_law 316 = .ok (.aload_n 0, 1) := by decide +kernel
theorem d_L_law_317 : decode b_L_law 317 = .ok (.iload 4, 2) := by decide +kernel
theorem d_L_law_319 : decode b_L_law 319 = .ok (.iconst 3, 1) := by decide +kernel
theorem d_L_law_320 : decode b_L_law 320 = .ok (.iadd, 1) := by decide +kernel
theorem d_L_law_321 : decode b_L_law 321 = .ok (.iaload, 1) := by decide +kernel
theorem d_L_law_322 : decode b_L_law 322 = .ok (.invokevirtual 54, 3) := by decide +kernel
theorem d_L_law_325 : decode b_L_law 325 = .ok (.pop, 1) := by decide +kernel
theorem d_L_law_326 : decode b_L_law 326 = .ok (.goto (164), 3) := by decide +kernel
theorem d_L_law_329 : decode b_L_law 329 = .ok (.aload_n 1, 1) := by decide +kernel
theorem d_L_law_330 : decode b_L_law 330 = .ok (.aload_n 0, 1) := by decide +kernel
theorem d_L_law_331 : decode b_L_law 331 = .ok (.iload 4, 2) := by decide +kernel
theorem d_L_law_333 : decode b_L_law 333 = .ok (.iconst 1, 1) := by decide +kernel
theorem d_L_law_334 : decode b_L_law 334 = .ok (.iadd, 1) := by decide +kernel
theorem d_L_law_335 : decode b_L_law 335 = .ok (.iaload, 1) := by decide +kernel
theorem d_L_law_336 : decode b_L_law 336 = .ok (.aload_n 0, 1) := by decide +kernel
theorem d_L_law_337 : decode b_L_law 337 = .ok (.iload 4, 2) := by decide +kernel
theorem d_L_law_339 : decode b_L_law 339 = .ok (.iconst 2, 1) := by decide +kernel
theorem d_L_law_340 : decode b_L_law 340 = .ok (.iadd, 1) := by decide +kernel
theorem d_L_law_341 : decode b_L_law 341 = .ok (.iaload, 1) := by decide +kernel
theorem d_L_law_342 : decode b_L_law 342 = .ok (.invokevirtual 55, 3) := by decide +kernel
theorem d_L_law_345 : decode b_L_law 345 = .ok (.pop, 1) := by decide +kernel
theorem d_L_law_346 : decode b_L_law 346 = .ok (.aload_n 2, 1) := by decide +kernel
theorem d_L_law_347 : decode b_L_law 347 = .ok (.aload_n 0, 1) := by decide +kernel
theorem d_L_law_348 : decode b_L_law 348 = .ok (.iload 4, 2) := by decide +kernel
theorem d_L_law_350 : decode b_L_law 350 = .ok (.iconst 1, 1) := by decide +kernel
theorem d_L_law_351 : decode b_L_law 351 = .ok (.iadd, 1) := by decide +kernel
theorem d_L_law_352 : decode b_L_law 352 = .ok (.iaload, 1) := by decide +kernel
theorem d_L_law_353 : decode b_L_law 353 = .ok (.aload_n 0, 1) := by decide +kernel
theorem d_L_law_354 : decode b_L_law 354 = .ok (.iload 4, 2) := by decide +kernel
theorem d_L_law_356 : decode b_L_law 356 = .ok (.iconst 2, 1) := by decide +kernel
theorem d_L_law_357 : decode b_L_law 357 = .ok (.iadd, 1) := by decide +kernel
theorem d_L_law_358 : decode b_L_law 358 = .ok (.iaload, 1) := by decide +kernel
theorem d_L_law_359 : decode b_L_law 359 = .ok (.invokevirtual 58, 3) := by decide +kernel
theorem d_L_law_362 : decode b_L_law 362 = .ok (.pop, 1) := by decide +kernel
theorem d_L_law_363 : decode b_L_law 363 = .ok (.goto (127), 3) := by decide +kernel
theorem d_L_law_366 : decode b_L_law 366 = .ok (.aload_n 1, 1) := by decide +kernel
theorem d_L_law_367 : decode b_L_law 367 = .ok (.aload_n 0, 1) := by decide +kernel
theorem d_L_law_368 : decode b_L_law 368 = .ok (.iload 4, 2) := by decide +kernel
theorem d_L_law_370 : decode b_L_law 370 = .ok (.iconst 1, 1) := by decide +kernel
theorem d_L_law_371 : decode b_L_law 371 = .ok (.iadd, 1) := by decide +kernel
theorem d_L_law_372 : decode b_L_law 372 = .ok (.iaload, 1) := by decide +kernel
theorem d_L_law_373 : decode b_L_law 373 = .ok (.aload_n 0, 1) := by decide +kernel
theorem d_L_law_374 : decode b_L_law 374 = .ok (.iload 4, 2) := by decide +kernel
theorem d_L_law_376 : decode b_L_law 376 = .ok (.iconst 2, 1) := by decide +kernel
theorem d_L_law_377 : decode b_L_law 377 = .ok (.iadd, 1) := by decide +kernel
theorem d_L_law_378 : decode b_L_law 378 = .ok (.iaload, 1) := by decide +kernel
theorem d_L_law_379 : decode b_L_law 379 = .ok (.invokevirtual 59, 3) := by decide +kernel
theorem d_L_law_382 : decode b_L_law 382 = .ok (.pop, 1) := by decide +kernel
theorem d_L_law_383 : decode b_L_law 383 = .ok (.aload_n 2, 1) := by decide +kernel
theorem d_L_law_384 : decode b_L_law 384 = .ok (.aload_n 0, 1) := by decide +kernel
theorem d_L_law_385 : decode b_L_law 385 = .ok (.iload 4, 2) := by decide +kernel
theorem d_L_law_387 : decode b_L_law 387 = .ok (.iconst 1, 1) := by decide +kernel
theorem d_L_law_388 : decode b_L_law 388 = .ok (.iadd, 1) := by decide +kernel
theorem d_L_law_389 : decode b_L_law 389 = .ok (.iaload, 1) := by decide +kernel
theorem d_L_law_390 : decode b_L_law 390 = .ok (.aload_n 0, 1) := by decide +kernel
theorem d_L_law_391 : decode b_L_law 391 = .ok (.iload 4, 2) := by decide +kernel
theorem d_L_law_393 : decode b_L_law 393 = .ok (.iconst 2, 1) := by decide +kernel
theorem d_L_law_394 : decode b_L_law 394 = .ok (.iadd, 1) := by decide +kernel
theorem d_L_law_395 : decode b_L_law 395 = .ok (.iaload, 1) := by decide +kernel
theorem d_L_law_396 : decode b_L_law 396 = .ok (.invokevirtual 62, 3) := by decide +kernel
theorem d_L_law_399 : decode b_L_law 399 = .ok (.pop, 1) := by decide +kernel
theorem d_L_law_400 : decode b_L_law 400 = .ok (.goto (90), 3) := by decide +kernel
theorem d_L_law_403 : decode b_L_law 403 = .ok (.aload_n 1, 1) := by decide +kernel
theorem d_L_law_404 : decode b_L_law 404 = .ok (.aload_n 0, 1) := by decide +kernel
theorem d_L_law_405 : decode b_L_law 405 = .ok (.iload 4, 2) := by decide +kernel
theorem d_L_law_407 : decode b_L_law 407 = .ok (.iconst 1, 1) := by decide +kernel
theorem d_L_law_408 : decode b_L_law 408 = .ok (.iadd, 1) := by decide +kernel
theorem d_L_law_409 : decode b_L_law 409 = .ok (.iaload, 1) := by decide +kernel
theorem d_L_law_410 : decode b_L_law 410 = .ok (.invokevirtual 63, 3) := by decide +kernel
theorem d_L_law_413 : decode b_L_law 413 = .ok (.pop, 1) := by decide +kernel
theorem d_L_law_414 : decode b_L_law 414 = .ok (.aload_n 2, 1) := by decide +kernel
theorem d_L_law_415 : decode b_L_law 415 = .ok (.aload_n 0, 1) := by decide +kernel
theorem d_L_law_416 : decode b_L_law 416 = .ok (.iload 4, 2) := by decide +kernel
theorem d_L_law_418 : decode b_L_law 418 = .ok (.iconst 1, 1) := by decide +kernel
theorem d_L_law_419 : decode b_L_law 419 = .ok (.iadd, 1) := by decide +kernel
theorem d_L_law_420 : decode b_L_law 420 = .ok (.iaload, 1) := by decide +kernel
theorem d_L_law_421 : decode b_L_law 421 = .ok (.invokevirtual 67, 3) := by decide +kernel
theorem d_L_law_424 : decode b_L_law 424 = .ok (.pop, 1) := by decide +kernel
theorem d_L_law_425 : decode b_L_law 425 = .ok (.goto (65), 3) := by decide +kernel
theorem d_L_law_428 : decode b_L_law 428 = .ok (.aload_n 1, 1) := by decide +kernel
theorem d_L_law_429 : decode b_L_law 429 = .ok (.aload_n 0, 1) := by decide +kernel
theorem d_L_law_430 : decode b_L_law 430 = .ok (.iload 4, 2) := by decide +kernel
theorem d_L_law_432 : decode b_L_law 432 = .ok (.iconst 1, 1) := by decide +kernel
theorem d_L_law_433 : decode b_L_law 433 = .ok (.iadd, 1) := by decide +kernel
theorem d_L_law_434 : decode b_L_law 434 = .ok (.iaload, 1) := by decide +kernel
theorem d_L_law_435 : decode b_L_law 435 = .ok (.aload_n 0, 1) := by decide +kernel
theorem d_L_law_436 : decode b_L_law 436 = .ok (.iload 4, 2) := by decide +kernel
theorem d_L_law_438 : decode b_L_law 438 = .ok (.iconst 2, 1) := by decide +kernel
theorem d_L_law_439 : decode b_L_law 439 = .ok (.iadd, 1) := by decide +kernel
theorem d_L_law_440 : decode b_L_law 440 = .ok (.iaload, 1) := by decide +kernel
theorem d_L_law_441 : decode b_L_law 441 = .ok (.invokevirtual 68, 3) := by decide +kernel
theorem d_L_law_444 : decode b_L_law 444 = .ok (.pop, 1) := by decide +kernel
theorem d_L_law_445 : decode b_L_law 445 = .ok (.aload_n 2, 1) := by decide +kernel
theorem d_L_law_446 : decode b_L_law 446 = .ok (.aload_n 0, 1) := by decide +kernel
theorem d_L_law_447 : decode b_L_law 447 = .ok (.iload 4, 2) := by decide +kernel
theorem d_L_law_449 : decode b_L_law 449 = .ok (.iconst 1, 1) := by decide +kernel
theorem d_L_law_450 : decode b_L_law 450 = .ok (.iadd, 1) := by decide +kernel
theorem d_L_law_451 : decode b_L_law 451 = .ok (.iaload, 1) := by decide +kernel
theorem d_L_law_452 : decode b_L_law 452 = .ok (.aload_n 0, 1) := by decide +kernel
theorem d_L_law_453 : decode b_L_law 453 = .ok (.iload 4, 2) := by decide +kernel
theorem d_L_law_455 : decode b_L_law 455 = .ok (.iconst 2, 1) := by decide +kernel
theorem d_L_law_456 : decode b_L_law 456 = .ok (.iadd, 1) := by decide +kernel
theorem d_L_law_457 : decode b_L_law 457 = .ok (.iaload, 1) := by decide +kernel
theorem d_L_law_458 : decode b_L_law 458 = .ok (.invokevirtual 71, 3) := by decide +kernel
theorem d_L_law_461 : decode b_L_law 461 = .ok (.pop, 1) := by decide +kernel
theorem d_L_law_462 : decode b_L_law 462 = .ok (.goto (28), 3) := by decide +kernel
theorem d_L_law_465 : decode b_L_law 465 = .ok (.aload_n 1, 1) := by decide +kernel
theorem d_L_law_466 : decode b_L_law 466 = .ok (.aload_n 0, 1) := by decide +kernel
theorem d_L_law_467 : decode b_L_law 467 = .ok (.iload 4, 2) := by decide +kernel
theorem d_L_law_469 : decode b_L_law 469 = .ok (.iconst 1, 1) := by decide +kernel
theorem d_L_law_470 : decode b_L_law 470 = .ok (.iadd, 1) := by decide +kernel
theorem d_L_law_471 : decode b_L_law 471 = .ok (.iaload, 1) := by decide +kernel
theorem d_L_law_472 : decode b_L_law 472 = .ok (.invokevirtual 72, 3) := by decide +kernel
theorem d_L_law_475 : decode b_L_law 475 = .ok (.pop, 1) := by decide +kernel
theorem d_L_law_476 : decode b_L_law 476 = .ok (.aload_n 2, 1) := by decide +kernel
theorem d_L_law_477 : decode b_L_law 477 = .ok (.aload_n 0, 1) := by decide +kernel
theorem d_L_law_478 : decode b_L_law 478 = .ok (.iload 4, 2) := by decide +kernel
theorem d_L_law_480 : decode b_L_law 480 = .ok (.iconst 1, 1) := by decide +kernel
theorem d_L_law_481 : decode b_L_law 481 = .ok (.iadd, 1) := by decide +kernel
theorem d_L_law_482 : decode b_L_law 482 = .ok (.iaload, 1) := by decide +kernel
theorem d_L_law_483 : decode b_L_law 483 = .ok (.invokevirtual 75, 3) := by decide +kernel
theorem d_L_law_486 : decode b_L_law 486 = .ok (.pop, 1) := by decide +kernel
theorem d_L_law_487 : decode b_L_law 487 = .ok (.goto (3), 3) := by decide +kernel
theorem d_L_law_490 : decode b_L_law 490 = .ok (.iinc 4 (6), 3) := by decide +kernel
theorem d_L_law_493 : decode b_L_law 493 = .ok (.goto (-470), 3) := by decide +kernel
theorem d_L_law_496 : decode b_L_law 496 = .ok (.iconst 1, 1) := by decide +kernel
theorem d_L_law_497 : decode b_L_law 497 = .ok (.ireturn, 1) := by decide +kernel
end
section
theorem in_L : (Jvm.Cond.initialized "ProsePagesLaw") ∈ TT := TT_in 49 (by decide +kernel) (by decide +kernel)
theorem in_P : (Jvm.Cond.initialized "ProsePages") ∈ TT := TT_in 50 (by decide +kernel) (by decide +kernel)
theorem in_S : (Jvm.Cond.initialized "ProsePages$Setter") ∈ TT := TT_in 51 (by decide +kernel) (by decide +kernel)
theorem in_R : (Jvm.Cond.initialized "ProsePages$Row") ∈ TT := TT_in 52 (by decide +kernel) (by decide +kernel)
theorem in_T : (Jvm.Cond.initialized "ProsePages$Sheet") ∈ TT := TT_in 53 (by decide +kernel) (by decide +kernel)
theorem in_N : (Jvm.Cond.initialized "ProsePages$Node") ∈ TT := TT_in 54 (by decide +kernel) (by decide +kernel)
theorem in_M : (Jvm.Cond.initialized "ProsePagesModel") ∈ TT := TT_in 55 (by decide +kernel) (by decide +kernel)
theorem in_Th : (Jvm.Cond.initialized "java/lang/Throwable") ∈ TT := TT_in 56 (by decide +kernel) (by decide +kernel)
theorem in_Ex : (Jvm.Cond.initialized "java/lang/Exception") ∈ TT := TT_in 57 (by decide +kernel) (by decide +kernel)
theorem in_RT : (Jvm.Cond.initialized "java/lang/RuntimeException") ∈ TT := TT_in 58 (by decide +kernel) (by decide +kernel)
theorem in_IS : (Jvm.Cond.initialized "java/lang/IllegalStateException") ∈ TT := TT_in 59 (by decide +kernel) (by decide +kernel)
theorem in_IA : (Jvm.Cond.initialized "java/lang/IllegalArgumentException") ∈ TT := TT_in 60 (by decide +kernel) (by decide +kernel)
theorem in_A : (Jvm.Cond.initialized "java/util/Arrays") ∈ TT := TT_in 61 (by decide +kernel) (by decide +kernel)
theorem in_H : (Jvm.Cond.initialized "java/lang/Math") ∈ TT := TT_in 62 (by decide +kernel) (by decide +kernel)
theorem in_Y : (Jvm.Cond.initialized "java/lang/System") ∈ TT := TT_in 63 (by decide +kernel) (by decide +kernel)
theorem cl_L_8 : (Jvm.Cond.classLink "ProsePagesLaw" (8 : Nat) "ProsePages") ∈ TT := TT_in 64 (by decide +kernel) (by decide +kernel)
theorem ia_P : (Jvm.Cond.instantiable "ProsePages" (8 : Nat)) ∈ TT := TT_in 65 (by decide +kernel) (by decide +kernel)
theorem ml_L_24 : (Jvm.Cond.methodLink "ProsePagesLaw" (24 : Nat) ({ cls := "ProsePages", name := "<init>", desc := "()V" } : Jvm.MethodName)) ∈ TT := TT_in 66 (by decide +kernel) (by decide +kernel)
theorem im_P_init : (Jvm.Cond.instanceMethod ({ cls := "ProsePages", name := "<init>", desc := "()V" } : Jvm.MethodName)) ∈ TT := TT_in 67 (by decide +kernel) (by decide +kernel)
theorem cd_P_init : (Jvm.Cond.code ({ cls := "ProsePages", name := "<init>", desc := "()V" } : Jvm.MethodName) prog_1_method_1_code (1 : Nat) (Option.none : Option Jvm.ClassFile.FieldType)) ∈ TT := TT_in 68 (by decide +kernel) (by decide +kernel)
theorem ml_P_3 : (Jvm.Cond.methodLink "ProsePages" (3 : Nat) ({ cls := "java/lang/Object", name := "<init>", desc := "()V" } : Jvm.MethodName)) ∈ TT := TT_in 69 (by decide +kernel) (by decide +kernel)
theorem im_O_init : (Jvm.Cond.instanceMethod ({ cls := "java/lang/Object", name := "<init>", desc := "()V" } : Jvm.MethodName)) ∈ TT := TT_in 70 (by decide +kernel) (by decide +kernel)
theorem cd_O_init : (Jvm.Cond.code ({ cls := "java/lang/Object", name := "<init>", desc := "()V" } : Jvm.MethodName) object_method_1_code (1 : Nat) (Option.none : Option Jvm.ClassFile.FieldType)) ∈ TT := TT_in 71 (by decide +kernel) (by decide +kernel)
theorem cl_P_9 : (Jvm.Cond.classLink "ProsePages" (9 : Nat) "ProsePages$Node") ∈ TT := TT_in 72 (by decide +kernel) (by decide +kernel)
theorem cl_P_15 : (Jvm.Cond.classLink "ProsePages" (15 : Nat) "ProsePages$Setter") ∈ TT := TT_in 74 (by decide +kernel) (by decide +kernel)
theorem ia_S : (Jvm.Cond.instantiable "ProsePages$Setter" (6 : Nat)) ∈ TT := TT_in 75 (by decide +kernel) (by decide +kernel)
theorem im_S_init : (Jvm.Cond.instanceMethod ({ cls := "ProsePages$Setter", name := "<init>", desc := "()V" } : Jvm.MethodName)) ∈ TT := TT_in 77 (by decide +kernel) (by decide +kernel)
theorem cd_S_init : (Jvm.Cond.code ({ cls := "ProsePages$Setter", name := "<init>", desc := "()V" } : Jvm.MethodName) prog_4_method_1_code (1 : Nat) (Option.none : Option Jvm.ClassFile.FieldType)) ∈ TT := TT_in 78 (by decide +kernel) (by decide +kernel)
theorem ml_S_3 : (Jvm.Cond.methodLink "ProsePages$Setter" (3 : Nat) ({ cls := "java/lang/Object", name := "<init>", desc := "()V" } : Jvm.MethodName)) ∈ TT := TT_in 79 (by decide +kernel) (by decide +kernel)
theorem cl_S_9 : (Jvm.Cond.classLink "ProsePages$Setter" (9 : Nat) "ProsePages$Row") ∈ TT := TT_in 80 (by decide +kernel) (by decide +kernel)
theorem ia_R : (Jvm.Cond.instantiable "ProsePages$Row" (2 : Nat)) ∈ TT := TT_in 81 (by decide +kernel) (by decide +kernel)
theorem im_R_init : (Jvm.Cond.instanceMethod ({ cls := "ProsePages$Row", name := "<init>", desc := "()V" } : Jvm.MethodName)) ∈ TT := TT_in 83 (by decide +kernel) (by decide +kernel)
theorem cd_R_init : (Jvm.Cond.code ({ cls := "ProsePages$Row", name := "<init>", desc := "()V" } : Jvm.MethodName) prog_3_method_1_code (1 : Nat) (Option.none : Option Jvm.ClassFile.FieldType)) ∈ TT := TT_in 84 (by decide +kernel) (by decide +kernel)
theorem ml_R_3 : (Jvm.Cond.methodLink "ProsePages$Row" (3 : Nat) ({ cls := "java/lang/Object", name := "<init>", desc := "()V" } : Jvm.MethodName)) ∈ TT := TT_in 85 (by decide +kernel) (by decide +kernel)
theorem fl_R_9 : (Jvm.Cond.fieldLink "ProsePages$Row" (9 : Nat) "ProsePages$Row" "numbers" "[I") ∈ TT := TT_in 86 (by decide +kernel) (by decide +kernel)
theorem fl_R_15 : (Jvm.Cond.fieldLink "ProsePages$Row" (15 : Nat) "ProsePages$Row" "size" "I") ∈ TT := TT_in 87 (by decide +kernel) (by decide +kernel)
theorem ac_int : (Jvm.Cond.arrayClass Jvm.ClassFile.FieldType.int) ∈ TT := TT_in 93 (by decide +kernel) (by decide +kernel)
theorem cl_S_18 : (Jvm.Cond.classLink "ProsePages$Setter" (18 : Nat) "ProsePages$Sheet") ∈ TT := TT_in 94 (by decide +kernel) (by decide +kernel)
theorem ia_T : (Jvm.Cond.instantiable "ProsePages$Sheet" (11 : Nat)) ∈ TT := TT_in 95 (by decide +kernel) (by decide +kernel)
theorem im_T_init : (Jvm.Cond.instanceMethod ({ cls := "ProsePages$Sheet", name := "<init>", desc := "()V" } : Jvm.MethodName)) ∈ TT := TT_in 97 (by decide +kernel) (by decide +kernel)
theorem cd_T_init : (Jvm.Cond.code ({ cls := "ProsePages$Sheet", name := "<init>", desc := "()V" } : Jvm.MethodName) prog_5_method_1_code (1 : Nat) (Option.none : Option Jvm.ClassFile.FieldType)) ∈ TT := TT_in 98 (by decide +kernel) (by decide +kernel)
theorem ml_T_3 : (Jvm.Cond.methodLink "ProsePages$Sheet" (3 : Nat) ({ cls := "java/lang/Object", name := "<init>", desc := "()V" } : Jvm.MethodName)) ∈ TT := TT_in 99 (by decide +kernel) (by decide +kernel)
theorem cl_T_9 : (Jvm.Cond.classLink "ProsePages$Sheet" (9 : Nat) "ProsePages$Row") ∈ TT := TT_in 100 (by decide +kernel) (by decide +kernel)
theorem fl_T_12 : (Jvm.Cond.fieldLink "ProsePages$Sheet" (12 : Nat) "ProsePages$Sheet" "characters" "LProsePages$Row;") ∈ TT := TT_in 102 (by decide +kernel) (by decide +kernel)
theorem fl_T_18 : (Jvm.Cond.fieldLink "ProsePages$Sheet" (18 : Nat) "ProsePages$Sheet" "starts" "LProsePages$Row;") ∈ TT := TT_in 103 (by decide +kernel) (by decide +kernel)
theorem fl_T_21 : (Jvm.Cond.fieldLink "ProsePages$Sheet" (21 : Nat) "ProsePages$Sheet" "lengths" "LProsePages$Row;") ∈ TT := TT_in 104 (by decide +kernel) (by decide +kernel)
theorem fl_P_170 : (Jvm.Cond.fieldLink "ProsePages" (170 : Nat) "ProsePages$Sheet" "lengths" "LProsePages$Row;") ∈ TT := TT_in 105 (by decide +kernel) (by decide +kernel)
theorem fl_T_24 : (Jvm.Cond.fieldLink "ProsePages$Sheet" (24 : Nat) "ProsePages$Sheet" "pageOf" "LProsePages$Row;") ∈ TT := TT_in 106 (by decide +kernel) (by decide +kernel)
theorem fl_P_173 : (Jvm.Cond.fieldLink "ProsePages" (173 : Nat) "ProsePages$Sheet" "pageOf" "LProsePages$Row;") ∈ TT := TT_in 107 (by decide +kernel) (by decide +kernel)
theorem fl_T_27 : (Jvm.Cond.fieldLink "ProsePages$Sheet" (27 : Nat) "ProsePages$Sheet" "headingLines" "LProsePages$Row;") ∈ TT := TT_in 108 (by decide +kernel) (by decide +kernel)
theorem fl_S_93 : (Jvm.Cond.fieldLink "ProsePages$Setter" (93 : Nat) "ProsePages$Sheet" "headingLines" "LProsePages$Row;") ∈ TT := TT_in 109 (by decide +kernel) (by decide +kernel)
theorem fl_P_176 : (Jvm.Cond.fieldLink "ProsePages" (176 : Nat) "ProsePages$Sheet" "headingLines" "LProsePages$Row;") ∈ TT := TT_in 110 (by decide +kernel) (by decide +kernel)
theorem fl_T_30 : (Jvm.Cond.fieldLink "ProsePages$Sheet" (30 : Nat) "ProsePages$Sheet" "between" "LProsePages$Row;") ∈ TT := TT_in 111 (by decide +kernel) (by decide +kernel)
theorem fl_T_33 : (Jvm.Cond.fieldLink "ProsePages$Sheet" (33 : Nat) "ProsePages$Sheet" "pageFirst" "LProsePages$Row;") ∈ TT := TT_in 112 (by decide +kernel) (by decide +kernel)
theorem fl_P_164 : (Jvm.Cond.fieldLink "ProsePages" (164 : Nat) "ProsePages$Sheet" "pageFirst" "LProsePages$Row;") ∈ TT := TT_in 113 (by decide +kernel) (by decide +kernel)
theorem fl_T_36 : (Jvm.Cond.fieldLink "ProsePages$Sheet" (36 : Nat) "ProsePages$Sheet" "pageLines" "LProsePages$Row;") ∈ TT := TT_in 114 (by decide +kernel) (by decide +kernel)
theorem fl_P_157 : (Jvm.Cond.fieldLink "ProsePages" (157 : Nat) "ProsePages$Sheet" "pageLines" "LProsePages$Row;") ∈ TT := TT_in 115 (by decide +kernel) (by decide +kernel)
theorem fl_T_47 : (Jvm.Cond.fieldLink "ProsePages$Sheet" (47 : Nat) "ProsePages$Sheet" "rows" "I") ∈ TT := TT_in 116 (by decide +kernel) (by decide +kernel)
theorem fl_P_186 : (Jvm.Cond.fieldLink "ProsePages" (186 : Nat) "ProsePages$Sheet" "rows" "I") ∈ TT := TT_in 117 (by decide +kernel) (by decide +kernel)
theorem fl_T_51 : (Jvm.Cond.fieldLink "ProsePages$Sheet" (51 : Nat) "ProsePages$Sheet" "columns" "I") ∈ TT := TT_in 118 (by decide +kernel) (by decide +kernel)
theorem fl_P_189 : (Jvm.Cond.fieldLink "ProsePages" (189 : Nat) "ProsePages$Sheet" "columns" "I") ∈ TT := TT_in 119 (by decide +kernel) (by decide +kernel)
theorem fl_T_54 : (Jvm.Cond.fieldLink "ProsePages$Sheet" (54 : Nat) "ProsePages$Sheet" "isOverfull" "Z") ∈ TT := TT_in 120 (by decide +kernel) (by decide +kernel)
theorem fl_P_139 : (Jvm.Cond.fieldLink "ProsePages" (139 : Nat) "ProsePages$Sheet" "isOverfull" "Z") ∈ TT := TT_in 121 (by decide +kernel) (by decide +kernel)
theorem fl_S_12 : (Jvm.Cond.fieldLink "ProsePages$Setter" (12 : Nat) "ProsePages$Setter" "told" "LProsePages$Row;") ∈ TT := TT_in 145 (by decide +kernel) (by decide +kernel)
theorem fl_P_73 : (Jvm.Cond.fieldLink "ProsePages" (73 : Nat) "ProsePages$Setter" "told" "LProsePages$Row;") ∈ TT := TT_in 146 (by decide +kernel) (by decide +kernel)
theorem fl_S_21 : (Jvm.Cond.fieldLink "ProsePages$Setter" (21 : Nat) "ProsePages$Setter" "draft" "LProsePages$Sheet;") ∈ TT := TT_in 147 (by decide +kernel) (by decide +kernel)
theorem fl_P_128 : (Jvm.Cond.fieldLink "ProsePages" (128 : Nat) "ProsePages$Setter" "draft" "LProsePages$Sheet;") ∈ TT := TT_in 148 (by decide +kernel) (by decide +kernel)
theorem fl_S_25 : (Jvm.Cond.fieldLink "ProsePages$Setter" (25 : Nat) "ProsePages$Setter" "ahead" "LProsePages$Row;") ∈ TT := TT_in 149 (by decide +kernel) (by decide +kernel)
theorem fl_S_28 : (Jvm.Cond.fieldLink "ProsePages$Setter" (28 : Nat) "ProsePages$Setter" "aheadLater" "LProsePages$Row;") ∈ TT := TT_in 150 (by decide +kernel) (by decide +kernel)
theorem fl_S_31 : (Jvm.Cond.fieldLink "ProsePages$Setter" (31 : Nat) "ProsePages$Setter" "word" "LProsePages$Row;") ∈ TT := TT_in 151 (by decide +kernel) (by decide +kernel)
theorem fl_S_34 : (Jvm.Cond.fieldLink "ProsePages$Setter" (34 : Nat) "ProsePages$Setter" "content" "LProsePages$Row;") ∈ TT := TT_in 152 (by decide +kernel) (by decide +kernel)
theorem cl_P_22 : (Jvm.Cond.classLink "ProsePages" (22 : Nat) "ProsePages$Sheet") ∈ TT := TT_in 166 (by decide +kernel) (by decide +kernel)
theorem ia_N : (Jvm.Cond.instantiable "ProsePages$Node" (12 : Nat)) ∈ TT := TT_in 168 (by decide +kernel) (by decide +kernel)
theorem ml_P_29 : (Jvm.Cond.methodLink "ProsePages" (29 : Nat) ({ cls := "ProsePages$Node", name := "<init>", desc := "(IIILProsePages$Node;I)V" } : Jvm.MethodName)) ∈ TT := TT_in 169 (by decide +kernel) (by decide +kernel)
theorem im_N_init : (Jvm.Cond.instanceMethod ({ cls := "ProsePages$Node", name := "<init>", desc := "(IIILProsePages$Node;I)V" } : Jvm.MethodName)) ∈ TT := TT_in 170 (by decide +kernel) (by decide +kernel)
theorem cd_N_init : (Jvm.Cond.code ({ cls := "ProsePages$Node", name := "<init>", desc := "(IIILProsePages$Node;I)V" } : Jvm.MethodName) prog_2_method_1_code (6 : Nat) (Option.none : Option Jvm.ClassFile.FieldType)) ∈ TT := TT_in 171 (by decide +kernel) (by decide +kernel)
theorem ml_N_3 : (Jvm.Cond.methodLink "ProsePages$Node" (3 : Nat) ({ cls := "java/lang/Object", name := "<init>", desc := "()V" } : Jvm.MethodName)) ∈ TT := TT_in 172 (by decide +kernel) (by decide +kernel)
theorem fl_N_15 : (Jvm.Cond.fieldLink "ProsePages$Node" (15 : Nat) "ProsePages$Node" "number" "I") ∈ TT := TT_in 173 (by decide +kernel) (by decide +kernel)
theorem fl_P_93 : (Jvm.Cond.fieldLink "ProsePages" (93 : Nat) "ProsePages$Node" "number" "I") ∈ TT := TT_in 174 (by decide +kernel) (by decide +kernel)
theorem fl_N_18 : (Jvm.Cond.fieldLink "ProsePages$Node" (18 : Nat) "ProsePages$Node" "kind" "I") ∈ TT := TT_in 175 (by decide +kernel) (by decide +kernel)
theorem fl_S_41 : (Jvm.Cond.fieldLink "ProsePages$Setter" (41 : Nat) "ProsePages$Node" "kind" "I") ∈ TT := TT_in 176 (by decide +kernel) (by decide +kernel)
theorem fl_P_109 : (Jvm.Cond.fieldLink "ProsePages" (109 : Nat) "ProsePages$Node" "kind" "I") ∈ TT := TT_in 177 (by decide +kernel) (by decide +kernel)
theorem fl_N_24 : (Jvm.Cond.fieldLink "ProsePages$Node" (24 : Nat) "ProsePages$Node" "holder" "LProsePages$Node;") ∈ TT := TT_in 178 (by decide +kernel) (by decide +kernel)
theorem fl_P_96 : (Jvm.Cond.fieldLink "ProsePages" (96 : Nat) "ProsePages$Node" "holder" "LProsePages$Node;") ∈ TT := TT_in 179 (by decide +kernel) (by decide +kernel)
theorem fl_N_28 : (Jvm.Cond.fieldLink "ProsePages$Node" (28 : Nat) "ProsePages$Node" "depth" "I") ∈ TT := TT_in 180 (by decide +kernel) (by decide +kernel)
theorem fl_P_192 : (Jvm.Cond.fieldLink "ProsePages" (192 : Nat) "ProsePages$Node" "depth" "I") ∈ TT := TT_in 181 (by decide +kernel) (by decide +kernel)
theorem fl_N_31 : (Jvm.Cond.fieldLink "ProsePages$Node" (31 : Nat) "ProsePages$Node" "from" "I") ∈ TT := TT_in 182 (by decide +kernel) (by decide +kernel)
theorem fl_S_83 : (Jvm.Cond.fieldLink "ProsePages$Setter" (83 : Nat) "ProsePages$Node" "from" "I") ∈ TT := TT_in 183 (by decide +kernel) (by decide +kernel)
theorem fl_N_34 : (Jvm.Cond.fieldLink "ProsePages$Node" (34 : Nat) "ProsePages$Node" "to" "I") ∈ TT := TT_in 184 (by decide +kernel) (by decide +kernel)
theorem fl_S_86 : (Jvm.Cond.fieldLink "ProsePages$Setter" (86 : Nat) "ProsePages$Node" "to" "I") ∈ TT := TT_in 185 (by decide +kernel) (by decide +kernel)
theorem fl_N_21 : (Jvm.Cond.fieldLink "ProsePages$Node" (21 : Nat) "ProsePages$Node" "value" "I") ∈ TT := TT_in 186 (by decide +kernel) (by decide +kernel)
theorem fl_S_76 : (Jvm.Cond.fieldLink "ProsePages$Setter" (76 : Nat) "ProsePages$Node" "value" "I") ∈ TT := TT_in 187 (by decide +kernel) (by decide +kernel)
theorem fl_P_116 : (Jvm.Cond.fieldLink "ProsePages" (116 : Nat) "ProsePages$Node" "value" "I") ∈ TT := TT_in 188 (by decide +kernel) (by decide +kernel)
theorem fl_S_51 : (Jvm.Cond.fieldLink "ProsePages$Setter" (51 : Nat) "ProsePages$Node" "first" "LProsePages$Node;") ∈ TT := TT_in 189 (by decide +kernel) (by decide +kernel)
theorem fl_N_44 : (Jvm.Cond.fieldLink "ProsePages$Node" (44 : Nat) "ProsePages$Node" "first" "LProsePages$Node;") ∈ TT := TT_in 190 (by decide +kernel) (by decide +kernel)
theorem fl_N_41 : (Jvm.Cond.fieldLink "ProsePages$Node" (41 : Nat) "ProsePages$Node" "last" "LProsePages$Node;") ∈ TT := TT_in 191 (by decide +kernel) (by decide +kernel)
theorem fl_P_106 : (Jvm.Cond.fieldLink "ProsePages" (106 : Nat) "ProsePages$Node" "last" "LProsePages$Node;") ∈ TT := TT_in 192 (by decide +kernel) (by decide +kernel)
theorem fl_S_70 : (Jvm.Cond.fieldLink "ProsePages$Setter" (70 : Nat) "ProsePages$Node" "next" "LProsePages$Node;") ∈ TT := TT_in 193 (by decide +kernel) (by decide +kernel)
theorem fl_N_47 : (Jvm.Cond.fieldLink "ProsePages$Node" (47 : Nat) "ProsePages$Node" "next" "LProsePages$Node;") ∈ TT := TT_in 194 (by decide +kernel) (by decide +kernel)
theorem fl_S_73 : (Jvm.Cond.fieldLink "ProsePages$Setter" (73 : Nat) "ProsePages$Node" "atLine" "I") ∈ TT := TT_in 195 (by decide +kernel) (by decide +kernel)
theorem fl_P_206 : (Jvm.Cond.fieldLink "ProsePages" (206 : Nat) "ProsePages$Node" "atLine" "I") ∈ TT := TT_in 196 (by decide +kernel) (by decide +kernel)
theorem fl_N_9 : (Jvm.Cond.fieldLink "ProsePages$Node" (9 : Nat) "ProsePages$Node" "onPage" "I") ∈ TT := TT_in 197 (by decide +kernel) (by decide +kernel)
theorem fl_P_183 : (Jvm.Cond.fieldLink "ProsePages" (183 : Nat) "ProsePages$Node" "onPage" "I") ∈ TT := TT_in 198 (by decide +kernel) (by decide +kernel)
theorem fl_P_11 : (Jvm.Cond.fieldLink "ProsePages" (11 : Nat) "ProsePages" "nodes" "[LProsePages$Node;") ∈ TT := TT_in 224 (by decide +kernel) (by decide +kernel)
theorem fl_P_18 : (Jvm.Cond.fieldLink "ProsePages" (18 : Nat) "ProsePages" "setter" "LProsePages$Setter;") ∈ TT := TT_in 225 (by decide +kernel) (by decide +kernel)
theorem fl_P_32 : (Jvm.Cond.fieldLink "ProsePages" (32 : Nat) "ProsePages" "body" "LProsePages$Node;") ∈ TT := TT_in 226 (by decide +kernel) (by decide +kernel)
theorem fl_P_36 : (Jvm.Cond.fieldLink "ProsePages" (36 : Nat) "ProsePages" "hand" "LProsePages$Node;") ∈ TT := TT_in 227 (by decide +kernel) (by decide +kernel)
theorem fl_P_39 : (Jvm.Cond.fieldLink "ProsePages" (39 : Nat) "ProsePages" "nodeCount" "I") ∈ TT := TT_in 228 (by decide +kernel) (by decide +kernel)
theorem fl_P_101 : (Jvm.Cond.fieldLink "ProsePages" (101 : Nat) "ProsePages" "characters" "I") ∈ TT := TT_in 229 (by decide +kernel) (by decide +kernel)
theorem fl_P_25 : (Jvm.Cond.fieldLink "ProsePages" (25 : Nat) "ProsePages" "shown" "LProsePages$Sheet;") ∈ TT := TT_in 230 (by decide +kernel) (by decide +kernel)
theorem fl_P_122 : (Jvm.Cond.fieldLink "ProsePages" (122 : Nat) "ProsePages" "hasPages" "Z") ∈ TT := TT_in 231 (by decide +kernel) (by decide +kernel)
theorem ml_L_34 : (Jvm.Cond.methodLink "ProsePagesLaw" (34 : Nat) ({ cls := "ProsePages", name := "end", desc := "()I" } : Jvm.MethodName)) ∈ TT := TT_in 249 (by decide +kernel) (by decide +kernel)
theorem im_P_end : (Jvm.Cond.instanceMethod ({ cls := "ProsePages", name := "end", desc := "()I" } : Jvm.MethodName)) ∈ TT := TT_in 250 (by decide +kernel) (by decide +kernel)
theorem se_P_end : (Jvm.Cond.selects "ProsePages" ({ cls := "ProsePages", name := "end", desc := "()I" } : Jvm.MethodName) ({ cls := "ProsePages", name := "end", desc := "()I" } : Jvm.MethodName)) ∈ TT := TT_in 251 (by decide +kernel) (by decide +kernel)
theorem cd_P_end : (Jvm.Cond.code ({ cls := "ProsePages", name := "end", desc := "()I" } : Jvm.MethodName) prog_1_method_3_code (1 : Nat) (Option.some Jvm.ClassFile.FieldType.int)) ∈ TT := TT_in 252 (by decide +kernel) (by decide +kernel)
theorem ml_L_43 : (Jvm.Cond.methodLink "ProsePagesLaw" (43 : Nat) ({ cls := "ProsePages", name := "clear", desc := "()V" } : Jvm.MethodName)) ∈ TT := TT_in 253 (by decide +kernel) (by decide +kernel)
theorem im_P_clear : (Jvm.Cond.instanceMethod ({ cls := "ProsePages", name := "clear", desc := "()V" } : Jvm.MethodName)) ∈ TT := TT_in 254 (by decide +kernel) (by decide +kernel)
theorem se_P_clear : (Jvm.Cond.selects "ProsePages" ({ cls := "ProsePages", name := "clear", desc := "()V" } : Jvm.MethodName) ({ cls := "ProsePages", name := "clear", desc := "()V" } : Jvm.MethodName)) ∈ TT := TT_in 255 (by decide +kernel) (by decide +kernel)
theorem cd_P_clear : (Jvm.Cond.code ({ cls := "ProsePages", name := "clear", desc := "()V" } : Jvm.MethodName) prog_1_method_5_code (1 : Nat) (Option.none : Option Jvm.ClassFile.FieldType)) ∈ TT := TT_in 256 (by decide +kernel) (by decide +kernel)
theorem ml_P_119 : (Jvm.Cond.methodLink "ProsePages" (119 : Nat) ({ cls := "ProsePages$Row", name := "cut", desc := "(I)V" } : Jvm.MethodName)) ∈ TT := TT_in 257 (by decide +kernel) (by decide +kernel)
theorem im_R_cut : (Jvm.Cond.instanceMethod ({ cls := "ProsePages$Row", name := "cut", desc := "(I)V" } : Jvm.MethodName)) ∈ TT := TT_in 258 (by decide +kernel) (by decide +kernel)
theorem se_R_cut : (Jvm.Cond.selects "ProsePages$Row" ({ cls := "ProsePages$Row", name := "cut", desc := "(I)V" } : Jvm.MethodName) ({ cls := "ProsePages$Row", name := "cut", desc := "(I)V" } : Jvm.MethodName)) ∈ TT := TT_in 259 (by decide +kernel) (by decide +kernel)
theorem cd_R_cut : (Jvm.Cond.code ({ cls := "ProsePages$Row", name := "cut", desc := "(I)V" } : Jvm.MethodName) prog_3_method_7_code (2 : Nat) (Option.none : Option Jvm.ClassFile.FieldType)) ∈ TT := TT_in 260 (by decide +kernel) (by decide +kernel)
theorem ml_L_50 : (Jvm.Cond.methodLink "ProsePagesLaw" (50 : Nat) ({ cls := "ProsePages", name := "cell", desc := "(III)I" } : Jvm.MethodName)) ∈ TT := TT_in 261 (by decide +kernel) (by decide +kernel)
theorem im_P_cell : (Jvm.Cond.instanceMethod ({ cls := "ProsePages", name := "cell", desc := "(III)I" } : Jvm.MethodName)) ∈ TT := TT_in 262 (by decide +kernel) (by decide +kernel)
theorem se_P_cell : (Jvm.Cond.selects "ProsePages" ({ cls := "ProsePages", name := "cell", desc := "(III)I" } : Jvm.MethodName) ({ cls := "ProsePages", name := "cell", desc := "(III)I" } : Jvm.MethodName)) ∈ TT := TT_in 263 (by decide +kernel) (by decide +kernel)
theorem cd_P_cell : (Jvm.Cond.code ({ cls := "ProsePages", name := "cell", desc := "(III)I" } : Jvm.MethodName) prog_1_method_7_code (4 : Nat) (Option.some Jvm.ClassFile.FieldType.int)) ∈ TT := TT_in 264 (by decide +kernel) (by decide +kernel)
theorem ml_P_153 : (Jvm.Cond.methodLink "ProsePages" (153 : Nat) ({ cls := "ProsePages$Sheet", name := "character", desc := "(III)I" } : Jvm.MethodName)) ∈ TT := TT_in 265 (by decide +kernel) (by decide +kernel)
theorem im_T_character : (Jvm.Cond.instanceMethod ({ cls := "ProsePages$Sheet", name := "character", desc := "(III)I" } : Jvm.MethodName)) ∈ TT := TT_in 266 (by decide +kernel) (by decide +kernel)
theorem se_T_character : (Jvm.Cond.selects "ProsePages$Sheet" ({ cls := "ProsePages$Sheet", name := "character", desc := "(III)I" } : Jvm.MethodName) ({ cls := "ProsePages$Sheet", name := "character", desc := "(III)I" } : Jvm.MethodName)) ∈ TT := TT_in 267 (by decide +kernel) (by decide +kernel)
theorem cd_T_character : (Jvm.Cond.code ({ cls := "ProsePages$Sheet", name := "character", desc := "(III)I" } : Jvm.MethodName) prog_5_method_9_code (5 : Nat) (Option.some Jvm.ClassFile.FieldType.int)) ∈ TT := TT_in 268 (by decide +kernel) (by decide +kernel)
theorem ml_T_76 : (Jvm.Cond.methodLink "ProsePages$Sheet" (76 : Nat) ({ cls := "ProsePages$Sheet", name := "pageCount", desc := "()I" } : Jvm.MethodName)) ∈ TT := TT_in 269 (by decide +kernel) (by decide +kernel)
theorem im_T_pageCount : (Jvm.Cond.instanceMethod ({ cls := "ProsePages$Sheet", name := "pageCount", desc := "()I" } : Jvm.MethodName)) ∈ TT := TT_in 270 (by decide +kernel) (by decide +kernel)
theorem se_T_pageCount : (Jvm.Cond.selects "ProsePages$Sheet" ({ cls := "ProsePages$Sheet", name := "pageCount", desc := "()I" } : Jvm.MethodName) ({ cls := "ProsePages$Sheet", name := "pageCount", desc := "()I" } : Jvm.MethodName)) ∈ TT := TT_in 271 (by decide +kernel) (by decide +kernel)
theorem cd_T_pageCount : (Jvm.Cond.code ({ cls := "ProsePages$Sheet", name := "pageCount", desc := "()I" } : Jvm.MethodName) prog_5_method_3_code (1 : Nat) (Option.some Jvm.ClassFile.FieldType.int)) ∈ TT := TT_in 272 (by decide +kernel) (by decide +kernel)
theorem ml_T_39 : (Jvm.Cond.methodLink "ProsePages$Sheet" (39 : Nat) ({ cls := "ProsePages$Row", name := "size", desc := "()I" } : Jvm.MethodName)) ∈ TT := TT_in 273 (by decide +kernel) (by decide +kernel)
theorem im_R_size : (Jvm.Cond.instanceMethod ({ cls := "ProsePages$Row", name := "size", desc := "()I" } : Jvm.MethodName)) ∈ TT := TT_in 274 (by decide +kernel) (by decide +kernel)
theorem se_R_size : (Jvm.Cond.selects "ProsePages$Row" ({ cls := "ProsePages$Row", name := "size", desc := "()I" } : Jvm.MethodName) ({ cls := "ProsePages$Row", name := "size", desc := "()I" } : Jvm.MethodName)) ∈ TT := TT_in 275 (by decide +kernel) (by decide +kernel)
theorem cd_R_size : (Jvm.Cond.code ({ cls := "ProsePages$Row", name := "size", desc := "()I" } : Jvm.MethodName) prog_3_method_2_code (1 : Nat) (Option.some Jvm.ClassFile.FieldType.int)) ∈ TT := TT_in 276 (by decide +kernel) (by decide +kernel)
theorem ml_T_62 : (Jvm.Cond.methodLink "ProsePages$Sheet" (62 : Nat) ({ cls := "ProsePages$Row", name := "get", desc := "(I)I" } : Jvm.MethodName)) ∈ TT := TT_in 277 (by decide +kernel) (by decide +kernel)
theorem im_R_get : (Jvm.Cond.instanceMethod ({ cls := "ProsePages$Row", name := "get", desc := "(I)I" } : Jvm.MethodName)) ∈ TT := TT_in 278 (by decide +kernel) (by decide +kernel)
theorem se_R_get : (Jvm.Cond.selects "ProsePages$Row" ({ cls := "ProsePages$Row", name := "get", desc := "(I)I" } : Jvm.MethodName) ({ cls := "ProsePages$Row", name := "get", desc := "(I)I" } : Jvm.MethodName)) ∈ TT := TT_in 279 (by decide +kernel) (by decide +kernel)
theorem cd_R_get : (Jvm.Cond.code ({ cls := "ProsePages$Row", name := "get", desc := "(I)I" } : Jvm.MethodName) prog_3_method_3_code (2 : Nat) (Option.some Jvm.ClassFile.FieldType.int)) ∈ TT := TT_in 280 (by decide +kernel) (by decide +kernel)
theorem ml_L_55 : (Jvm.Cond.methodLink "ProsePagesLaw" (55 : Nat) ({ cls := "ProsePages", name := "page", desc := "(II)I" } : Jvm.MethodName)) ∈ TT := TT_in 281 (by decide +kernel) (by decide +kernel)
theorem im_P_page : (Jvm.Cond.instanceMethod ({ cls := "ProsePages", name := "page", desc := "(II)I" } : Jvm.MethodName)) ∈ TT := TT_in 282 (by decide +kernel) (by decide +kernel)
theorem se_P_page : (Jvm.Cond.selects "ProsePages" ({ cls := "ProsePages", name := "page", desc := "(II)I" } : Jvm.MethodName) ({ cls := "ProsePages", name := "page", desc := "(II)I" } : Jvm.MethodName)) ∈ TT := TT_in 283 (by decide +kernel) (by decide +kernel)
theorem cd_P_page : (Jvm.Cond.code ({ cls := "ProsePages", name := "page", desc := "(II)I" } : Jvm.MethodName) prog_1_method_8_code (3 : Nat) (Option.some Jvm.ClassFile.FieldType.int)) ∈ TT := TT_in 284 (by decide +kernel) (by decide +kernel)
theorem ml_P_150 : (Jvm.Cond.methodLink "ProsePages" (150 : Nat) ({ cls := "ProsePages$Sheet", name := "pageCount", desc := "()I" } : Jvm.MethodName)) ∈ TT := TT_in 285 (by decide +kernel) (by decide +kernel)
theorem ml_P_160 : (Jvm.Cond.methodLink "ProsePages" (160 : Nat) ({ cls := "ProsePages$Row", name := "get", desc := "(I)I" } : Jvm.MethodName)) ∈ TT := TT_in 286 (by decide +kernel) (by decide +kernel)
theorem ml_L_59 : (Jvm.Cond.methodLink "ProsePagesLaw" (59 : Nat) ({ cls := "ProsePages", name := "line", desc := "(II)I" } : Jvm.MethodName)) ∈ TT := TT_in 287 (by decide +kernel) (by decide +kernel)
theorem im_P_line : (Jvm.Cond.instanceMethod ({ cls := "ProsePages", name := "line", desc := "(II)I" } : Jvm.MethodName)) ∈ TT := TT_in 288 (by decide +kernel) (by decide +kernel)
theorem se_P_line : (Jvm.Cond.selects "ProsePages" ({ cls := "ProsePages", name := "line", desc := "(II)I" } : Jvm.MethodName) ({ cls := "ProsePages", name := "line", desc := "(II)I" } : Jvm.MethodName)) ∈ TT := TT_in 289 (by decide +kernel) (by decide +kernel)
theorem cd_P_line : (Jvm.Cond.code ({ cls := "ProsePages", name := "line", desc := "(II)I" } : Jvm.MethodName) prog_1_method_9_code (3 : Nat) (Option.some Jvm.ClassFile.FieldType.int)) ∈ TT := TT_in 290 (by decide +kernel) (by decide +kernel)
theorem ml_P_167 : (Jvm.Cond.methodLink "ProsePages" (167 : Nat) ({ cls := "ProsePages$Sheet", name := "lineCount", desc := "()I" } : Jvm.MethodName)) ∈ TT := TT_in 291 (by decide +kernel) (by decide +kernel)
theorem im_T_lineCount : (Jvm.Cond.instanceMethod ({ cls := "ProsePages$Sheet", name := "lineCount", desc := "()I" } : Jvm.MethodName)) ∈ TT := TT_in 292 (by decide +kernel) (by decide +kernel)
theorem se_T_lineCount : (Jvm.Cond.selects "ProsePages$Sheet" ({ cls := "ProsePages$Sheet", name := "lineCount", desc := "()I" } : Jvm.MethodName) ({ cls := "ProsePages$Sheet", name := "lineCount", desc := "()I" } : Jvm.MethodName)) ∈ TT := TT_in 293 (by decide +kernel) (by decide +kernel)
theorem cd_T_lineCount : (Jvm.Cond.code ({ cls := "ProsePages$Sheet", name := "lineCount", desc := "()I" } : Jvm.MethodName) prog_5_method_2_code (1 : Nat) (Option.some Jvm.ClassFile.FieldType.int)) ∈ TT := TT_in 294 (by decide +kernel) (by decide +kernel)
theorem ml_L_63 : (Jvm.Cond.methodLink "ProsePagesLaw" (63 : Nat) ({ cls := "ProsePages", name := "find", desc := "(I)I" } : Jvm.MethodName)) ∈ TT := TT_in 295 (by decide +kernel) (by decide +kernel)
theorem im_P_find : (Jvm.Cond.instanceMethod ({ cls := "ProsePages", name := "find", desc := "(I)I" } : Jvm.MethodName)) ∈ TT := TT_in 296 (by decide +kernel) (by decide +kernel)
theorem se_P_find : (Jvm.Cond.selects "ProsePages" ({ cls := "ProsePages", name := "find", desc := "(I)I" } : Jvm.MethodName) ({ cls := "ProsePages", name := "find", desc := "(I)I" } : Jvm.MethodName)) ∈ TT := TT_in 297 (by decide +kernel) (by decide +kernel)
theorem cd_P_find : (Jvm.Cond.code ({ cls := "ProsePages", name := "find", desc := "(I)I" } : Jvm.MethodName) prog_1_method_10_code (3 : Nat) (Option.some Jvm.ClassFile.FieldType.int)) ∈ TT := TT_in 298 (by decide +kernel) (by decide +kernel)
theorem ml_P_179 : (Jvm.Cond.methodLink "ProsePages" (179 : Nat) ({ cls := "ProsePages", name := "nodeAt", desc := "(I)LProsePages$Node;" } : Jvm.MethodName)) ∈ TT := TT_in 299 (by decide +kernel) (by decide +kernel)
theorem im_P_nodeAt : (Jvm.Cond.instanceMethod ({ cls := "ProsePages", name := "nodeAt", desc := "(I)LProsePages$Node;" } : Jvm.MethodName)) ∈ TT := TT_in 301 (by decide +kernel) (by decide +kernel)
theorem cd_P_nodeAt : (Jvm.Cond.code ({ cls := "ProsePages", name := "nodeAt", desc := "(I)LProsePages$Node;" } : Jvm.MethodName) prog_1_method_16_code (2 : Nat) (Option.some (Jvm.ClassFile.FieldType.object "ProsePages$Node"))) ∈ TT := TT_in 302 (by decide +kernel) (by decide +kernel)
theorem ml_L_68 : (Jvm.Cond.methodLink "ProsePagesLaw" (68 : Nat) ({ cls := "ProsePages", name := "node", desc := "(II)I" } : Jvm.MethodName)) ∈ TT := TT_in 303 (by decide +kernel) (by decide +kernel)
theorem im_P_node : (Jvm.Cond.instanceMethod ({ cls := "ProsePages", name := "node", desc := "(II)I" } : Jvm.MethodName)) ∈ TT := TT_in 304 (by decide +kernel) (by decide +kernel)
theorem se_P_node : (Jvm.Cond.selects "ProsePages" ({ cls := "ProsePages", name := "node", desc := "(II)I" } : Jvm.MethodName) ({ cls := "ProsePages", name := "node", desc := "(II)I" } : Jvm.MethodName)) ∈ TT := TT_in 305 (by decide +kernel) (by decide +kernel)
theorem cd_P_node : (Jvm.Cond.code ({ cls := "ProsePages", name := "node", desc := "(II)I" } : Jvm.MethodName) prog_1_method_11_code (4 : Nat) (Option.some Jvm.ClassFile.FieldType.int)) ∈ TT := TT_in 306 (by decide +kernel) (by decide +kernel)
theorem ml_L_72 : (Jvm.Cond.methodLink "ProsePagesLaw" (72 : Nat) ({ cls := "ProsePages", name := "about", desc := "(I)I" } : Jvm.MethodName)) ∈ TT := TT_in 307 (by decide +kernel) (by decide +kernel)
theorem im_P_about : (Jvm.Cond.instanceMethod ({ cls := "ProsePages", name := "about", desc := "(I)I" } : Jvm.MethodName)) ∈ TT := TT_in 308 (by decide +kernel) (by decide +kernel)
theorem se_P_about : (Jvm.Cond.selects "ProsePages" ({ cls := "ProsePages", name := "about", desc := "(I)I" } : Jvm.MethodName) ({ cls := "ProsePages", name := "about", desc := "(I)I" } : Jvm.MethodName)) ∈ TT := TT_in 309 (by decide +kernel) (by decide +kernel)
theorem cd_P_about : (Jvm.Cond.code ({ cls := "ProsePages", name := "about", desc := "(I)I" } : Jvm.MethodName) prog_1_method_12_code (2 : Nat) (Option.some Jvm.ClassFile.FieldType.int)) ∈ TT := TT_in 310 (by decide +kernel) (by decide +kernel)
theorem ml_L_28 : (Jvm.Cond.methodLink "ProsePagesLaw" (28 : Nat) ({ cls := "ProsePagesLaw", name := "begin", desc := "(LProsePages;II[J)I" } : Jvm.MethodName)) ∈ TT := TT_in 311 (by decide +kernel) (by decide +kernel)
theorem sm_L_begin : (Jvm.Cond.static ({ cls := "ProsePagesLaw", name := "begin", desc := "(LProsePages;II[J)I" } : Jvm.MethodName)) ∈ TT := TT_in 312 (by decide +kernel) (by decide +kernel)
theorem cd_L_begin : (Jvm.Cond.codeWith ({ cls := "ProsePagesLaw", name := "begin", desc := "(LProsePages;II[J)I" } : Jvm.MethodName) method_3_code (5 : Nat) (Option.some Jvm.ClassFile.FieldType.int) [((0 : Nat), (10 : Nat), (13 : Nat), (13 : Nat)), ((0 : Nat), (10 : Nat), (17 : Nat), (15 : Nat))]) ∈ TT := TT_in 313 (by decide +kernel) (by decide +kernel)
theorem cl_L_13 : (Jvm.Cond.classLink "ProsePagesLaw" (13 : Nat) "java/lang/IllegalStateException") ∈ TT := TT_in 314 (by decide +kernel) (by decide +kernel)
theorem cl_L_15 : (Jvm.Cond.classLink "ProsePagesLaw" (15 : Nat) "java/lang/IllegalArgumentException") ∈ TT := TT_in 315 (by decide +kernel) (by decide +kernel)
theorem ml_L_7 : (Jvm.Cond.methodLink "ProsePagesLaw" (7 : Nat) ({ cls := "ProsePages", name := "begin", desc := "(II)I" } : Jvm.MethodName)) ∈ TT := TT_in 316 (by decide +kernel) (by decide +kernel)
theorem im_P_begin : (Jvm.Cond.instanceMethod ({ cls := "ProsePages", name := "begin", desc := "(II)I" } : Jvm.MethodName)) ∈ TT := TT_in 317 (by decide +kernel) (by decide +kernel)
theorem se_P_begin : (Jvm.Cond.selects "ProsePages" ({ cls := "ProsePages", name := "begin", desc := "(II)I" } : Jvm.MethodName) ({ cls := "ProsePages", name := "begin", desc := "(II)I" } : Jvm.MethodName)) ∈ TT := TT_in 318 (by decide +kernel) (by decide +kernel)
theorem cd_P_begin : (Jvm.Cond.code ({ cls := "ProsePages", name := "begin", desc := "(II)I" } : Jvm.MethodName) prog_1_method_2_code (4 : Nat) (Option.some Jvm.ClassFile.FieldType.int)) ∈ TT := TT_in 319 (by decide +kernel) (by decide +kernel)
theorem ml_P_43 : (Jvm.Cond.methodLink "ProsePages" (43 : Nat) ({ cls := "ProsePages", name := "isNodeRefused", desc := "()Z" } : Jvm.MethodName)) ∈ TT := TT_in 320 (by decide +kernel) (by decide +kernel)
theorem im_P_isNodeRefused : (Jvm.Cond.instanceMethod ({ cls := "ProsePages", name := "isNodeRefused", desc := "()Z" } : Jvm.MethodName)) ∈ TT := TT_in 322 (by decide +kernel) (by decide +kernel)
theorem cd_P_isNodeRefused : (Jvm.Cond.code ({ cls := "ProsePages", name := "isNodeRefused", desc := "()Z" } : Jvm.MethodName) prog_1_method_13_code (1 : Nat) (Option.some Jvm.ClassFile.FieldType.boolean)) ∈ TT := TT_in 323 (by decide +kernel) (by decide +kernel)
theorem cl_P_47 : (Jvm.Cond.classLink "ProsePages" (47 : Nat) "java/lang/IllegalStateException") ∈ TT := TT_in 324 (by decide +kernel) (by decide +kernel)
theorem ia_IS : (Jvm.Cond.instantiable "java/lang/IllegalStateException" (6 : Nat)) ∈ TT := TT_in 325 (by decide +kernel) (by decide +kernel)
theorem fl_Th_198 : (Jvm.Cond.fieldLink "java/lang/Throwable" (198 : Nat) "java/lang/Throwable" "backtrace" "Ljava/lang/Object;") ∈ TT := TT_in 345 (by decide +kernel) (by decide +kernel)
theorem ml_Th_1 : (Jvm.Cond.methodLink "java/lang/Throwable" (1 : Nat) ({ cls := "java/lang/Object", name := "<init>", desc := "()V" } : Jvm.MethodName)) ∈ TT := TT_in 349 (by decide +kernel) (by decide +kernel)
theorem fl_Th_13 : (Jvm.Cond.fieldLink "java/lang/Throwable" (13 : Nat) "java/lang/Throwable" "UNASSIGNED_STACK" "[Ljava/lang/StackTraceElement;") ∈ TT := TT_in 350 (by decide +kernel) (by decide +kernel)
theorem fl_Th_20 : (Jvm.Cond.fieldLink "java/lang/Throwable" (20 : Nat) "java/lang/Throwable" "SUPPRESSED_SENTINEL" "Ljava/util/List;") ∈ TT := TT_in 352 (by decide +kernel) (by decide +kernel)
theorem ml_Th_27 : (Jvm.Cond.methodLink "java/lang/Throwable" (27 : Nat) ({ cls := "java/lang/Throwable", name := "fillInStackTrace", desc := "()Ljava/lang/Throwable;" } : Jvm.MethodName)) ∈ TT := TT_in 354 (by decide +kernel) (by decide +kernel)
theorem ml_Th_202 : (Jvm.Cond.methodLink "java/lang/Throwable" (202 : Nat) ({ cls := "java/lang/Throwable", name := "fillInStackTrace", desc := "(I)Ljava/lang/Throwable;" } : Jvm.MethodName)) ∈ TT := TT_in 359 (by decide +kernel) (by decide +kernel)
theorem ia_Th : (Jvm.Cond.instantiable "java/lang/Throwable" (6 : Nat)) ∈ TT := TT_in 362 (by decide +kernel) (by decide +kernel)
theorem ml_P_51 : (Jvm.Cond.methodLink "ProsePages" (51 : Nat) ({ cls := "java/lang/IllegalStateException", name := "<init>", desc := "(Ljava/lang/String;)V" } : Jvm.MethodName)) ∈ TT := TT_in 365 (by decide +kernel) (by decide +kernel)
theorem ml_IS_7 : (Jvm.Cond.methodLink "java/lang/IllegalStateException" (7 : Nat) ({ cls := "java/lang/RuntimeException", name := "<init>", desc := "(Ljava/lang/String;)V" } : Jvm.MethodName)) ∈ TT := TT_in 368 (by decide +kernel) (by decide +kernel)
theorem ml_RT_7 : (Jvm.Cond.methodLink "java/lang/RuntimeException" (7 : Nat) ({ cls := "java/lang/Exception", name := "<init>", desc := "(Ljava/lang/String;)V" } : Jvm.MethodName)) ∈ TT := TT_in 371 (by decide +kernel) (by decide +kernel)
theorem ml_Ex_7 : (Jvm.Cond.methodLink "java/lang/Exception" (7 : Nat) ({ cls := "java/lang/Throwable", name := "<init>", desc := "(Ljava/lang/String;)V" } : Jvm.MethodName)) ∈ TT := TT_in 374 (by decide +kernel) (by decide +kernel)
theorem fl_Th_31 : (Jvm.Cond.fieldLink "java/lang/Throwable" (31 : Nat) "java/lang/Throwable" "detailMessage" "Ljava/lang/String;") ∈ TT := TT_in 378 (by decide +kernel) (by decide +kernel)
theorem fl_Th_7 : (Jvm.Cond.fieldLink "java/lang/Throwable" (7 : Nat) "java/lang/Throwable" "cause" "Ljava/lang/Throwable;") ∈ TT := TT_in 379 (by decide +kernel) (by decide +kernel)
theorem fl_Th_17 : (Jvm.Cond.fieldLink "java/lang/Throwable" (17 : Nat) "java/lang/Throwable" "stackTrace" "[Ljava/lang/StackTraceElement;") ∈ TT := TT_in 380 (by decide +kernel) (by decide +kernel)
theorem fl_Th_24 : (Jvm.Cond.fieldLink "java/lang/Throwable" (24 : Nat) "java/lang/Throwable" "suppressedExceptions" "Ljava/util/List;") ∈ TT := TT_in 381 (by decide +kernel) (by decide +kernel)
theorem ac_byte : (Jvm.Cond.arrayClass Jvm.ClassFile.FieldType.byte) ∈ TT := TT_in 390 (by decide +kernel) (by decide +kernel)
theorem ml_P_54 : (Jvm.Cond.methodLink "ProsePages" (54 : Nat) ({ cls := "ProsePages$Node", name := "mayHold", desc := "(I)Z" } : Jvm.MethodName)) ∈ TT := TT_in 391 (by decide +kernel) (by decide +kernel)
theorem im_N_mayHold : (Jvm.Cond.instanceMethod ({ cls := "ProsePages$Node", name := "mayHold", desc := "(I)Z" } : Jvm.MethodName)) ∈ TT := TT_in 392 (by decide +kernel) (by decide +kernel)
theorem se_N_mayHold : (Jvm.Cond.selects "ProsePages$Node" ({ cls := "ProsePages$Node", name := "mayHold", desc := "(I)Z" } : Jvm.MethodName) ({ cls := "ProsePages$Node", name := "mayHold", desc := "(I)Z" } : Jvm.MethodName)) ∈ TT := TT_in 393 (by decide +kernel) (by decide +kernel)
theorem cd_N_mayHold : (Jvm.Cond.code ({ cls := "ProsePages$Node", name := "mayHold", desc := "(I)Z" } : Jvm.MethodName) prog_2_method_3_code (2 : Nat) (Option.some Jvm.ClassFile.FieldType.boolean)) ∈ TT := TT_in 394 (by decide +kernel) (by decide +kernel)
theorem sm_P_isOneOf : (Jvm.Cond.static ({ cls := "ProsePages", name := "isOneOf", desc := "(II)Z" } : Jvm.MethodName)) ∈ TT := TT_in 396 (by decide +kernel) (by decide +kernel)
theorem cd_P_isOneOf : (Jvm.Cond.code ({ cls := "ProsePages", name := "isOneOf", desc := "(II)Z" } : Jvm.MethodName) prog_1_method_20_code (2 : Nat) (Option.some Jvm.ClassFile.FieldType.boolean)) ∈ TT := TT_in 397 (by decide +kernel) (by decide +kernel)
theorem cl_P_58 : (Jvm.Cond.classLink "ProsePages" (58 : Nat) "java/lang/IllegalArgumentException") ∈ TT := TT_in 398 (by decide +kernel) (by decide +kernel)
theorem ia_IA : (Jvm.Cond.instantiable "java/lang/IllegalArgumentException" (6 : Nat)) ∈ TT := TT_in 399 (by decide +kernel) (by decide +kernel)
theorem ml_P_62 : (Jvm.Cond.methodLink "ProsePages" (62 : Nat) ({ cls := "java/lang/IllegalArgumentException", name := "<init>", desc := "(Ljava/lang/String;)V" } : Jvm.MethodName)) ∈ TT := TT_in 408 (by decide +kernel) (by decide +kernel)
theorem ml_IA_7 : (Jvm.Cond.methodLink "java/lang/IllegalArgumentException" (7 : Nat) ({ cls := "java/lang/RuntimeException", name := "<init>", desc := "(Ljava/lang/String;)V" } : Jvm.MethodName)) ∈ TT := TT_in 411 (by decide +kernel) (by decide +kernel)
theorem ml_P_63 : (Jvm.Cond.methodLink "ProsePages" (63 : Nat) ({ cls := "ProsePages", name := "isNumberOf", desc := "(II)Z" } : Jvm.MethodName)) ∈ TT := TT_in 414 (by decide +kernel) (by decide +kernel)
theorem sm_P_isNumberOf : (Jvm.Cond.static ({ cls := "ProsePages", name := "isNumberOf", desc := "(II)Z" } : Jvm.MethodName)) ∈ TT := TT_in 415 (by decide +kernel) (by decide +kernel)
theorem cd_P_isNumberOf : (Jvm.Cond.code ({ cls := "ProsePages", name := "isNumberOf", desc := "(II)Z" } : Jvm.MethodName) prog_1_method_19_code (2 : Nat) (Option.some Jvm.ClassFile.FieldType.boolean)) ∈ TT := TT_in 416 (by decide +kernel) (by decide +kernel)
theorem ct_P_212 : (Jvm.Cond.constant "ProsePages" (212 : Nat) (999999999 : Int32)) ∈ TT := TT_in 417 (by decide +kernel) (by decide +kernel)
theorem ml_P_69 : (Jvm.Cond.methodLink "ProsePages" (69 : Nat) ({ cls := "ProsePages", name := "addNode", desc := "(II)LProsePages$Node;" } : Jvm.MethodName)) ∈ TT := TT_in 419 (by decide +kernel) (by decide +kernel)
theorem im_P_addNode : (Jvm.Cond.instanceMethod ({ cls := "ProsePages", name := "addNode", desc := "(II)LProsePages$Node;" } : Jvm.MethodName)) ∈ TT := TT_in 421 (by decide +kernel) (by decide +kernel)
theorem cd_P_addNode : (Jvm.Cond.code ({ cls := "ProsePages", name := "addNode", desc := "(II)LProsePages$Node;" } : Jvm.MethodName) prog_1_method_14_code (4 : Nat) (Option.some (Jvm.ClassFile.FieldType.object "ProsePages$Node"))) ∈ TT := TT_in 422 (by decide +kernel) (by decide +kernel)
theorem ml_P_83 : (Jvm.Cond.methodLink "ProsePages" (83 : Nat) ({ cls := "ProsePages$Row", name := "size", desc := "()I" } : Jvm.MethodName)) ∈ TT := TT_in 423 (by decide +kernel) (by decide +kernel)
theorem ml_P_195 : (Jvm.Cond.methodLink "ProsePages" (195 : Nat) ({ cls := "ProsePages$Node", name := "take", desc := "(LProsePages$Node;)V" } : Jvm.MethodName)) ∈ TT := TT_in 424 (by decide +kernel) (by decide +kernel)
theorem im_N_take : (Jvm.Cond.instanceMethod ({ cls := "ProsePages$Node", name := "take", desc := "(LProsePages$Node;)V" } : Jvm.MethodName)) ∈ TT := TT_in 425 (by decide +kernel) (by decide +kernel)
theorem se_N_take : (Jvm.Cond.selects "ProsePages$Node" ({ cls := "ProsePages$Node", name := "take", desc := "(LProsePages$Node;)V" } : Jvm.MethodName) ({ cls := "ProsePages$Node", name := "take", desc := "(LProsePages$Node;)V" } : Jvm.MethodName)) ∈ TT := TT_in 426 (by decide +kernel) (by decide +kernel)
theorem cd_N_take : (Jvm.Cond.code ({ cls := "ProsePages$Node", name := "take", desc := "(LProsePages$Node;)V" } : Jvm.MethodName) prog_2_method_4_code (2 : Nat) (Option.none : Option Jvm.ClassFile.FieldType)) ∈ TT := TT_in 427 (by decide +kernel) (by decide +kernel)
theorem ml_P_77 : (Jvm.Cond.methodLink "ProsePages" (77 : Nat) ({ cls := "ProsePages$Row", name := "add", desc := "(I)V" } : Jvm.MethodName)) ∈ TT := TT_in 428 (by decide +kernel) (by decide +kernel)
theorem im_R_add : (Jvm.Cond.instanceMethod ({ cls := "ProsePages$Row", name := "add", desc := "(I)V" } : Jvm.MethodName)) ∈ TT := TT_in 429 (by decide +kernel) (by decide +kernel)
theorem se_R_add : (Jvm.Cond.selects "ProsePages$Row" ({ cls := "ProsePages$Row", name := "add", desc := "(I)V" } : Jvm.MethodName) ({ cls := "ProsePages$Row", name := "add", desc := "(I)V" } : Jvm.MethodName)) ∈ TT := TT_in 430 (by decide +kernel) (by decide +kernel)
theorem cd_R_add : (Jvm.Cond.code ({ cls := "ProsePages$Row", name := "add", desc := "(I)V" } : Jvm.MethodName) prog_3_method_5_code (2 : Nat) (Option.none : Option Jvm.ClassFile.FieldType)) ∈ TT := TT_in 431 (by decide +kernel) (by decide +kernel)
theorem ml_R_19 : (Jvm.Cond.methodLink "ProsePages$Row" (19 : Nat) ({ cls := "java/util/Arrays", name := "copyOf", desc := "([II)[I" } : Jvm.MethodName)) ∈ TT := TT_in 432 (by decide +kernel) (by decide +kernel)
theorem sm_A_copyOf : (Jvm.Cond.static ({ cls := "java/util/Arrays", name := "copyOf", desc := "([II)[I" } : Jvm.MethodName)) ∈ TT := TT_in 433 (by decide +kernel) (by decide +kernel)
theorem cd_A_copyOf : (Jvm.Cond.code ({ cls := "java/util/Arrays", name := "copyOf", desc := "([II)[I" } : Jvm.MethodName) prog_17_method_123_code (3 : Nat) (Option.some (Jvm.ClassFile.FieldType.array Jvm.ClassFile.FieldType.int))) ∈ TT := TT_in 434 (by decide +kernel) (by decide +kernel)
theorem ml_A_316 : (Jvm.Cond.methodLink "java/util/Arrays" (316 : Nat) ({ cls := "[I", name := "clone", desc := "()Ljava/lang/Object;" } : Jvm.MethodName)) ∈ TT := TT_in 435 (by decide +kernel) (by decide +kernel)
theorem im_O_clone : (Jvm.Cond.instanceMethod ({ cls := "java/lang/Object", name := "clone", desc := "()Ljava/lang/Object;" } : Jvm.MethodName)) ∈ TT := TT_in 438 (by decide +kernel) (by decide +kernel)
theorem se__I_clone : (Jvm.Cond.selects "[I" ({ cls := "[I", name := "clone", desc := "()Ljava/lang/Object;" } : Jvm.MethodName) ({ cls := "java/lang/Object", name := "clone", desc := "()Ljava/lang/Object;" } : Jvm.MethodName)) ∈ TT := TT_in 439 (by decide +kernel) (by decide +kernel)
theorem cl_A_317 : (Jvm.Cond.classLink "java/util/Arrays" (317 : Nat) "[I") ∈ TT := TT_in 441 (by decide +kernel) (by decide +kernel)
theorem ml_A_304 : (Jvm.Cond.methodLink "java/util/Arrays" (304 : Nat) ({ cls := "java/lang/Math", name := "min", desc := "(II)I" } : Jvm.MethodName)) ∈ TT := TT_in 442 (by decide +kernel) (by decide +kernel)
theorem sm_H_min : (Jvm.Cond.static ({ cls := "java/lang/Math", name := "min", desc := "(II)I" } : Jvm.MethodName)) ∈ TT := TT_in 443 (by decide +kernel) (by decide +kernel)
theorem cd_H_min : (Jvm.Cond.code ({ cls := "java/lang/Math", name := "min", desc := "(II)I" } : Jvm.MethodName) prog_12_method_69_code (2 : Nat) (Option.some Jvm.ClassFile.FieldType.int)) ∈ TT := TT_in 444 (by decide +kernel) (by decide +kernel)
theorem ml_A_150 : (Jvm.Cond.methodLink "java/util/Arrays" (150 : Nat) ({ cls := "java/lang/System", name := "arraycopy", desc := "(Ljava/lang/Object;ILjava/lang/Object;II)V" } : Jvm.MethodName)) ∈ TT := TT_in 445 (by decide +kernel) (by decide +kernel)
theorem sm_Y_arraycopy : (Jvm.Cond.static ({ cls := "java/lang/System", name := "arraycopy", desc := "(Ljava/lang/Object;ILjava/lang/Object;II)V" } : Jvm.MethodName)) ∈ TT := TT_in 446 (by decide +kernel) (by decide +kernel)
theorem ml_P_87 : (Jvm.Cond.methodLink "ProsePages" (87 : Nat) ({ cls := "ProsePages$Node", name := "reachTo", desc := "(I)V" } : Jvm.MethodName)) ∈ TT := TT_in 448 (by decide +kernel) (by decide +kernel)
theorem im_N_reachTo : (Jvm.Cond.instanceMethod ({ cls := "ProsePages$Node", name := "reachTo", desc := "(I)V" } : Jvm.MethodName)) ∈ TT := TT_in 449 (by decide +kernel) (by decide +kernel)
theorem se_N_reachTo : (Jvm.Cond.selects "ProsePages$Node" ({ cls := "ProsePages$Node", name := "reachTo", desc := "(I)V" } : Jvm.MethodName) ({ cls := "ProsePages$Node", name := "reachTo", desc := "(I)V" } : Jvm.MethodName)) ∈ TT := TT_in 450 (by decide +kernel) (by decide +kernel)
theorem cd_N_reachTo : (Jvm.Cond.code ({ cls := "ProsePages$Node", name := "reachTo", desc := "(I)V" } : Jvm.MethodName) prog_2_method_5_code (3 : Nat) (Option.none : Option Jvm.ClassFile.FieldType)) ∈ TT := TT_in 451 (by decide +kernel) (by decide +kernel)
theorem ml_P_90 : (Jvm.Cond.methodLink "ProsePages" (90 : Nat) ({ cls := "ProsePages", name := "isOneOf", desc := "(II)Z" } : Jvm.MethodName)) ∈ TT := TT_in 452 (by decide +kernel) (by decide +kernel)
theorem ml_L_39 : (Jvm.Cond.methodLink "ProsePagesLaw" (39 : Nat) ({ cls := "ProsePagesLaw", name := "say", desc := "(LProsePages;IIIII[J)I" } : Jvm.MethodName)) ∈ TT := TT_in 453 (by decide +kernel) (by decide +kernel)
theorem sm_L_say : (Jvm.Cond.static ({ cls := "ProsePagesLaw", name := "say", desc := "(LProsePages;IIIII[J)I" } : Jvm.MethodName)) ∈ TT := TT_in 454 (by decide +kernel) (by decide +kernel)
theorem cd_L_say : (Jvm.Cond.codeWith ({ cls := "ProsePagesLaw", name := "say", desc := "(LProsePages;IIIII[J)I" } : Jvm.MethodName) method_4_code (8 : Nat) (Option.some Jvm.ClassFile.FieldType.int) [((0 : Nat), (16 : Nat), (19 : Nat), (15 : Nat)), ((0 : Nat), (16 : Nat), (23 : Nat), (13 : Nat))]) ∈ TT := TT_in 455 (by decide +kernel) (by decide +kernel)
theorem ml_L_17 : (Jvm.Cond.methodLink "ProsePagesLaw" (17 : Nat) ({ cls := "ProsePages", name := "say", desc := "(IIIII)I" } : Jvm.MethodName)) ∈ TT := TT_in 456 (by decide +kernel) (by decide +kernel)
theorem im_P_say : (Jvm.Cond.instanceMethod ({ cls := "ProsePages", name := "say", desc := "(IIIII)I" } : Jvm.MethodName)) ∈ TT := TT_in 457 (by decide +kernel) (by decide +kernel)
end
section
theorem se_P_say : (Jvm.Cond.selects "ProsePages" ({ cls := "ProsePages", name := "say", desc := "(IIIII)I" } : Jvm.MethodName) ({ cls := "ProsePages", name := "say", desc := "(IIIII)I" } : Jvm.MethodName)) ∈ TT := TT_in 458 (by decide +kernel) (by decide +kernel)
theorem cd_P_say : (Jvm.Cond.code ({ cls := "ProsePages", name := "say", desc := "(IIIII)I" } : Jvm.MethodName) prog_1_method_4_code (7 : Nat) (Option.some Jvm.ClassFile.FieldType.int)) ∈ TT := TT_in 459 (by decide +kernel) (by decide +kernel)
theorem ml_P_112 : (Jvm.Cond.methodLink "ProsePages" (112 : Nat) ({ cls := "ProsePages", name := "addCharacters", desc := "(IIIII)V" } : Jvm.MethodName)) ∈ TT := TT_in 462 (by decide +kernel) (by decide +kernel)
theorem im_P_addCharacters : (Jvm.Cond.instanceMethod ({ cls := "ProsePages", name := "addCharacters", desc := "(IIIII)V" } : Jvm.MethodName)) ∈ TT := TT_in 464 (by decide +kernel) (by decide +kernel)
theorem cd_P_addCharacters : (Jvm.Cond.code ({ cls := "ProsePages", name := "addCharacters", desc := "(IIIII)V" } : Jvm.MethodName) prog_1_method_15_code (6 : Nat) (Option.none : Option Jvm.ClassFile.FieldType)) ∈ TT := TT_in 465 (by decide +kernel) (by decide +kernel)
theorem ml_L_47 : (Jvm.Cond.methodLink "ProsePagesLaw" (47 : Nat) ({ cls := "ProsePagesLaw", name := "pages", desc := "(LProsePages;II[J)I" } : Jvm.MethodName)) ∈ TT := TT_in 466 (by decide +kernel) (by decide +kernel)
theorem sm_L_pages : (Jvm.Cond.static ({ cls := "ProsePagesLaw", name := "pages", desc := "(LProsePages;II[J)I" } : Jvm.MethodName)) ∈ TT := TT_in 467 (by decide +kernel) (by decide +kernel)
theorem cd_L_pages : (Jvm.Cond.codeWith ({ cls := "ProsePagesLaw", name := "pages", desc := "(LProsePages;II[J)I" } : Jvm.MethodName) method_5_code (5 : Nat) (Option.some Jvm.ClassFile.FieldType.int) [((0 : Nat), (10 : Nat), (13 : Nat), (15 : Nat)), ((0 : Nat), (10 : Nat), (17 : Nat), (13 : Nat))]) ∈ TT := TT_in 468 (by decide +kernel) (by decide +kernel)
theorem ml_L_21 : (Jvm.Cond.methodLink "ProsePagesLaw" (21 : Nat) ({ cls := "ProsePages", name := "pages", desc := "(II)I" } : Jvm.MethodName)) ∈ TT := TT_in 469 (by decide +kernel) (by decide +kernel)
theorem im_P_pages : (Jvm.Cond.instanceMethod ({ cls := "ProsePages", name := "pages", desc := "(II)I" } : Jvm.MethodName)) ∈ TT := TT_in 470 (by decide +kernel) (by decide +kernel)
theorem se_P_pages : (Jvm.Cond.selects "ProsePages" ({ cls := "ProsePages", name := "pages", desc := "(II)I" } : Jvm.MethodName) ({ cls := "ProsePages", name := "pages", desc := "(II)I" } : Jvm.MethodName)) ∈ TT := TT_in 471 (by decide +kernel) (by decide +kernel)
theorem cd_P_pages : (Jvm.Cond.code ({ cls := "ProsePages", name := "pages", desc := "(II)I" } : Jvm.MethodName) prog_1_method_6_code (4 : Nat) (Option.some Jvm.ClassFile.FieldType.int)) ∈ TT := TT_in 472 (by decide +kernel) (by decide +kernel)
theorem ml_P_131 : (Jvm.Cond.methodLink "ProsePages" (131 : Nat) ({ cls := "ProsePages$Sheet", name := "reset", desc := "(II)V" } : Jvm.MethodName)) ∈ TT := TT_in 474 (by decide +kernel) (by decide +kernel)
theorem im_T_reset : (Jvm.Cond.instanceMethod ({ cls := "ProsePages$Sheet", name := "reset", desc := "(II)V" } : Jvm.MethodName)) ∈ TT := TT_in 475 (by decide +kernel) (by decide +kernel)
theorem se_T_reset : (Jvm.Cond.selects "ProsePages$Sheet" ({ cls := "ProsePages$Sheet", name := "reset", desc := "(II)V" } : Jvm.MethodName) ({ cls := "ProsePages$Sheet", name := "reset", desc := "(II)V" } : Jvm.MethodName)) ∈ TT := TT_in 476 (by decide +kernel) (by decide +kernel)
theorem cd_T_reset : (Jvm.Cond.code ({ cls := "ProsePages$Sheet", name := "reset", desc := "(II)V" } : Jvm.MethodName) prog_5_method_4_code (3 : Nat) (Option.none : Option Jvm.ClassFile.FieldType)) ∈ TT := TT_in 477 (by decide +kernel) (by decide +kernel)
theorem ml_T_43 : (Jvm.Cond.methodLink "ProsePages$Sheet" (43 : Nat) ({ cls := "ProsePages$Row", name := "cut", desc := "(I)V" } : Jvm.MethodName)) ∈ TT := TT_in 478 (by decide +kernel) (by decide +kernel)
theorem ml_P_135 : (Jvm.Cond.methodLink "ProsePages" (135 : Nat) ({ cls := "ProsePages$Setter", name := "layParts", desc := "(LProsePages$Node;I)V" } : Jvm.MethodName)) ∈ TT := TT_in 479 (by decide +kernel) (by decide +kernel)
theorem im_S_layParts : (Jvm.Cond.instanceMethod ({ cls := "ProsePages$Setter", name := "layParts", desc := "(LProsePages$Node;I)V" } : Jvm.MethodName)) ∈ TT := TT_in 480 (by decide +kernel) (by decide +kernel)
theorem se_S_layParts : (Jvm.Cond.selects "ProsePages$Setter" ({ cls := "ProsePages$Setter", name := "layParts", desc := "(LProsePages$Node;I)V" } : Jvm.MethodName) ({ cls := "ProsePages$Setter", name := "layParts", desc := "(LProsePages$Node;I)V" } : Jvm.MethodName)) ∈ TT := TT_in 481 (by decide +kernel) (by decide +kernel)
theorem cd_S_layParts : (Jvm.Cond.code ({ cls := "ProsePages$Setter", name := "layParts", desc := "(LProsePages$Node;I)V" } : Jvm.MethodName) prog_4_method_2_code (7 : Nat) (Option.none : Option Jvm.ClassFile.FieldType)) ∈ TT := TT_in 482 (by decide +kernel) (by decide +kernel)
theorem ml_S_37 : (Jvm.Cond.methodLink "ProsePages$Setter" (37 : Nat) ({ cls := "ProsePages$Sheet", name := "lineCount", desc := "()I" } : Jvm.MethodName)) ∈ TT := TT_in 483 (by decide +kernel) (by decide +kernel)
theorem ml_S_47 : (Jvm.Cond.methodLink "ProsePages$Setter" (47 : Nat) ({ cls := "ProsePages$Setter", name := "holdsParagraph", desc := "(LProsePages$Node;)Z" } : Jvm.MethodName)) ∈ TT := TT_in 484 (by decide +kernel) (by decide +kernel)
theorem im_S_holdsParagraph : (Jvm.Cond.instanceMethod ({ cls := "ProsePages$Setter", name := "holdsParagraph", desc := "(LProsePages$Node;)Z" } : Jvm.MethodName)) ∈ TT := TT_in 486 (by decide +kernel) (by decide +kernel)
theorem cd_S_holdsParagraph : (Jvm.Cond.code ({ cls := "ProsePages$Setter", name := "holdsParagraph", desc := "(LProsePages$Node;)Z" } : Jvm.MethodName) prog_4_method_20_code (3 : Nat) (Option.some Jvm.ClassFile.FieldType.boolean)) ∈ TT := TT_in 487 (by decide +kernel) (by decide +kernel)
theorem ml_S_170 : (Jvm.Cond.methodLink "ProsePages$Setter" (170 : Nat) ({ cls := "ProsePages$Setter", name := "hasWords", desc := "(II)Z" } : Jvm.MethodName)) ∈ TT := TT_in 488 (by decide +kernel) (by decide +kernel)
theorem im_S_hasWords : (Jvm.Cond.instanceMethod ({ cls := "ProsePages$Setter", name := "hasWords", desc := "(II)Z" } : Jvm.MethodName)) ∈ TT := TT_in 490 (by decide +kernel) (by decide +kernel)
theorem cd_S_hasWords : (Jvm.Cond.code ({ cls := "ProsePages$Setter", name := "hasWords", desc := "(II)Z" } : Jvm.MethodName) prog_4_method_21_code (4 : Nat) (Option.some Jvm.ClassFile.FieldType.boolean)) ∈ TT := TT_in 491 (by decide +kernel) (by decide +kernel)
theorem ml_S_125 : (Jvm.Cond.methodLink "ProsePages$Setter" (125 : Nat) ({ cls := "ProsePages$Row", name := "get", desc := "(I)I" } : Jvm.MethodName)) ∈ TT := TT_in 492 (by decide +kernel) (by decide +kernel)
theorem sm_P_isWhite : (Jvm.Cond.static ({ cls := "ProsePages", name := "isWhite", desc := "(I)Z" } : Jvm.MethodName)) ∈ TT := TT_in 494 (by decide +kernel) (by decide +kernel)
theorem cd_P_isWhite : (Jvm.Cond.code ({ cls := "ProsePages", name := "isWhite", desc := "(I)Z" } : Jvm.MethodName) prog_1_method_21_code (1 : Nat) (Option.some Jvm.ClassFile.FieldType.boolean)) ∈ TT := TT_in 495 (by decide +kernel) (by decide +kernel)
theorem ml_S_55 : (Jvm.Cond.methodLink "ProsePages$Setter" (55 : Nat) ({ cls := "ProsePages$Node", name := "lastOfPart", desc := "()LProsePages$Node;" } : Jvm.MethodName)) ∈ TT := TT_in 496 (by decide +kernel) (by decide +kernel)
theorem im_N_lastOfPart : (Jvm.Cond.instanceMethod ({ cls := "ProsePages$Node", name := "lastOfPart", desc := "()LProsePages$Node;" } : Jvm.MethodName)) ∈ TT := TT_in 497 (by decide +kernel) (by decide +kernel)
theorem se_N_lastOfPart : (Jvm.Cond.selects "ProsePages$Node" ({ cls := "ProsePages$Node", name := "lastOfPart", desc := "()LProsePages$Node;" } : Jvm.MethodName) ({ cls := "ProsePages$Node", name := "lastOfPart", desc := "()LProsePages$Node;" } : Jvm.MethodName)) ∈ TT := TT_in 498 (by decide +kernel) (by decide +kernel)
theorem cd_N_lastOfPart : (Jvm.Cond.code ({ cls := "ProsePages$Node", name := "lastOfPart", desc := "()LProsePages$Node;" } : Jvm.MethodName) prog_2_method_6_code (2 : Nat) (Option.some (Jvm.ClassFile.FieldType.object "ProsePages$Node"))) ∈ TT := TT_in 499 (by decide +kernel) (by decide +kernel)
theorem ml_N_50 : (Jvm.Cond.methodLink "ProsePages$Node" (50 : Nat) ({ cls := "ProsePages$Node", name := "isInline", desc := "()Z" } : Jvm.MethodName)) ∈ TT := TT_in 500 (by decide +kernel) (by decide +kernel)
theorem im_N_isInline : (Jvm.Cond.instanceMethod ({ cls := "ProsePages$Node", name := "isInline", desc := "()Z" } : Jvm.MethodName)) ∈ TT := TT_in 501 (by decide +kernel) (by decide +kernel)
theorem se_N_isInline : (Jvm.Cond.selects "ProsePages$Node" ({ cls := "ProsePages$Node", name := "isInline", desc := "()Z" } : Jvm.MethodName) ({ cls := "ProsePages$Node", name := "isInline", desc := "()Z" } : Jvm.MethodName)) ∈ TT := TT_in 502 (by decide +kernel) (by decide +kernel)
theorem cd_N_isInline : (Jvm.Cond.code ({ cls := "ProsePages$Node", name := "isInline", desc := "()Z" } : Jvm.MethodName) prog_2_method_2_code (1 : Nat) (Option.some Jvm.ClassFile.FieldType.boolean)) ∈ TT := TT_in 503 (by decide +kernel) (by decide +kernel)
theorem ml_S_59 : (Jvm.Cond.methodLink "ProsePages$Setter" (59 : Nat) ({ cls := "ProsePages$Setter", name := "hasLines", desc := "(LProsePages$Node;LProsePages$Node;)Z" } : Jvm.MethodName)) ∈ TT := TT_in 504 (by decide +kernel) (by decide +kernel)
theorem im_S_hasLines : (Jvm.Cond.instanceMethod ({ cls := "ProsePages$Setter", name := "hasLines", desc := "(LProsePages$Node;LProsePages$Node;)Z" } : Jvm.MethodName)) ∈ TT := TT_in 506 (by decide +kernel) (by decide +kernel)
theorem cd_S_hasLines : (Jvm.Cond.code ({ cls := "ProsePages$Setter", name := "hasLines", desc := "(LProsePages$Node;LProsePages$Node;)Z" } : Jvm.MethodName) prog_4_method_18_code (3 : Nat) (Option.some Jvm.ClassFile.FieldType.boolean)) ∈ TT := TT_in 507 (by decide +kernel) (by decide +kernel)
theorem ml_S_167 : (Jvm.Cond.methodLink "ProsePages$Setter" (167 : Nat) ({ cls := "ProsePages$Setter", name := "holdsLines", desc := "(LProsePages$Node;)Z" } : Jvm.MethodName)) ∈ TT := TT_in 508 (by decide +kernel) (by decide +kernel)
theorem im_S_holdsLines : (Jvm.Cond.instanceMethod ({ cls := "ProsePages$Setter", name := "holdsLines", desc := "(LProsePages$Node;)Z" } : Jvm.MethodName)) ∈ TT := TT_in 510 (by decide +kernel) (by decide +kernel)
theorem cd_S_holdsLines : (Jvm.Cond.code ({ cls := "ProsePages$Setter", name := "holdsLines", desc := "(LProsePages$Node;)Z" } : Jvm.MethodName) prog_4_method_19_code (3 : Nat) (Option.some Jvm.ClassFile.FieldType.boolean)) ∈ TT := TT_in 511 (by decide +kernel) (by decide +kernel)
theorem ml_S_63 : (Jvm.Cond.methodLink "ProsePages$Setter" (63 : Nat) ({ cls := "ProsePages$Setter", name := "putBetween", desc := "()V" } : Jvm.MethodName)) ∈ TT := TT_in 512 (by decide +kernel) (by decide +kernel)
theorem im_S_putBetween : (Jvm.Cond.instanceMethod ({ cls := "ProsePages$Setter", name := "putBetween", desc := "()V" } : Jvm.MethodName)) ∈ TT := TT_in 514 (by decide +kernel) (by decide +kernel)
theorem cd_S_putBetween : (Jvm.Cond.code ({ cls := "ProsePages$Setter", name := "putBetween", desc := "()V" } : Jvm.MethodName) prog_4_method_13_code (1 : Nat) (Option.none : Option Jvm.ClassFile.FieldType)) ∈ TT := TT_in 515 (by decide +kernel) (by decide +kernel)
theorem ml_S_159 : (Jvm.Cond.methodLink "ProsePages$Setter" (159 : Nat) ({ cls := "ProsePages$Sheet", name := "addLine", desc := "(LProsePages$Row;LProsePages$Row;I)V" } : Jvm.MethodName)) ∈ TT := TT_in 516 (by decide +kernel) (by decide +kernel)
theorem im_T_addLine : (Jvm.Cond.instanceMethod ({ cls := "ProsePages$Sheet", name := "addLine", desc := "(LProsePages$Row;LProsePages$Row;I)V" } : Jvm.MethodName)) ∈ TT := TT_in 517 (by decide +kernel) (by decide +kernel)
theorem se_T_addLine : (Jvm.Cond.selects "ProsePages$Sheet" ({ cls := "ProsePages$Sheet", name := "addLine", desc := "(LProsePages$Row;LProsePages$Row;I)V" } : Jvm.MethodName) ({ cls := "ProsePages$Sheet", name := "addLine", desc := "(LProsePages$Row;LProsePages$Row;I)V" } : Jvm.MethodName)) ∈ TT := TT_in 518 (by decide +kernel) (by decide +kernel)
theorem cd_T_addLine : (Jvm.Cond.code ({ cls := "ProsePages$Sheet", name := "addLine", desc := "(LProsePages$Row;LProsePages$Row;I)V" } : Jvm.MethodName) prog_5_method_5_code (6 : Nat) (Option.none : Option Jvm.ClassFile.FieldType)) ∈ TT := TT_in 519 (by decide +kernel) (by decide +kernel)
theorem ml_T_58 : (Jvm.Cond.methodLink "ProsePages$Sheet" (58 : Nat) ({ cls := "ProsePages$Row", name := "addAll", desc := "(LProsePages$Row;)V" } : Jvm.MethodName)) ∈ TT := TT_in 520 (by decide +kernel) (by decide +kernel)
theorem im_R_addAll : (Jvm.Cond.instanceMethod ({ cls := "ProsePages$Row", name := "addAll", desc := "(LProsePages$Row;)V" } : Jvm.MethodName)) ∈ TT := TT_in 521 (by decide +kernel) (by decide +kernel)
theorem se_R_addAll : (Jvm.Cond.selects "ProsePages$Row" ({ cls := "ProsePages$Row", name := "addAll", desc := "(LProsePages$Row;)V" } : Jvm.MethodName) ({ cls := "ProsePages$Row", name := "addAll", desc := "(LProsePages$Row;)V" } : Jvm.MethodName)) ∈ TT := TT_in 522 (by decide +kernel) (by decide +kernel)
theorem cd_R_addAll : (Jvm.Cond.code ({ cls := "ProsePages$Row", name := "addAll", desc := "(LProsePages$Row;)V" } : Jvm.MethodName) prog_3_method_6_code (3 : Nat) (Option.none : Option Jvm.ClassFile.FieldType)) ∈ TT := TT_in 523 (by decide +kernel) (by decide +kernel)
theorem ml_R_25 : (Jvm.Cond.methodLink "ProsePages$Row" (25 : Nat) ({ cls := "java/lang/System", name := "arraycopy", desc := "(Ljava/lang/Object;ILjava/lang/Object;II)V" } : Jvm.MethodName)) ∈ TT := TT_in 524 (by decide +kernel) (by decide +kernel)
theorem ml_T_66 : (Jvm.Cond.methodLink "ProsePages$Sheet" (66 : Nat) ({ cls := "ProsePages$Row", name := "add", desc := "(I)V" } : Jvm.MethodName)) ∈ TT := TT_in 525 (by decide +kernel) (by decide +kernel)
theorem ml_S_66 : (Jvm.Cond.methodLink "ProsePages$Setter" (66 : Nat) ({ cls := "ProsePages$Setter", name := "layPart", desc := "(LProsePages$Node;LProsePages$Node;I)V" } : Jvm.MethodName)) ∈ TT := TT_in 526 (by decide +kernel) (by decide +kernel)
theorem im_S_layPart : (Jvm.Cond.instanceMethod ({ cls := "ProsePages$Setter", name := "layPart", desc := "(LProsePages$Node;LProsePages$Node;I)V" } : Jvm.MethodName)) ∈ TT := TT_in 528 (by decide +kernel) (by decide +kernel)
theorem cd_S_layPart : (Jvm.Cond.code ({ cls := "ProsePages$Setter", name := "layPart", desc := "(LProsePages$Node;LProsePages$Node;I)V" } : Jvm.MethodName) prog_4_method_3_code (5 : Nat) (Option.none : Option Jvm.ClassFile.FieldType)) ∈ TT := TT_in 529 (by decide +kernel) (by decide +kernel)
theorem ml_S_79 : (Jvm.Cond.methodLink "ProsePages$Setter" (79 : Nat) ({ cls := "ProsePages$Setter", name := "addHeadingSign", desc := "(II)V" } : Jvm.MethodName)) ∈ TT := TT_in 530 (by decide +kernel) (by decide +kernel)
theorem im_S_addHeadingSign : (Jvm.Cond.instanceMethod ({ cls := "ProsePages$Setter", name := "addHeadingSign", desc := "(II)V" } : Jvm.MethodName)) ∈ TT := TT_in 532 (by decide +kernel) (by decide +kernel)
theorem cd_S_addHeadingSign : (Jvm.Cond.code ({ cls := "ProsePages$Setter", name := "addHeadingSign", desc := "(II)V" } : Jvm.MethodName) prog_4_method_4_code (4 : Nat) (Option.none : Option Jvm.ClassFile.FieldType)) ∈ TT := TT_in 533 (by decide +kernel) (by decide +kernel)
theorem ml_S_113 : (Jvm.Cond.methodLink "ProsePages$Setter" (113 : Nat) ({ cls := "ProsePages$Setter", name := "addLetter", desc := "(II)V" } : Jvm.MethodName)) ∈ TT := TT_in 534 (by decide +kernel) (by decide +kernel)
theorem im_S_addLetter : (Jvm.Cond.instanceMethod ({ cls := "ProsePages$Setter", name := "addLetter", desc := "(II)V" } : Jvm.MethodName)) ∈ TT := TT_in 536 (by decide +kernel) (by decide +kernel)
theorem cd_S_addLetter : (Jvm.Cond.code ({ cls := "ProsePages$Setter", name := "addLetter", desc := "(II)V" } : Jvm.MethodName) prog_4_method_10_code (3 : Nat) (Option.none : Option Jvm.ClassFile.FieldType)) ∈ TT := TT_in 537 (by decide +kernel) (by decide +kernel)
theorem ml_S_129 : (Jvm.Cond.methodLink "ProsePages$Setter" (129 : Nat) ({ cls := "ProsePages$Row", name := "size", desc := "()I" } : Jvm.MethodName)) ∈ TT := TT_in 538 (by decide +kernel) (by decide +kernel)
theorem ml_S_122 : (Jvm.Cond.methodLink "ProsePages$Setter" (122 : Nat) ({ cls := "ProsePages$Setter", name := "putLine", desc := "()V" } : Jvm.MethodName)) ∈ TT := TT_in 539 (by decide +kernel) (by decide +kernel)
theorem im_S_putLine : (Jvm.Cond.instanceMethod ({ cls := "ProsePages$Setter", name := "putLine", desc := "()V" } : Jvm.MethodName)) ∈ TT := TT_in 541 (by decide +kernel) (by decide +kernel)
theorem cd_S_putLine : (Jvm.Cond.code ({ cls := "ProsePages$Setter", name := "putLine", desc := "()V" } : Jvm.MethodName) prog_4_method_12_code (2 : Nat) (Option.none : Option Jvm.ClassFile.FieldType)) ∈ TT := TT_in 542 (by decide +kernel) (by decide +kernel)
theorem ml_S_156 : (Jvm.Cond.methodLink "ProsePages$Setter" (156 : Nat) ({ cls := "ProsePages$Row", name := "cut", desc := "(I)V" } : Jvm.MethodName)) ∈ TT := TT_in 543 (by decide +kernel) (by decide +kernel)
theorem ml_S_96 : (Jvm.Cond.methodLink "ProsePages$Setter" (96 : Nat) ({ cls := "ProsePages$Row", name := "set", desc := "(II)V" } : Jvm.MethodName)) ∈ TT := TT_in 544 (by decide +kernel) (by decide +kernel)
theorem im_R_set : (Jvm.Cond.instanceMethod ({ cls := "ProsePages$Row", name := "set", desc := "(II)V" } : Jvm.MethodName)) ∈ TT := TT_in 545 (by decide +kernel) (by decide +kernel)
theorem se_R_set : (Jvm.Cond.selects "ProsePages$Row" ({ cls := "ProsePages$Row", name := "set", desc := "(II)V" } : Jvm.MethodName) ({ cls := "ProsePages$Row", name := "set", desc := "(II)V" } : Jvm.MethodName)) ∈ TT := TT_in 546 (by decide +kernel) (by decide +kernel)
theorem cd_R_set : (Jvm.Cond.code ({ cls := "ProsePages$Row", name := "set", desc := "(II)V" } : Jvm.MethodName) prog_3_method_4_code (3 : Nat) (Option.none : Option Jvm.ClassFile.FieldType)) ∈ TT := TT_in 547 (by decide +kernel) (by decide +kernel)
theorem ml_S_152 : (Jvm.Cond.methodLink "ProsePages$Setter" (152 : Nat) ({ cls := "ProsePages$Row", name := "addAll", desc := "(LProsePages$Row;)V" } : Jvm.MethodName)) ∈ TT := TT_in 548 (by decide +kernel) (by decide +kernel)
theorem ml_S_119 : (Jvm.Cond.methodLink "ProsePages$Setter" (119 : Nat) ({ cls := "ProsePages$Row", name := "add", desc := "(I)V" } : Jvm.MethodName)) ∈ TT := TT_in 549 (by decide +kernel) (by decide +kernel)
theorem ml_S_116 : (Jvm.Cond.methodLink "ProsePages$Setter" (116 : Nat) ({ cls := "ProsePages$Setter", name := "endWord", desc := "(I)V" } : Jvm.MethodName)) ∈ TT := TT_in 550 (by decide +kernel) (by decide +kernel)
theorem im_S_endWord : (Jvm.Cond.instanceMethod ({ cls := "ProsePages$Setter", name := "endWord", desc := "(I)V" } : Jvm.MethodName)) ∈ TT := TT_in 552 (by decide +kernel) (by decide +kernel)
theorem cd_S_endWord : (Jvm.Cond.code ({ cls := "ProsePages$Setter", name := "endWord", desc := "(I)V" } : Jvm.MethodName) prog_4_method_11_code (2 : Nat) (Option.none : Option Jvm.ClassFile.FieldType)) ∈ TT := TT_in 553 (by decide +kernel) (by decide +kernel)
theorem ml_S_89 : (Jvm.Cond.methodLink "ProsePages$Setter" (89 : Nat) ({ cls := "ProsePages$Setter", name := "layWords", desc := "(III)V" } : Jvm.MethodName)) ∈ TT := TT_in 554 (by decide +kernel) (by decide +kernel)
theorem im_S_layWords : (Jvm.Cond.instanceMethod ({ cls := "ProsePages$Setter", name := "layWords", desc := "(III)V" } : Jvm.MethodName)) ∈ TT := TT_in 556 (by decide +kernel) (by decide +kernel)
theorem cd_S_layWords : (Jvm.Cond.code ({ cls := "ProsePages$Setter", name := "layWords", desc := "(III)V" } : Jvm.MethodName) prog_4_method_9_code (6 : Nat) (Option.none : Option Jvm.ClassFile.FieldType)) ∈ TT := TT_in 557 (by decide +kernel) (by decide +kernel)
theorem ml_S_99 : (Jvm.Cond.methodLink "ProsePages$Setter" (99 : Nat) ({ cls := "ProsePages$Setter", name := "layRule", desc := "(I)V" } : Jvm.MethodName)) ∈ TT := TT_in 558 (by decide +kernel) (by decide +kernel)
theorem im_S_layRule : (Jvm.Cond.instanceMethod ({ cls := "ProsePages$Setter", name := "layRule", desc := "(I)V" } : Jvm.MethodName)) ∈ TT := TT_in 560 (by decide +kernel) (by decide +kernel)
theorem cd_S_layRule : (Jvm.Cond.code ({ cls := "ProsePages$Setter", name := "layRule", desc := "(I)V" } : Jvm.MethodName) prog_4_method_5_code (3 : Nat) (Option.none : Option Jvm.ClassFile.FieldType)) ∈ TT := TT_in 561 (by decide +kernel) (by decide +kernel)
theorem ml_S_103 : (Jvm.Cond.methodLink "ProsePages$Setter" (103 : Nat) ({ cls := "ProsePages$Setter", name := "layCode", desc := "(LProsePages$Node;I)V" } : Jvm.MethodName)) ∈ TT := TT_in 562 (by decide +kernel) (by decide +kernel)
theorem im_S_layCode : (Jvm.Cond.instanceMethod ({ cls := "ProsePages$Setter", name := "layCode", desc := "(LProsePages$Node;I)V" } : Jvm.MethodName)) ∈ TT := TT_in 564 (by decide +kernel) (by decide +kernel)
theorem cd_S_layCode : (Jvm.Cond.code ({ cls := "ProsePages$Setter", name := "layCode", desc := "(LProsePages$Node;I)V" } : Jvm.MethodName) prog_4_method_6_code (5 : Nat) (Option.none : Option Jvm.ClassFile.FieldType)) ∈ TT := TT_in 565 (by decide +kernel) (by decide +kernel)
theorem ml_S_107 : (Jvm.Cond.methodLink "ProsePages$Setter" (107 : Nat) ({ cls := "ProsePages$Setter", name := "layQuote", desc := "(LProsePages$Node;I)V" } : Jvm.MethodName)) ∈ TT := TT_in 566 (by decide +kernel) (by decide +kernel)
theorem im_S_layQuote : (Jvm.Cond.instanceMethod ({ cls := "ProsePages$Setter", name := "layQuote", desc := "(LProsePages$Node;I)V" } : Jvm.MethodName)) ∈ TT := TT_in 568 (by decide +kernel) (by decide +kernel)
theorem cd_S_layQuote : (Jvm.Cond.code ({ cls := "ProsePages$Setter", name := "layQuote", desc := "(LProsePages$Node;I)V" } : Jvm.MethodName) prog_4_method_7_code (4 : Nat) (Option.none : Option Jvm.ClassFile.FieldType)) ∈ TT := TT_in 569 (by decide +kernel) (by decide +kernel)
theorem ml_S_132 : (Jvm.Cond.methodLink "ProsePages$Setter" (132 : Nat) ({ cls := "ProsePages$Setter", name := "addAhead", desc := "(II)V" } : Jvm.MethodName)) ∈ TT := TT_in 570 (by decide +kernel) (by decide +kernel)
theorem im_S_addAhead : (Jvm.Cond.instanceMethod ({ cls := "ProsePages$Setter", name := "addAhead", desc := "(II)V" } : Jvm.MethodName)) ∈ TT := TT_in 572 (by decide +kernel) (by decide +kernel)
theorem cd_S_addAhead : (Jvm.Cond.code ({ cls := "ProsePages$Setter", name := "addAhead", desc := "(II)V" } : Jvm.MethodName) prog_4_method_16_code (3 : Nat) (Option.none : Option Jvm.ClassFile.FieldType)) ∈ TT := TT_in 573 (by decide +kernel) (by decide +kernel)
theorem ml_S_135 : (Jvm.Cond.methodLink "ProsePages$Setter" (135 : Nat) ({ cls := "ProsePages$Setter", name := "narrower", desc := "(II)I" } : Jvm.MethodName)) ∈ TT := TT_in 574 (by decide +kernel) (by decide +kernel)
theorem sm_S_narrower : (Jvm.Cond.static ({ cls := "ProsePages$Setter", name := "narrower", desc := "(II)I" } : Jvm.MethodName)) ∈ TT := TT_in 575 (by decide +kernel) (by decide +kernel)
theorem cd_S_narrower : (Jvm.Cond.code ({ cls := "ProsePages$Setter", name := "narrower", desc := "(II)I" } : Jvm.MethodName) prog_4_method_22_code (2 : Nat) (Option.some Jvm.ClassFile.FieldType.int)) ∈ TT := TT_in 576 (by decide +kernel) (by decide +kernel)
theorem ml_S_174 : (Jvm.Cond.methodLink "ProsePages$Setter" (174 : Nat) ({ cls := "java/lang/Math", name := "max", desc := "(II)I" } : Jvm.MethodName)) ∈ TT := TT_in 577 (by decide +kernel) (by decide +kernel)
theorem sm_H_max : (Jvm.Cond.static ({ cls := "java/lang/Math", name := "max", desc := "(II)I" } : Jvm.MethodName)) ∈ TT := TT_in 578 (by decide +kernel) (by decide +kernel)
theorem cd_H_max : (Jvm.Cond.code ({ cls := "java/lang/Math", name := "max", desc := "(II)I" } : Jvm.MethodName) prog_12_method_65_code (2 : Nat) (Option.some Jvm.ClassFile.FieldType.int)) ∈ TT := TT_in 579 (by decide +kernel) (by decide +kernel)
theorem ml_S_139 : (Jvm.Cond.methodLink "ProsePages$Setter" (139 : Nat) ({ cls := "ProsePages$Setter", name := "layParts", desc := "(LProsePages$Node;I)V" } : Jvm.MethodName)) ∈ TT := TT_in 580 (by decide +kernel) (by decide +kernel)
theorem ml_S_142 : (Jvm.Cond.methodLink "ProsePages$Setter" (142 : Nat) ({ cls := "ProsePages$Setter", name := "cutAhead", desc := "(I)V" } : Jvm.MethodName)) ∈ TT := TT_in 581 (by decide +kernel) (by decide +kernel)
theorem im_S_cutAhead : (Jvm.Cond.instanceMethod ({ cls := "ProsePages$Setter", name := "cutAhead", desc := "(I)V" } : Jvm.MethodName)) ∈ TT := TT_in 583 (by decide +kernel) (by decide +kernel)
theorem cd_S_cutAhead : (Jvm.Cond.code ({ cls := "ProsePages$Setter", name := "cutAhead", desc := "(I)V" } : Jvm.MethodName) prog_4_method_17_code (2 : Nat) (Option.none : Option Jvm.ClassFile.FieldType)) ∈ TT := TT_in 584 (by decide +kernel) (by decide +kernel)
theorem ml_S_110 : (Jvm.Cond.methodLink "ProsePages$Setter" (110 : Nat) ({ cls := "ProsePages$Setter", name := "layItems", desc := "(LProsePages$Node;I)V" } : Jvm.MethodName)) ∈ TT := TT_in 585 (by decide +kernel) (by decide +kernel)
theorem im_S_layItems : (Jvm.Cond.instanceMethod ({ cls := "ProsePages$Setter", name := "layItems", desc := "(LProsePages$Node;I)V" } : Jvm.MethodName)) ∈ TT := TT_in 587 (by decide +kernel) (by decide +kernel)
theorem cd_S_layItems : (Jvm.Cond.code ({ cls := "ProsePages$Setter", name := "layItems", desc := "(LProsePages$Node;I)V" } : Jvm.MethodName) prog_4_method_8_code (8 : Nat) (Option.none : Option Jvm.ClassFile.FieldType)) ∈ TT := TT_in 588 (by decide +kernel) (by decide +kernel)
theorem ml_S_145 : (Jvm.Cond.methodLink "ProsePages$Setter" (145 : Nat) ({ cls := "ProsePages$Setter", name := "addSign", desc := "(II)V" } : Jvm.MethodName)) ∈ TT := TT_in 589 (by decide +kernel) (by decide +kernel)
theorem im_S_addSign : (Jvm.Cond.instanceMethod ({ cls := "ProsePages$Setter", name := "addSign", desc := "(II)V" } : Jvm.MethodName)) ∈ TT := TT_in 591 (by decide +kernel) (by decide +kernel)
theorem cd_S_addSign : (Jvm.Cond.code ({ cls := "ProsePages$Setter", name := "addSign", desc := "(II)V" } : Jvm.MethodName) prog_4_method_14_code (3 : Nat) (Option.none : Option Jvm.ClassFile.FieldType)) ∈ TT := TT_in 592 (by decide +kernel) (by decide +kernel)
theorem ml_S_163 : (Jvm.Cond.methodLink "ProsePages$Setter" (163 : Nat) ({ cls := "ProsePages$Setter", name := "addDigits", desc := "(I)V" } : Jvm.MethodName)) ∈ TT := TT_in 593 (by decide +kernel) (by decide +kernel)
theorem im_S_addDigits : (Jvm.Cond.instanceMethod ({ cls := "ProsePages$Setter", name := "addDigits", desc := "(I)V" } : Jvm.MethodName)) ∈ TT := TT_in 595 (by decide +kernel) (by decide +kernel)
theorem cd_S_addDigits : (Jvm.Cond.code ({ cls := "ProsePages$Setter", name := "addDigits", desc := "(I)V" } : Jvm.MethodName) prog_4_method_15_code (3 : Nat) (Option.none : Option Jvm.ClassFile.FieldType)) ∈ TT := TT_in 596 (by decide +kernel) (by decide +kernel)
theorem ct_S_166 : (Jvm.Cond.constant "ProsePages$Setter" (166 : Nat) (1000000000 : Int32)) ∈ TT := TT_in 597 (by decide +kernel) (by decide +kernel)
theorem ml_P_144 : (Jvm.Cond.methodLink "ProsePages" (144 : Nat) ({ cls := "ProsePages$Sheet", name := "fillPages", desc := "()V" } : Jvm.MethodName)) ∈ TT := TT_in 599 (by decide +kernel) (by decide +kernel)
theorem im_T_fillPages : (Jvm.Cond.instanceMethod ({ cls := "ProsePages$Sheet", name := "fillPages", desc := "()V" } : Jvm.MethodName)) ∈ TT := TT_in 600 (by decide +kernel) (by decide +kernel)
theorem se_T_fillPages : (Jvm.Cond.selects "ProsePages$Sheet" ({ cls := "ProsePages$Sheet", name := "fillPages", desc := "()V" } : Jvm.MethodName) ({ cls := "ProsePages$Sheet", name := "fillPages", desc := "()V" } : Jvm.MethodName)) ∈ TT := TT_in 601 (by decide +kernel) (by decide +kernel)
theorem cd_T_fillPages : (Jvm.Cond.code ({ cls := "ProsePages$Sheet", name := "fillPages", desc := "()V" } : Jvm.MethodName) prog_5_method_6_code (3 : Nat) (Option.none : Option Jvm.ClassFile.FieldType)) ∈ TT := TT_in 602 (by decide +kernel) (by decide +kernel)
theorem ml_T_69 : (Jvm.Cond.methodLink "ProsePages$Sheet" (69 : Nat) ({ cls := "ProsePages$Sheet", name := "lineCount", desc := "()I" } : Jvm.MethodName)) ∈ TT := TT_in 603 (by decide +kernel) (by decide +kernel)
theorem ml_T_72 : (Jvm.Cond.methodLink "ProsePages$Sheet" (72 : Nat) ({ cls := "ProsePages$Sheet", name := "isPageEndedBy", desc := "(II)Z" } : Jvm.MethodName)) ∈ TT := TT_in 604 (by decide +kernel) (by decide +kernel)
theorem im_T_isPageEndedBy : (Jvm.Cond.instanceMethod ({ cls := "ProsePages$Sheet", name := "isPageEndedBy", desc := "(II)Z" } : Jvm.MethodName)) ∈ TT := TT_in 606 (by decide +kernel) (by decide +kernel)
theorem cd_T_isPageEndedBy : (Jvm.Cond.code ({ cls := "ProsePages$Sheet", name := "isPageEndedBy", desc := "(II)Z" } : Jvm.MethodName) prog_5_method_7_code (6 : Nat) (Option.some Jvm.ClassFile.FieldType.boolean)) ∈ TT := TT_in 607 (by decide +kernel) (by decide +kernel)
theorem ml_T_83 : (Jvm.Cond.methodLink "ProsePages$Sheet" (83 : Nat) ({ cls := "java/lang/Math", name := "min", desc := "(II)I" } : Jvm.MethodName)) ∈ TT := TT_in 608 (by decide +kernel) (by decide +kernel)
theorem ml_T_79 : (Jvm.Cond.methodLink "ProsePages$Sheet" (79 : Nat) ({ cls := "ProsePages$Row", name := "set", desc := "(II)V" } : Jvm.MethodName)) ∈ TT := TT_in 609 (by decide +kernel) (by decide +kernel)
theorem ml_P_147 : (Jvm.Cond.methodLink "ProsePages" (147 : Nat) ({ cls := "ProsePages", name := "placeNodes", desc := "()V" } : Jvm.MethodName)) ∈ TT := TT_in 610 (by decide +kernel) (by decide +kernel)
theorem im_P_placeNodes : (Jvm.Cond.instanceMethod ({ cls := "ProsePages", name := "placeNodes", desc := "()V" } : Jvm.MethodName)) ∈ TT := TT_in 612 (by decide +kernel) (by decide +kernel)
theorem cd_P_placeNodes : (Jvm.Cond.code ({ cls := "ProsePages", name := "placeNodes", desc := "()V" } : Jvm.MethodName) prog_1_method_17_code (3 : Nat) (Option.none : Option Jvm.ClassFile.FieldType)) ∈ TT := TT_in 613 (by decide +kernel) (by decide +kernel)
theorem ml_P_199 : (Jvm.Cond.methodLink "ProsePages" (199 : Nat) ({ cls := "ProsePages", name := "pageOfNode", desc := "(LProsePages$Node;)I" } : Jvm.MethodName)) ∈ TT := TT_in 614 (by decide +kernel) (by decide +kernel)
theorem im_P_pageOfNode : (Jvm.Cond.instanceMethod ({ cls := "ProsePages", name := "pageOfNode", desc := "(LProsePages$Node;)I" } : Jvm.MethodName)) ∈ TT := TT_in 616 (by decide +kernel) (by decide +kernel)
theorem cd_P_pageOfNode : (Jvm.Cond.code ({ cls := "ProsePages", name := "pageOfNode", desc := "(LProsePages$Node;)I" } : Jvm.MethodName) prog_1_method_18_code (3 : Nat) (Option.some Jvm.ClassFile.FieldType.int)) ∈ TT := TT_in 617 (by decide +kernel) (by decide +kernel)
theorem ml_P_203 : (Jvm.Cond.methodLink "ProsePages" (203 : Nat) ({ cls := "ProsePages$Node", name := "isInline", desc := "()Z" } : Jvm.MethodName)) ∈ TT := TT_in 618 (by decide +kernel) (by decide +kernel)
theorem ml_P_209 : (Jvm.Cond.methodLink "ProsePages" (209 : Nat) ({ cls := "ProsePages$Sheet", name := "pageFrom", desc := "(I)I" } : Jvm.MethodName)) ∈ TT := TT_in 619 (by decide +kernel) (by decide +kernel)
theorem im_T_pageFrom : (Jvm.Cond.instanceMethod ({ cls := "ProsePages$Sheet", name := "pageFrom", desc := "(I)I" } : Jvm.MethodName)) ∈ TT := TT_in 620 (by decide +kernel) (by decide +kernel)
theorem se_T_pageFrom : (Jvm.Cond.selects "ProsePages$Sheet" ({ cls := "ProsePages$Sheet", name := "pageFrom", desc := "(I)I" } : Jvm.MethodName) ({ cls := "ProsePages$Sheet", name := "pageFrom", desc := "(I)I" } : Jvm.MethodName)) ∈ TT := TT_in 621 (by decide +kernel) (by decide +kernel)
theorem cd_T_pageFrom : (Jvm.Cond.code ({ cls := "ProsePages$Sheet", name := "pageFrom", desc := "(I)I" } : Jvm.MethodName) prog_5_method_8_code (3 : Nat) (Option.some Jvm.ClassFile.FieldType.int)) ∈ TT := TT_in 622 (by decide +kernel) (by decide +kernel)
theorem cl_L_25 : (Jvm.Cond.classLink "ProsePagesLaw" (25 : Nat) "ProsePagesModel") ∈ TT := TT_in 623 (by decide +kernel) (by decide +kernel)
theorem ia_M : (Jvm.Cond.instantiable "ProsePagesModel" (45 : Nat)) ∈ TT := TT_in 624 (by decide +kernel) (by decide +kernel)
theorem ml_L_27 : (Jvm.Cond.methodLink "ProsePagesLaw" (27 : Nat) ({ cls := "ProsePagesModel", name := "<init>", desc := "()V" } : Jvm.MethodName)) ∈ TT := TT_in 625 (by decide +kernel) (by decide +kernel)
theorem im_M_init : (Jvm.Cond.instanceMethod ({ cls := "ProsePagesModel", name := "<init>", desc := "()V" } : Jvm.MethodName)) ∈ TT := TT_in 626 (by decide +kernel) (by decide +kernel)
theorem cd_M_init : (Jvm.Cond.code ({ cls := "ProsePagesModel", name := "<init>", desc := "()V" } : Jvm.MethodName) prog_7_method_1_code (1 : Nat) (Option.none : Option Jvm.ClassFile.FieldType)) ∈ TT := TT_in 627 (by decide +kernel) (by decide +kernel)
theorem ml_M_1 : (Jvm.Cond.methodLink "ProsePagesModel" (1 : Nat) ({ cls := "java/lang/Object", name := "<init>", desc := "()V" } : Jvm.MethodName)) ∈ TT := TT_in 628 (by decide +kernel) (by decide +kernel)
theorem ct_M_51 : (Jvm.Cond.constant "ProsePagesModel" (51 : Nat) (90060 : Int32)) ∈ TT := TT_in 629 (by decide +kernel) (by decide +kernel)
theorem ml_M_94 : (Jvm.Cond.methodLink "ProsePagesModel" (94 : Nat) ({ cls := "ProsePagesModel", name := "empty", desc := "()V" } : Jvm.MethodName)) ∈ TT := TT_in 630 (by decide +kernel) (by decide +kernel)
theorem im_M_empty : (Jvm.Cond.instanceMethod ({ cls := "ProsePagesModel", name := "empty", desc := "()V" } : Jvm.MethodName)) ∈ TT := TT_in 632 (by decide +kernel) (by decide +kernel)
theorem cd_M_empty : (Jvm.Cond.code ({ cls := "ProsePagesModel", name := "empty", desc := "()V" } : Jvm.MethodName) prog_7_method_3_code (1 : Nat) (Option.none : Option Jvm.ClassFile.FieldType)) ∈ TT := TT_in 633 (by decide +kernel) (by decide +kernel)
theorem fl_M_97 : (Jvm.Cond.fieldLink "ProsePagesModel" (97 : Nat) "ProsePagesModel" "thrown" "I") ∈ TT := TT_in 634 (by decide +kernel) (by decide +kernel)
theorem fl_M_7 : (Jvm.Cond.fieldLink "ProsePagesModel" (7 : Nat) "ProsePagesModel" "kind" "[I") ∈ TT := TT_in 635 (by decide +kernel) (by decide +kernel)
theorem fl_M_13 : (Jvm.Cond.fieldLink "ProsePagesModel" (13 : Nat) "ProsePagesModel" "up" "[I") ∈ TT := TT_in 636 (by decide +kernel) (by decide +kernel)
theorem fl_M_16 : (Jvm.Cond.fieldLink "ProsePagesModel" (16 : Nat) "ProsePagesModel" "number" "[I") ∈ TT := TT_in 637 (by decide +kernel) (by decide +kernel)
theorem fl_M_19 : (Jvm.Cond.fieldLink "ProsePagesModel" (19 : Nat) "ProsePagesModel" "deep" "[I") ∈ TT := TT_in 638 (by decide +kernel) (by decide +kernel)
theorem fl_M_22 : (Jvm.Cond.fieldLink "ProsePagesModel" (22 : Nat) "ProsePagesModel" "from" "[I") ∈ TT := TT_in 639 (by decide +kernel) (by decide +kernel)
theorem fl_M_25 : (Jvm.Cond.fieldLink "ProsePagesModel" (25 : Nat) "ProsePagesModel" "many" "[I") ∈ TT := TT_in 640 (by decide +kernel) (by decide +kernel)
theorem fl_M_28 : (Jvm.Cond.fieldLink "ProsePagesModel" (28 : Nat) "ProsePagesModel" "lastIn" "[I") ∈ TT := TT_in 641 (by decide +kernel) (by decide +kernel)
theorem fl_M_31 : (Jvm.Cond.fieldLink "ProsePagesModel" (31 : Nat) "ProsePagesModel" "text" "[B") ∈ TT := TT_in 642 (by decide +kernel) (by decide +kernel)
theorem fl_M_101 : (Jvm.Cond.fieldLink "ProsePagesModel" (101 : Nat) "ProsePagesModel" "nodes" "I") ∈ TT := TT_in 643 (by decide +kernel) (by decide +kernel)
theorem fl_M_104 : (Jvm.Cond.fieldLink "ProsePagesModel" (104 : Nat) "ProsePagesModel" "characters" "I") ∈ TT := TT_in 644 (by decide +kernel) (by decide +kernel)
theorem fl_M_107 : (Jvm.Cond.fieldLink "ProsePagesModel" (107 : Nat) "ProsePagesModel" "hand" "I") ∈ TT := TT_in 645 (by decide +kernel) (by decide +kernel)
theorem fl_M_35 : (Jvm.Cond.fieldLink "ProsePagesModel" (35 : Nat) "ProsePagesModel" "length" "[I") ∈ TT := TT_in 646 (by decide +kernel) (by decide +kernel)
theorem fl_M_38 : (Jvm.Cond.fieldLink "ProsePagesModel" (38 : Nat) "ProsePagesModel" "head" "[I") ∈ TT := TT_in 647 (by decide +kernel) (by decide +kernel)
theorem fl_M_41 : (Jvm.Cond.fieldLink "ProsePagesModel" (41 : Nat) "ProsePagesModel" "page" "[I") ∈ TT := TT_in 648 (by decide +kernel) (by decide +kernel)
theorem fl_M_44 : (Jvm.Cond.fieldLink "ProsePagesModel" (44 : Nat) "ProsePagesModel" "row" "[I") ∈ TT := TT_in 649 (by decide +kernel) (by decide +kernel)
theorem fl_M_47 : (Jvm.Cond.fieldLink "ProsePagesModel" (47 : Nat) "ProsePagesModel" "between" "[Z") ∈ TT := TT_in 650 (by decide +kernel) (by decide +kernel)
theorem fl_M_52 : (Jvm.Cond.fieldLink "ProsePagesModel" (52 : Nat) "ProsePagesModel" "seen" "[B") ∈ TT := TT_in 651 (by decide +kernel) (by decide +kernel)
theorem fl_M_113 : (Jvm.Cond.fieldLink "ProsePagesModel" (113 : Nat) "ProsePagesModel" "lines" "I") ∈ TT := TT_in 652 (by decide +kernel) (by decide +kernel)
theorem fl_M_110 : (Jvm.Cond.fieldLink "ProsePagesModel" (110 : Nat) "ProsePagesModel" "pageMany" "I") ∈ TT := TT_in 653 (by decide +kernel) (by decide +kernel)
theorem fl_M_116 : (Jvm.Cond.fieldLink "ProsePagesModel" (116 : Nat) "ProsePagesModel" "rows" "I") ∈ TT := TT_in 654 (by decide +kernel) (by decide +kernel)
theorem fl_M_119 : (Jvm.Cond.fieldLink "ProsePagesModel" (119 : Nat) "ProsePagesModel" "columns" "I") ∈ TT := TT_in 655 (by decide +kernel) (by decide +kernel)
theorem fl_M_122 : (Jvm.Cond.fieldLink "ProsePagesModel" (122 : Nat) "ProsePagesModel" "laid" "I") ∈ TT := TT_in 656 (by decide +kernel) (by decide +kernel)
theorem fl_M_159 : (Jvm.Cond.fieldLink "ProsePagesModel" (159 : Nat) "ProsePagesModel" "counted" "I") ∈ TT := TT_in 657 (by decide +kernel) (by decide +kernel)
theorem fl_M_55 : (Jvm.Cond.fieldLink "ProsePagesModel" (55 : Nat) "ProsePagesModel" "pageOf" "[I") ∈ TT := TT_in 658 (by decide +kernel) (by decide +kernel)
theorem fl_M_58 : (Jvm.Cond.fieldLink "ProsePagesModel" (58 : Nat) "ProsePagesModel" "start" "[I") ∈ TT := TT_in 659 (by decide +kernel) (by decide +kernel)
theorem fl_M_61 : (Jvm.Cond.fieldLink "ProsePagesModel" (61 : Nat) "ProsePagesModel" "hKind" "[I") ∈ TT := TT_in 660 (by decide +kernel) (by decide +kernel)
theorem fl_M_64 : (Jvm.Cond.fieldLink "ProsePagesModel" (64 : Nat) "ProsePagesModel" "hWidth" "[I") ∈ TT := TT_in 661 (by decide +kernel) (by decide +kernel)
theorem fl_M_67 : (Jvm.Cond.fieldLink "ProsePagesModel" (67 : Nat) "ProsePagesModel" "hSign" "[I") ∈ TT := TT_in 662 (by decide +kernel) (by decide +kernel)
theorem fl_M_70 : (Jvm.Cond.fieldLink "ProsePagesModel" (70 : Nat) "ProsePagesModel" "hNext" "[I") ∈ TT := TT_in 663 (by decide +kernel) (by decide +kernel)
theorem fl_M_73 : (Jvm.Cond.fieldLink "ProsePagesModel" (73 : Nat) "ProsePagesModel" "hDue" "[Z") ∈ TT := TT_in 664 (by decide +kernel) (by decide +kernel)
theorem fl_M_76 : (Jvm.Cond.fieldLink "ProsePagesModel" (76 : Nat) "ProsePagesModel" "hWide" "[Z") ∈ TT := TT_in 665 (by decide +kernel) (by decide +kernel)
theorem fl_M_79 : (Jvm.Cond.fieldLink "ProsePagesModel" (79 : Nat) "ProsePagesModel" "hHad" "[Z") ∈ TT := TT_in 666 (by decide +kernel) (by decide +kernel)
theorem fl_M_82 : (Jvm.Cond.fieldLink "ProsePagesModel" (82 : Nat) "ProsePagesModel" "hFresh" "[Z") ∈ TT := TT_in 667 (by decide +kernel) (by decide +kernel)
theorem fl_M_166 : (Jvm.Cond.fieldLink "ProsePagesModel" (166 : Nat) "ProsePagesModel" "holders" "I") ∈ TT := TT_in 668 (by decide +kernel) (by decide +kernel)
theorem fl_M_85 : (Jvm.Cond.fieldLink "ProsePagesModel" (85 : Nat) "ProsePagesModel" "word" "[I") ∈ TT := TT_in 669 (by decide +kernel) (by decide +kernel)
theorem fl_M_88 : (Jvm.Cond.fieldLink "ProsePagesModel" (88 : Nat) "ProsePagesModel" "lineNow" "[I") ∈ TT := TT_in 670 (by decide +kernel) (by decide +kernel)
theorem fl_M_91 : (Jvm.Cond.fieldLink "ProsePagesModel" (91 : Nat) "ProsePagesModel" "shown" "[I") ∈ TT := TT_in 671 (by decide +kernel) (by decide +kernel)
theorem fl_M_186 : (Jvm.Cond.fieldLink "ProsePagesModel" (186 : Nat) "ProsePagesModel" "wordMany" "I") ∈ TT := TT_in 672 (by decide +kernel) (by decide +kernel)
theorem fl_M_179 : (Jvm.Cond.fieldLink "ProsePagesModel" (179 : Nat) "ProsePagesModel" "nowMany" "I") ∈ TT := TT_in 673 (by decide +kernel) (by decide +kernel)
theorem fl_M_145 : (Jvm.Cond.fieldLink "ProsePagesModel" (145 : Nat) "ProsePagesModel" "shownMany" "I") ∈ TT := TT_in 674 (by decide +kernel) (by decide +kernel)
theorem fl_M_189 : (Jvm.Cond.fieldLink "ProsePagesModel" (189 : Nat) "ProsePagesModel" "leafWidth" "I") ∈ TT := TT_in 675 (by decide +kernel) (by decide +kernel)
theorem fl_M_176 : (Jvm.Cond.fieldLink "ProsePagesModel" (176 : Nat) "ProsePagesModel" "leafLine" "I") ∈ TT := TT_in 676 (by decide +kernel) (by decide +kernel)
theorem fl_M_198 : (Jvm.Cond.fieldLink "ProsePagesModel" (198 : Nat) "ProsePagesModel" "leafOpen" "Z") ∈ TT := TT_in 677 (by decide +kernel) (by decide +kernel)
theorem fl_M_162 : (Jvm.Cond.fieldLink "ProsePagesModel" (162 : Nat) "ProsePagesModel" "counts" "Z") ∈ TT := TT_in 678 (by decide +kernel) (by decide +kernel)
theorem ac_boolean : (Jvm.Cond.arrayClass Jvm.ClassFile.FieldType.boolean) ∈ TT := TT_in 770 (by decide +kernel) (by decide +kernel)
theorem ml_L_33 : (Jvm.Cond.methodLink "ProsePagesLaw" (33 : Nat) ({ cls := "ProsePagesModel", name := "begin", desc := "(II)I" } : Jvm.MethodName)) ∈ TT := TT_in 771 (by decide +kernel) (by decide +kernel)
theorem im_M_begin : (Jvm.Cond.instanceMethod ({ cls := "ProsePagesModel", name := "begin", desc := "(II)I" } : Jvm.MethodName)) ∈ TT := TT_in 772 (by decide +kernel) (by decide +kernel)
theorem se_M_begin : (Jvm.Cond.selects "ProsePagesModel" ({ cls := "ProsePagesModel", name := "begin", desc := "(II)I" } : Jvm.MethodName) ({ cls := "ProsePagesModel", name := "begin", desc := "(II)I" } : Jvm.MethodName)) ∈ TT := TT_in 773 (by decide +kernel) (by decide +kernel)
theorem cd_M_begin : (Jvm.Cond.code ({ cls := "ProsePagesModel", name := "begin", desc := "(II)I" } : Jvm.MethodName) prog_7_method_9_code (5 : Nat) (Option.some Jvm.ClassFile.FieldType.int)) ∈ TT := TT_in 774 (by decide +kernel) (by decide +kernel)
theorem ml_M_132 : (Jvm.Cond.methodLink "ProsePagesModel" (132 : Nat) ({ cls := "ProsePagesModel", name := "mayHold", desc := "(II)Z" } : Jvm.MethodName)) ∈ TT := TT_in 775 (by decide +kernel) (by decide +kernel)
theorem sm_M_mayHold : (Jvm.Cond.static ({ cls := "ProsePagesModel", name := "mayHold", desc := "(II)Z" } : Jvm.MethodName)) ∈ TT := TT_in 776 (by decide +kernel) (by decide +kernel)
theorem cd_M_mayHold : (Jvm.Cond.code ({ cls := "ProsePagesModel", name := "mayHold", desc := "(II)Z" } : Jvm.MethodName) prog_7_method_6_code (2 : Nat) (Option.some Jvm.ClassFile.FieldType.boolean)) ∈ TT := TT_in 777 (by decide +kernel) (by decide +kernel)
theorem ml_M_125 : (Jvm.Cond.methodLink "ProsePagesModel" (125 : Nat) ({ cls := "ProsePagesModel", name := "isBlock", desc := "(I)Z" } : Jvm.MethodName)) ∈ TT := TT_in 778 (by decide +kernel) (by decide +kernel)
theorem sm_M_isBlock : (Jvm.Cond.static ({ cls := "ProsePagesModel", name := "isBlock", desc := "(I)Z" } : Jvm.MethodName)) ∈ TT := TT_in 779 (by decide +kernel) (by decide +kernel)
theorem cd_M_isBlock : (Jvm.Cond.code ({ cls := "ProsePagesModel", name := "isBlock", desc := "(I)Z" } : Jvm.MethodName) prog_7_method_4_code (1 : Nat) (Option.some Jvm.ClassFile.FieldType.boolean)) ∈ TT := TT_in 780 (by decide +kernel) (by decide +kernel)
theorem ml_M_129 : (Jvm.Cond.methodLink "ProsePagesModel" (129 : Nat) ({ cls := "ProsePagesModel", name := "isInline", desc := "(I)Z" } : Jvm.MethodName)) ∈ TT := TT_in 781 (by decide +kernel) (by decide +kernel)
theorem sm_M_isInline : (Jvm.Cond.static ({ cls := "ProsePagesModel", name := "isInline", desc := "(I)Z" } : Jvm.MethodName)) ∈ TT := TT_in 782 (by decide +kernel) (by decide +kernel)
theorem cd_M_isInline : (Jvm.Cond.code ({ cls := "ProsePagesModel", name := "isInline", desc := "(I)Z" } : Jvm.MethodName) prog_7_method_5_code (1 : Nat) (Option.some Jvm.ClassFile.FieldType.boolean)) ∈ TT := TT_in 783 (by decide +kernel) (by decide +kernel)
theorem ct_M_136 : (Jvm.Cond.constant "ProsePagesModel" (136 : Nat) (999999999 : Int32)) ∈ TT := TT_in 784 (by decide +kernel) (by decide +kernel)
theorem ml_M_137 : (Jvm.Cond.methodLink "ProsePagesModel" (137 : Nat) ({ cls := "ProsePagesModel", name := "isFull", desc := "()Z" } : Jvm.MethodName)) ∈ TT := TT_in 785 (by decide +kernel) (by decide +kernel)
theorem im_M_isFull : (Jvm.Cond.instanceMethod ({ cls := "ProsePagesModel", name := "isFull", desc := "()Z" } : Jvm.MethodName)) ∈ TT := TT_in 787 (by decide +kernel) (by decide +kernel)
theorem cd_M_isFull : (Jvm.Cond.code ({ cls := "ProsePagesModel", name := "isFull", desc := "()Z" } : Jvm.MethodName) prog_7_method_7_code (1 : Nat) (Option.some Jvm.ClassFile.FieldType.boolean)) ∈ TT := TT_in 788 (by decide +kernel) (by decide +kernel)
theorem ml_M_141 : (Jvm.Cond.methodLink "ProsePagesModel" (141 : Nat) ({ cls := "ProsePagesModel", name := "add", desc := "(II)I" } : Jvm.MethodName)) ∈ TT := TT_in 789 (by decide +kernel) (by decide +kernel)
theorem im_M_add : (Jvm.Cond.instanceMethod ({ cls := "ProsePagesModel", name := "add", desc := "(II)I" } : Jvm.MethodName)) ∈ TT := TT_in 791 (by decide +kernel) (by decide +kernel)
theorem cd_M_add : (Jvm.Cond.code ({ cls := "ProsePagesModel", name := "add", desc := "(II)I" } : Jvm.MethodName) prog_7_method_8_code (4 : Nat) (Option.some Jvm.ClassFile.FieldType.int)) ∈ TT := TT_in 792 (by decide +kernel) (by decide +kernel)
theorem ml_L_38 : (Jvm.Cond.methodLink "ProsePagesLaw" (38 : Nat) ({ cls := "ProsePagesModel", name := "end", desc := "()I" } : Jvm.MethodName)) ∈ TT := TT_in 793 (by decide +kernel) (by decide +kernel)
theorem im_M_end : (Jvm.Cond.instanceMethod ({ cls := "ProsePagesModel", name := "end", desc := "()I" } : Jvm.MethodName)) ∈ TT := TT_in 794 (by decide +kernel) (by decide +kernel)
theorem se_M_end : (Jvm.Cond.selects "ProsePagesModel" ({ cls := "ProsePagesModel", name := "end", desc := "()I" } : Jvm.MethodName) ({ cls := "ProsePagesModel", name := "end", desc := "()I" } : Jvm.MethodName)) ∈ TT := TT_in 795 (by decide +kernel) (by decide +kernel)
theorem cd_M_end : (Jvm.Cond.code ({ cls := "ProsePagesModel", name := "end", desc := "()I" } : Jvm.MethodName) prog_7_method_10_code (1 : Nat) (Option.some Jvm.ClassFile.FieldType.int)) ∈ TT := TT_in 796 (by decide +kernel) (by decide +kernel)
theorem ml_L_42 : (Jvm.Cond.methodLink "ProsePagesLaw" (42 : Nat) ({ cls := "ProsePagesModel", name := "say", desc := "(IIIII)I" } : Jvm.MethodName)) ∈ TT := TT_in 797 (by decide +kernel) (by decide +kernel)
theorem im_M_say : (Jvm.Cond.instanceMethod ({ cls := "ProsePagesModel", name := "say", desc := "(IIIII)I" } : Jvm.MethodName)) ∈ TT := TT_in 798 (by decide +kernel) (by decide +kernel)
theorem se_M_say : (Jvm.Cond.selects "ProsePagesModel" ({ cls := "ProsePagesModel", name := "say", desc := "(IIIII)I" } : Jvm.MethodName) ({ cls := "ProsePagesModel", name := "say", desc := "(IIIII)I" } : Jvm.MethodName)) ∈ TT := TT_in 799 (by decide +kernel) (by decide +kernel)
theorem cd_M_say : (Jvm.Cond.code ({ cls := "ProsePagesModel", name := "say", desc := "(IIIII)I" } : Jvm.MethodName) prog_7_method_11_code (9 : Nat) (Option.some Jvm.ClassFile.FieldType.int)) ∈ TT := TT_in 800 (by decide +kernel) (by decide +kernel)
theorem ml_L_46 : (Jvm.Cond.methodLink "ProsePagesLaw" (46 : Nat) ({ cls := "ProsePagesModel", name := "clear", desc := "()V" } : Jvm.MethodName)) ∈ TT := TT_in 801 (by decide +kernel) (by decide +kernel)
theorem im_M_clear : (Jvm.Cond.instanceMethod ({ cls := "ProsePagesModel", name := "clear", desc := "()V" } : Jvm.MethodName)) ∈ TT := TT_in 802 (by decide +kernel) (by decide +kernel)
theorem se_M_clear : (Jvm.Cond.selects "ProsePagesModel" ({ cls := "ProsePagesModel", name := "clear", desc := "()V" } : Jvm.MethodName) ({ cls := "ProsePagesModel", name := "clear", desc := "()V" } : Jvm.MethodName)) ∈ TT := TT_in 803 (by decide +kernel) (by decide +kernel)
theorem cd_M_clear : (Jvm.Cond.code ({ cls := "ProsePagesModel", name := "clear", desc := "()V" } : Jvm.MethodName) prog_7_method_12_code (1 : Nat) (Option.none : Option Jvm.ClassFile.FieldType)) ∈ TT := TT_in 804 (by decide +kernel) (by decide +kernel)
theorem ml_L_49 : (Jvm.Cond.methodLink "ProsePagesLaw" (49 : Nat) ({ cls := "ProsePagesModel", name := "pages", desc := "(II)I" } : Jvm.MethodName)) ∈ TT := TT_in 805 (by decide +kernel) (by decide +kernel)
theorem im_M_pages : (Jvm.Cond.instanceMethod ({ cls := "ProsePagesModel", name := "pages", desc := "(II)I" } : Jvm.MethodName)) ∈ TT := TT_in 806 (by decide +kernel) (by decide +kernel)
theorem se_M_pages : (Jvm.Cond.selects "ProsePagesModel" ({ cls := "ProsePagesModel", name := "pages", desc := "(II)I" } : Jvm.MethodName) ({ cls := "ProsePagesModel", name := "pages", desc := "(II)I" } : Jvm.MethodName)) ∈ TT := TT_in 807 (by decide +kernel) (by decide +kernel)
theorem cd_M_pages : (Jvm.Cond.code ({ cls := "ProsePagesModel", name := "pages", desc := "(II)I" } : Jvm.MethodName) prog_7_method_33_code (6 : Nat) (Option.some Jvm.ClassFile.FieldType.int)) ∈ TT := TT_in 808 (by decide +kernel) (by decide +kernel)
theorem ml_M_232 : (Jvm.Cond.methodLink "ProsePagesModel" (232 : Nat) ({ cls := "ProsePagesModel", name := "layOut", desc := "()V" } : Jvm.MethodName)) ∈ TT := TT_in 809 (by decide +kernel) (by decide +kernel)
theorem im_M_layOut : (Jvm.Cond.instanceMethod ({ cls := "ProsePagesModel", name := "layOut", desc := "()V" } : Jvm.MethodName)) ∈ TT := TT_in 811 (by decide +kernel) (by decide +kernel)
theorem cd_M_layOut : (Jvm.Cond.code ({ cls := "ProsePagesModel", name := "layOut", desc := "()V" } : Jvm.MethodName) prog_7_method_31_code (4 : Nat) (Option.none : Option Jvm.ClassFile.FieldType)) ∈ TT := TT_in 812 (by decide +kernel) (by decide +kernel)
theorem ml_M_226 : (Jvm.Cond.methodLink "ProsePagesModel" (226 : Nat) ({ cls := "ProsePagesModel", name := "endNode", desc := "(I)V" } : Jvm.MethodName)) ∈ TT := TT_in 813 (by decide +kernel) (by decide +kernel)
theorem im_M_endNode : (Jvm.Cond.instanceMethod ({ cls := "ProsePagesModel", name := "endNode", desc := "(I)V" } : Jvm.MethodName)) ∈ TT := TT_in 815 (by decide +kernel) (by decide +kernel)
theorem cd_M_endNode : (Jvm.Cond.code ({ cls := "ProsePagesModel", name := "endNode", desc := "(I)V" } : Jvm.MethodName) prog_7_method_30_code (3 : Nat) (Option.none : Option Jvm.ClassFile.FieldType)) ∈ TT := TT_in 816 (by decide +kernel) (by decide +kernel)
theorem ml_M_210 : (Jvm.Cond.methodLink "ProsePagesModel" (210 : Nat) ({ cls := "ProsePagesModel", name := "endLeaf", desc := "()V" } : Jvm.MethodName)) ∈ TT := TT_in 817 (by decide +kernel) (by decide +kernel)
theorem im_M_endLeaf : (Jvm.Cond.instanceMethod ({ cls := "ProsePagesModel", name := "endLeaf", desc := "()V" } : Jvm.MethodName)) ∈ TT := TT_in 819 (by decide +kernel) (by decide +kernel)
theorem cd_M_endLeaf : (Jvm.Cond.code ({ cls := "ProsePagesModel", name := "endLeaf", desc := "()V" } : Jvm.MethodName) prog_7_method_23_code (1 : Nat) (Option.none : Option Jvm.ClassFile.FieldType)) ∈ TT := TT_in 820 (by decide +kernel) (by decide +kernel)
theorem ml_M_195 : (Jvm.Cond.methodLink "ProsePagesModel" (195 : Nat) ({ cls := "ProsePagesModel", name := "endWord", desc := "()V" } : Jvm.MethodName)) ∈ TT := TT_in 821 (by decide +kernel) (by decide +kernel)
theorem im_M_endWord : (Jvm.Cond.instanceMethod ({ cls := "ProsePagesModel", name := "endWord", desc := "()V" } : Jvm.MethodName)) ∈ TT := TT_in 823 (by decide +kernel) (by decide +kernel)
theorem cd_M_endWord : (Jvm.Cond.code ({ cls := "ProsePagesModel", name := "endWord", desc := "()V" } : Jvm.MethodName) prog_7_method_20_code (2 : Nat) (Option.none : Option Jvm.ClassFile.FieldType)) ∈ TT := TT_in 824 (by decide +kernel) (by decide +kernel)
theorem ml_M_192 : (Jvm.Cond.methodLink "ProsePagesModel" (192 : Nat) ({ cls := "ProsePagesModel", name := "giveNow", desc := "()V" } : Jvm.MethodName)) ∈ TT := TT_in 825 (by decide +kernel) (by decide +kernel)
theorem im_M_giveNow : (Jvm.Cond.instanceMethod ({ cls := "ProsePagesModel", name := "giveNow", desc := "()V" } : Jvm.MethodName)) ∈ TT := TT_in 827 (by decide +kernel) (by decide +kernel)
theorem cd_M_giveNow : (Jvm.Cond.code ({ cls := "ProsePagesModel", name := "giveNow", desc := "()V" } : Jvm.MethodName) prog_7_method_19_code (1 : Nat) (Option.none : Option Jvm.ClassFile.FieldType)) ∈ TT := TT_in 828 (by decide +kernel) (by decide +kernel)
theorem ml_M_182 : (Jvm.Cond.methodLink "ProsePagesModel" (182 : Nat) ({ cls := "ProsePagesModel", name := "giveLine", desc := "([III)V" } : Jvm.MethodName)) ∈ TT := TT_in 829 (by decide +kernel) (by decide +kernel)
theorem im_M_giveLine : (Jvm.Cond.instanceMethod ({ cls := "ProsePagesModel", name := "giveLine", desc := "([III)V" } : Jvm.MethodName)) ∈ TT := TT_in 831 (by decide +kernel) (by decide +kernel)
theorem cd_M_giveLine : (Jvm.Cond.code ({ cls := "ProsePagesModel", name := "giveLine", desc := "([III)V" } : Jvm.MethodName) prog_7_method_18_code (5 : Nat) (Option.none : Option Jvm.ClassFile.FieldType)) ∈ TT := TT_in 832 (by decide +kernel) (by decide +kernel)
theorem ml_M_169 : (Jvm.Cond.methodLink "ProsePagesModel" (169 : Nat) ({ cls := "ProsePagesModel", name := "showHolders", desc := "(I)V" } : Jvm.MethodName)) ∈ TT := TT_in 833 (by decide +kernel) (by decide +kernel)
theorem im_M_showHolders : (Jvm.Cond.instanceMethod ({ cls := "ProsePagesModel", name := "showHolders", desc := "(I)V" } : Jvm.MethodName)) ∈ TT := TT_in 835 (by decide +kernel) (by decide +kernel)
theorem cd_M_showHolders : (Jvm.Cond.code ({ cls := "ProsePagesModel", name := "showHolders", desc := "(I)V" } : Jvm.MethodName) prog_7_method_16_code (4 : Nat) (Option.none : Option Jvm.ClassFile.FieldType)) ∈ TT := TT_in 836 (by decide +kernel) (by decide +kernel)
end
section
theorem ml_M_148 : (Jvm.Cond.methodLink "ProsePagesModel" (148 : Nat) ({ cls := "ProsePagesModel", name := "show", desc := "(I)V" } : Jvm.MethodName)) ∈ TT := TT_in 837 (by decide +kernel) (by decide +kernel)
theorem im_M_show : (Jvm.Cond.instanceMethod ({ cls := "ProsePagesModel", name := "show", desc := "(I)V" } : Jvm.MethodName)) ∈ TT := TT_in 839 (by decide +kernel) (by decide +kernel)
theorem cd_M_show : (Jvm.Cond.code ({ cls := "ProsePagesModel", name := "show", desc := "(I)V" } : Jvm.MethodName) prog_7_method_14_code (2 : Nat) (Option.none : Option Jvm.ClassFile.FieldType)) ∈ TT := TT_in 840 (by decide +kernel) (by decide +kernel)
theorem ml_M_152 : (Jvm.Cond.methodLink "ProsePagesModel" (152 : Nat) ({ cls := "ProsePagesModel", name := "showNumber", desc := "(I)V" } : Jvm.MethodName)) ∈ TT := TT_in 841 (by decide +kernel) (by decide +kernel)
theorem im_M_showNumber : (Jvm.Cond.instanceMethod ({ cls := "ProsePagesModel", name := "showNumber", desc := "(I)V" } : Jvm.MethodName)) ∈ TT := TT_in 843 (by decide +kernel) (by decide +kernel)
theorem cd_M_showNumber : (Jvm.Cond.code ({ cls := "ProsePagesModel", name := "showNumber", desc := "(I)V" } : Jvm.MethodName) prog_7_method_15_code (3 : Nat) (Option.none : Option Jvm.ClassFile.FieldType)) ∈ TT := TT_in 844 (by decide +kernel) (by decide +kernel)
theorem ml_M_155 : (Jvm.Cond.methodLink "ProsePagesModel" (155 : Nat) ({ cls := "ProsePagesModel", name := "signLength", desc := "(I)I" } : Jvm.MethodName)) ∈ TT := TT_in 845 (by decide +kernel) (by decide +kernel)
theorem sm_M_signLength : (Jvm.Cond.static ({ cls := "ProsePagesModel", name := "signLength", desc := "(I)I" } : Jvm.MethodName)) ∈ TT := TT_in 846 (by decide +kernel) (by decide +kernel)
theorem cd_M_signLength : (Jvm.Cond.code ({ cls := "ProsePagesModel", name := "signLength", desc := "(I)I" } : Jvm.MethodName) prog_7_method_13_code (3 : Nat) (Option.some Jvm.ClassFile.FieldType.int)) ∈ TT := TT_in 847 (by decide +kernel) (by decide +kernel)
theorem ml_M_172 : (Jvm.Cond.methodLink "ProsePagesModel" (172 : Nat) ({ cls := "ProsePagesModel", name := "endLine", desc := "(Z)V" } : Jvm.MethodName)) ∈ TT := TT_in 848 (by decide +kernel) (by decide +kernel)
theorem im_M_endLine : (Jvm.Cond.instanceMethod ({ cls := "ProsePagesModel", name := "endLine", desc := "(Z)V" } : Jvm.MethodName)) ∈ TT := TT_in 850 (by decide +kernel) (by decide +kernel)
theorem cd_M_endLine : (Jvm.Cond.code ({ cls := "ProsePagesModel", name := "endLine", desc := "(Z)V" } : Jvm.MethodName) prog_7_method_17_code (4 : Nat) (Option.none : Option Jvm.ClassFile.FieldType)) ∈ TT := TT_in 851 (by decide +kernel) (by decide +kernel)
theorem ml_M_229 : (Jvm.Cond.methodLink "ProsePagesModel" (229 : Nat) ({ cls := "ProsePagesModel", name := "beginNode", desc := "(I)V" } : Jvm.MethodName)) ∈ TT := TT_in 852 (by decide +kernel) (by decide +kernel)
theorem im_M_beginNode : (Jvm.Cond.instanceMethod ({ cls := "ProsePagesModel", name := "beginNode", desc := "(I)V" } : Jvm.MethodName)) ∈ TT := TT_in 854 (by decide +kernel) (by decide +kernel)
theorem cd_M_beginNode : (Jvm.Cond.code ({ cls := "ProsePagesModel", name := "beginNode", desc := "(I)V" } : Jvm.MethodName) prog_7_method_29_code (7 : Nat) (Option.none : Option Jvm.ClassFile.FieldType)) ∈ TT := TT_in 855 (by decide +kernel) (by decide +kernel)
theorem ml_M_204 : (Jvm.Cond.methodLink "ProsePagesModel" (204 : Nat) ({ cls := "ProsePagesModel", name := "beginLeaf", desc := "()V" } : Jvm.MethodName)) ∈ TT := TT_in 856 (by decide +kernel) (by decide +kernel)
theorem im_M_beginLeaf : (Jvm.Cond.instanceMethod ({ cls := "ProsePagesModel", name := "beginLeaf", desc := "()V" } : Jvm.MethodName)) ∈ TT := TT_in 858 (by decide +kernel) (by decide +kernel)
theorem cd_M_beginLeaf : (Jvm.Cond.code ({ cls := "ProsePagesModel", name := "beginLeaf", desc := "()V" } : Jvm.MethodName) prog_7_method_22_code (1 : Nat) (Option.none : Option Jvm.ClassFile.FieldType)) ∈ TT := TT_in 859 (by decide +kernel) (by decide +kernel)
theorem ml_M_213 : (Jvm.Cond.methodLink "ProsePagesModel" (213 : Nat) ({ cls := "ProsePagesModel", name := "hold", desc := "(IIIZ)V" } : Jvm.MethodName)) ∈ TT := TT_in 860 (by decide +kernel) (by decide +kernel)
theorem im_M_hold : (Jvm.Cond.instanceMethod ({ cls := "ProsePagesModel", name := "hold", desc := "(IIIZ)V" } : Jvm.MethodName)) ∈ TT := TT_in 862 (by decide +kernel) (by decide +kernel)
theorem cd_M_hold : (Jvm.Cond.code ({ cls := "ProsePagesModel", name := "hold", desc := "(IIIZ)V" } : Jvm.MethodName) prog_7_method_24_code (6 : Nat) (Option.none : Option Jvm.ClassFile.FieldType)) ∈ TT := TT_in 863 (by decide +kernel) (by decide +kernel)
theorem ml_M_217 : (Jvm.Cond.methodLink "ProsePagesModel" (217 : Nat) ({ cls := "ProsePagesModel", name := "holdsWideItem", desc := "(I)Z" } : Jvm.MethodName)) ∈ TT := TT_in 864 (by decide +kernel) (by decide +kernel)
theorem im_M_holdsWideItem : (Jvm.Cond.instanceMethod ({ cls := "ProsePagesModel", name := "holdsWideItem", desc := "(I)Z" } : Jvm.MethodName)) ∈ TT := TT_in 866 (by decide +kernel) (by decide +kernel)
theorem cd_M_holdsWideItem : (Jvm.Cond.code ({ cls := "ProsePagesModel", name := "holdsWideItem", desc := "(I)Z" } : Jvm.MethodName) prog_7_method_26_code (4 : Nat) (Option.some Jvm.ClassFile.FieldType.boolean)) ∈ TT := TT_in 867 (by decide +kernel) (by decide +kernel)
theorem ml_M_201 : (Jvm.Cond.methodLink "ProsePagesModel" (201 : Nat) ({ cls := "ProsePagesModel", name := "holdsParagraph", desc := "(I)Z" } : Jvm.MethodName)) ∈ TT := TT_in 868 (by decide +kernel) (by decide +kernel)
theorem im_M_holdsParagraph : (Jvm.Cond.instanceMethod ({ cls := "ProsePagesModel", name := "holdsParagraph", desc := "(I)Z" } : Jvm.MethodName)) ∈ TT := TT_in 870 (by decide +kernel) (by decide +kernel)
theorem cd_M_holdsParagraph : (Jvm.Cond.code ({ cls := "ProsePagesModel", name := "holdsParagraph", desc := "(I)Z" } : Jvm.MethodName) prog_7_method_25_code (4 : Nat) (Option.some Jvm.ClassFile.FieldType.boolean)) ∈ TT := TT_in 871 (by decide +kernel) (by decide +kernel)
theorem ml_M_220 : (Jvm.Cond.methodLink "ProsePagesModel" (220 : Nat) ({ cls := "ProsePagesModel", name := "hear", desc := "(I)V" } : Jvm.MethodName)) ∈ TT := TT_in 872 (by decide +kernel) (by decide +kernel)
theorem im_M_hear : (Jvm.Cond.instanceMethod ({ cls := "ProsePagesModel", name := "hear", desc := "(I)V" } : Jvm.MethodName)) ∈ TT := TT_in 874 (by decide +kernel) (by decide +kernel)
theorem cd_M_hear : (Jvm.Cond.code ({ cls := "ProsePagesModel", name := "hear", desc := "(I)V" } : Jvm.MethodName) prog_7_method_21_code (2 : Nat) (Option.none : Option Jvm.ClassFile.FieldType)) ∈ TT := TT_in 875 (by decide +kernel) (by decide +kernel)
theorem ml_M_223 : (Jvm.Cond.methodLink "ProsePagesModel" (223 : Nat) ({ cls := "ProsePagesModel", name := "layCode", desc := "(I)V" } : Jvm.MethodName)) ∈ TT := TT_in 876 (by decide +kernel) (by decide +kernel)
theorem im_M_layCode : (Jvm.Cond.instanceMethod ({ cls := "ProsePagesModel", name := "layCode", desc := "(I)V" } : Jvm.MethodName)) ∈ TT := TT_in 878 (by decide +kernel) (by decide +kernel)
theorem cd_M_layCode : (Jvm.Cond.code ({ cls := "ProsePagesModel", name := "layCode", desc := "(I)V" } : Jvm.MethodName) prog_7_method_27_code (5 : Nat) (Option.none : Option Jvm.ClassFile.FieldType)) ∈ TT := TT_in 879 (by decide +kernel) (by decide +kernel)
theorem ml_M_207 : (Jvm.Cond.methodLink "ProsePagesModel" (207 : Nat) ({ cls := "ProsePagesModel", name := "layPieces", desc := "()V" } : Jvm.MethodName)) ∈ TT := TT_in 880 (by decide +kernel) (by decide +kernel)
theorem im_M_layPieces : (Jvm.Cond.instanceMethod ({ cls := "ProsePagesModel", name := "layPieces", desc := "()V" } : Jvm.MethodName)) ∈ TT := TT_in 882 (by decide +kernel) (by decide +kernel)
theorem cd_M_layPieces : (Jvm.Cond.code ({ cls := "ProsePagesModel", name := "layPieces", desc := "()V" } : Jvm.MethodName) prog_7_method_28_code (3 : Nat) (Option.none : Option Jvm.ClassFile.FieldType)) ∈ TT := TT_in 883 (by decide +kernel) (by decide +kernel)
theorem ml_M_235 : (Jvm.Cond.methodLink "ProsePagesModel" (235 : Nat) ({ cls := "ProsePagesModel", name := "paginate", desc := "()I" } : Jvm.MethodName)) ∈ TT := TT_in 884 (by decide +kernel) (by decide +kernel)
theorem im_M_paginate : (Jvm.Cond.instanceMethod ({ cls := "ProsePagesModel", name := "paginate", desc := "()I" } : Jvm.MethodName)) ∈ TT := TT_in 886 (by decide +kernel) (by decide +kernel)
theorem cd_M_paginate : (Jvm.Cond.code ({ cls := "ProsePagesModel", name := "paginate", desc := "()I" } : Jvm.MethodName) prog_7_method_32_code (7 : Nat) (Option.some Jvm.ClassFile.FieldType.int)) ∈ TT := TT_in 887 (by decide +kernel) (by decide +kernel)
theorem ml_L_54 : (Jvm.Cond.methodLink "ProsePagesLaw" (54 : Nat) ({ cls := "ProsePagesModel", name := "cell", desc := "(III)I" } : Jvm.MethodName)) ∈ TT := TT_in 888 (by decide +kernel) (by decide +kernel)
theorem im_M_cell : (Jvm.Cond.instanceMethod ({ cls := "ProsePagesModel", name := "cell", desc := "(III)I" } : Jvm.MethodName)) ∈ TT := TT_in 889 (by decide +kernel) (by decide +kernel)
theorem se_M_cell : (Jvm.Cond.selects "ProsePagesModel" ({ cls := "ProsePagesModel", name := "cell", desc := "(III)I" } : Jvm.MethodName) ({ cls := "ProsePagesModel", name := "cell", desc := "(III)I" } : Jvm.MethodName)) ∈ TT := TT_in 890 (by decide +kernel) (by decide +kernel)
theorem cd_M_cell : (Jvm.Cond.code ({ cls := "ProsePagesModel", name := "cell", desc := "(III)I" } : Jvm.MethodName) prog_7_method_34_code (6 : Nat) (Option.some Jvm.ClassFile.FieldType.int)) ∈ TT := TT_in 891 (by decide +kernel) (by decide +kernel)
theorem ml_L_58 : (Jvm.Cond.methodLink "ProsePagesLaw" (58 : Nat) ({ cls := "ProsePagesModel", name := "page", desc := "(II)I" } : Jvm.MethodName)) ∈ TT := TT_in 892 (by decide +kernel) (by decide +kernel)
theorem im_M_page : (Jvm.Cond.instanceMethod ({ cls := "ProsePagesModel", name := "page", desc := "(II)I" } : Jvm.MethodName)) ∈ TT := TT_in 893 (by decide +kernel) (by decide +kernel)
theorem se_M_page : (Jvm.Cond.selects "ProsePagesModel" ({ cls := "ProsePagesModel", name := "page", desc := "(II)I" } : Jvm.MethodName) ({ cls := "ProsePagesModel", name := "page", desc := "(II)I" } : Jvm.MethodName)) ∈ TT := TT_in 894 (by decide +kernel) (by decide +kernel)
theorem cd_M_page : (Jvm.Cond.code ({ cls := "ProsePagesModel", name := "page", desc := "(II)I" } : Jvm.MethodName) prog_7_method_35_code (6 : Nat) (Option.some Jvm.ClassFile.FieldType.int)) ∈ TT := TT_in 895 (by decide +kernel) (by decide +kernel)
theorem ml_L_62 : (Jvm.Cond.methodLink "ProsePagesLaw" (62 : Nat) ({ cls := "ProsePagesModel", name := "line", desc := "(II)I" } : Jvm.MethodName)) ∈ TT := TT_in 896 (by decide +kernel) (by decide +kernel)
theorem im_M_line : (Jvm.Cond.instanceMethod ({ cls := "ProsePagesModel", name := "line", desc := "(II)I" } : Jvm.MethodName)) ∈ TT := TT_in 897 (by decide +kernel) (by decide +kernel)
theorem se_M_line : (Jvm.Cond.selects "ProsePagesModel" ({ cls := "ProsePagesModel", name := "line", desc := "(II)I" } : Jvm.MethodName) ({ cls := "ProsePagesModel", name := "line", desc := "(II)I" } : Jvm.MethodName)) ∈ TT := TT_in 898 (by decide +kernel) (by decide +kernel)
theorem cd_M_line : (Jvm.Cond.code ({ cls := "ProsePagesModel", name := "line", desc := "(II)I" } : Jvm.MethodName) prog_7_method_36_code (3 : Nat) (Option.some Jvm.ClassFile.FieldType.int)) ∈ TT := TT_in 899 (by decide +kernel) (by decide +kernel)
theorem ml_L_67 : (Jvm.Cond.methodLink "ProsePagesLaw" (67 : Nat) ({ cls := "ProsePagesModel", name := "find", desc := "(I)I" } : Jvm.MethodName)) ∈ TT := TT_in 900 (by decide +kernel) (by decide +kernel)
theorem im_M_find : (Jvm.Cond.instanceMethod ({ cls := "ProsePagesModel", name := "find", desc := "(I)I" } : Jvm.MethodName)) ∈ TT := TT_in 901 (by decide +kernel) (by decide +kernel)
theorem se_M_find : (Jvm.Cond.selects "ProsePagesModel" ({ cls := "ProsePagesModel", name := "find", desc := "(I)I" } : Jvm.MethodName) ({ cls := "ProsePagesModel", name := "find", desc := "(I)I" } : Jvm.MethodName)) ∈ TT := TT_in 902 (by decide +kernel) (by decide +kernel)
theorem cd_M_find : (Jvm.Cond.code ({ cls := "ProsePagesModel", name := "find", desc := "(I)I" } : Jvm.MethodName) prog_7_method_37_code (2 : Nat) (Option.some Jvm.ClassFile.FieldType.int)) ∈ TT := TT_in 903 (by decide +kernel) (by decide +kernel)
theorem ml_L_71 : (Jvm.Cond.methodLink "ProsePagesLaw" (71 : Nat) ({ cls := "ProsePagesModel", name := "node", desc := "(II)I" } : Jvm.MethodName)) ∈ TT := TT_in 904 (by decide +kernel) (by decide +kernel)
theorem im_M_node : (Jvm.Cond.instanceMethod ({ cls := "ProsePagesModel", name := "node", desc := "(II)I" } : Jvm.MethodName)) ∈ TT := TT_in 905 (by decide +kernel) (by decide +kernel)
theorem se_M_node : (Jvm.Cond.selects "ProsePagesModel" ({ cls := "ProsePagesModel", name := "node", desc := "(II)I" } : Jvm.MethodName) ({ cls := "ProsePagesModel", name := "node", desc := "(II)I" } : Jvm.MethodName)) ∈ TT := TT_in 906 (by decide +kernel) (by decide +kernel)
theorem cd_M_node : (Jvm.Cond.code ({ cls := "ProsePagesModel", name := "node", desc := "(II)I" } : Jvm.MethodName) prog_7_method_38_code (3 : Nat) (Option.some Jvm.ClassFile.FieldType.int)) ∈ TT := TT_in 907 (by decide +kernel) (by decide +kernel)
theorem ml_L_75 : (Jvm.Cond.methodLink "ProsePagesLaw" (75 : Nat) ({ cls := "ProsePagesModel", name := "about", desc := "(I)I" } : Jvm.MethodName)) ∈ TT := TT_in 908 (by decide +kernel) (by decide +kernel)
theorem im_M_about : (Jvm.Cond.instanceMethod ({ cls := "ProsePagesModel", name := "about", desc := "(I)I" } : Jvm.MethodName)) ∈ TT := TT_in 909 (by decide +kernel) (by decide +kernel)
theorem se_M_about : (Jvm.Cond.selects "ProsePagesModel" ({ cls := "ProsePagesModel", name := "about", desc := "(I)I" } : Jvm.MethodName) ({ cls := "ProsePagesModel", name := "about", desc := "(I)I" } : Jvm.MethodName)) ∈ TT := TT_in 910 (by decide +kernel) (by decide +kernel)
theorem cd_M_about : (Jvm.Cond.code ({ cls := "ProsePagesModel", name := "about", desc := "(I)I" } : Jvm.MethodName) prog_7_method_39_code (2 : Nat) (Option.some Jvm.ClassFile.FieldType.int)) ∈ TT := TT_in 911 (by decide +kernel) (by decide +kernel)
theorem ac_long : (Jvm.Cond.arrayClass Jvm.ClassFile.FieldType.long) ∈ TT := TT_in 912 (by decide +kernel) (by decide +kernel)
theorem se_P_nodeAt : Cond.selects "ProsePages" ⟨"ProsePages", "nodeAt", "(I)LProsePages$Node;"⟩ ⟨"ProsePages", "nodeAt", "(I)LProsePages$Node;"⟩ ∈ TT := TT_in 0 (by decide +kernel) (by decide +kernel)
theorem se_P_isNodeRefused : Cond.selects "ProsePages" ⟨"ProsePages", "isNodeRefused", "()Z"⟩ ⟨"ProsePages", "isNodeRefused", "()Z"⟩ ∈ TT := TT_in 1 (by decide +kernel) (by decide +kernel)
theorem se_Th_fillInStackTrace : Cond.selects "java/lang/Throwable" ⟨"java/lang/Throwable", "fillInStackTrace", "(I)Ljava/lang/Throwable;"⟩ ⟨"java/lang/Throwable", "fillInStackTrace", "(I)Ljava/lang/Throwable;"⟩ ∈ TT := TT_in 2 (by decide +kernel) (by decide +kernel)
theorem se_P_addNode : Cond.selects "ProsePages" ⟨"ProsePages", "addNode", "(II)LProsePages$Node;"⟩ ⟨"ProsePages", "addNode", "(II)LProsePages$Node;"⟩ ∈ TT := TT_in 3 (by decide +kernel) (by decide +kernel)
theorem se_P_addCharacters : Cond.selects "ProsePages" ⟨"ProsePages", "addCharacters", "(IIIII)V"⟩ ⟨"ProsePages", "addCharacters", "(IIIII)V"⟩ ∈ TT := TT_in 4 (by decide +kernel) (by decide +kernel)
theorem se_S_holdsParagraph : Cond.selects "ProsePages$Setter" ⟨"ProsePages$Setter", "holdsParagraph", "(LProsePages$Node;)Z"⟩ ⟨"ProsePages$Setter", "holdsParagraph", "(LProsePages$Node;)Z"⟩ ∈ TT := TT_in 5 (by decide +kernel) (by decide +kernel)
theorem se_S_hasWords : Cond.selects "ProsePages$Setter" ⟨"ProsePages$Setter", "hasWords", "(II)Z"⟩ ⟨"ProsePages$Setter", "hasWords", "(II)Z"⟩ ∈ TT := TT_in 6 (by decide +kernel) (by decide +kernel)
theorem se_S_hasLines : Cond.selects "ProsePages$Setter" ⟨"ProsePages$Setter", "hasLines", "(LProsePages$Node;LProsePages$Node;)Z"⟩ ⟨"ProsePages$Setter", "hasLines", "(LProsePages$Node;LProsePages$Node;)Z"⟩ ∈ TT := TT_in 7 (by decide +kernel) (by decide +kernel)
theorem se_S_holdsLines : Cond.selects "ProsePages$Setter" ⟨"ProsePages$Setter", "holdsLines", "(LProsePages$Node;)Z"⟩ ⟨"ProsePages$Setter", "holdsLines", "(LProsePages$Node;)Z"⟩ ∈ TT := TT_in 8 (by decide +kernel) (by decide +kernel)
theorem se_S_putBetween : Cond.selects "ProsePages$Setter" ⟨"ProsePages$Setter", "putBetween", "()V"⟩ ⟨"ProsePages$Setter", "putBetween", "()V"⟩ ∈ TT := TT_in 9 (by decide +kernel) (by decide +kernel)
theorem se_S_layPart : Cond.selects "ProsePages$Setter" ⟨"ProsePages$Setter", "layPart", "(LProsePages$Node;LProsePages$Node;I)V"⟩ ⟨"ProsePages$Setter", "layPart", "(LProsePages$Node;LProsePages$Node;I)V"⟩ ∈ TT := TT_in 10 (by decide +kernel) (by decide +kernel)
theorem se_S_addHeadingSign : Cond.selects "ProsePages$Setter" ⟨"ProsePages$Setter", "addHeadingSign", "(II)V"⟩ ⟨"ProsePages$Setter", "addHeadingSign", "(II)V"⟩ ∈ TT := TT_in 11 (by decide +kernel) (by decide +kernel)
theorem se_S_addLetter : Cond.selects "ProsePages$Setter" ⟨"ProsePages$Setter", "addLetter", "(II)V"⟩ ⟨"ProsePages$Setter", "addLetter", "(II)V"⟩ ∈ TT := TT_in 12 (by decide +kernel) (by decide +kernel)
theorem se_S_putLine : Cond.selects "ProsePages$Setter" ⟨"ProsePages$Setter", "putLine", "()V"⟩ ⟨"ProsePages$Setter", "putLine", "()V"⟩ ∈ TT := TT_in 13 (by decide +kernel) (by decide +kernel)
theorem se_S_endWord : Cond.selects "ProsePages$Setter" ⟨"ProsePages$Setter", "endWord", "(I)V"⟩ ⟨"ProsePages$Setter", "endWord", "(I)V"⟩ ∈ TT := TT_in 14 (by decide +kernel) (by decide +kernel)
theorem se_S_layWords : Cond.selects "ProsePages$Setter" ⟨"ProsePages$Setter", "layWords", "(III)V"⟩ ⟨"ProsePages$Setter", "layWords", "(III)V"⟩ ∈ TT := TT_in 15 (by decide +kernel) (by decide +kernel)
theorem se_S_layRule : Cond.selects "ProsePages$Setter" ⟨"ProsePages$Setter", "layRule", "(I)V"⟩ ⟨"ProsePages$Setter", "layRule", "(I)V"⟩ ∈ TT := TT_in 16 (by decide +kernel) (by decide +kernel)
theorem se_S_layCode : Cond.selects "ProsePages$Setter" ⟨"ProsePages$Setter", "layCode", "(LProsePages$Node;I)V"⟩ ⟨"ProsePages$Setter", "layCode", "(LProsePages$Node;I)V"⟩ ∈ TT := TT_in 17 (by decide +kernel) (by decide +kernel)
theorem se_S_layQuote : Cond.selects "ProsePages$Setter" ⟨"ProsePages$Setter", "layQuote", "(LProsePages$Node;I)V"⟩ ⟨"ProsePages$Setter", "layQuote", "(LProsePages$Node;I)V"⟩ ∈ TT := TT_in 18 (by decide +kernel) (by decide +kernel)
theorem se_S_addAhead : Cond.selects "ProsePages$Setter" ⟨"ProsePages$Setter", "addAhead", "(II)V"⟩ ⟨"ProsePages$Setter", "addAhead", "(II)V"⟩ ∈ TT := TT_in 19 (by decide +kernel) (by decide +kernel)
theorem se_S_cutAhead : Cond.selects "ProsePages$Setter" ⟨"ProsePages$Setter", "cutAhead", "(I)V"⟩ ⟨"ProsePages$Setter", "cutAhead", "(I)V"⟩ ∈ TT := TT_in 20 (by decide +kernel) (by decide +kernel)
theorem se_S_layItems : Cond.selects "ProsePages$Setter" ⟨"ProsePages$Setter", "layItems", "(LProsePages$Node;I)V"⟩ ⟨"ProsePages$Setter", "layItems", "(LProsePages$Node;I)V"⟩ ∈ TT := TT_in 21 (by decide +kernel) (by decide +kernel)
theorem se_S_addSign : Cond.selects "ProsePages$Setter" ⟨"ProsePages$Setter", "addSign", "(II)V"⟩ ⟨"ProsePages$Setter", "addSign", "(II)V"⟩ ∈ TT := TT_in 22 (by decide +kernel) (by decide +kernel)
theorem se_S_addDigits : Cond.selects "ProsePages$Setter" ⟨"ProsePages$Setter", "addDigits", "(I)V"⟩ ⟨"ProsePages$Setter", "addDigits", "(I)V"⟩ ∈ TT := TT_in 23 (by decide +kernel) (by decide +kernel)
theorem se_T_isPageEndedBy : Cond.selects "ProsePages$Sheet" ⟨"ProsePages$Sheet", "isPageEndedBy", "(II)Z"⟩ ⟨"ProsePages$Sheet", "isPageEndedBy", "(II)Z"⟩ ∈ TT := TT_in 24 (by decide +kernel) (by decide +kernel)
theorem se_P_placeNodes : Cond.selects "ProsePages" ⟨"ProsePages", "placeNodes", "()V"⟩ ⟨"ProsePages", "placeNodes", "()V"⟩ ∈ TT := TT_in 25 (by decide +kernel) (by decide +kernel)
theorem se_P_pageOfNode : Cond.selects "ProsePages" ⟨"ProsePages", "pageOfNode", "(LProsePages$Node;)I"⟩ ⟨"ProsePages", "pageOfNode", "(LProsePages$Node;)I"⟩ ∈ TT := TT_in 26 (by decide +kernel) (by decide +kernel)
theorem se_M_empty : Cond.selects "ProsePagesModel" ⟨"ProsePagesModel", "empty", "()V"⟩ ⟨"ProsePagesModel", "empty", "()V"⟩ ∈ TT := TT_in 27 (by decide +kernel) (by decide +kernel)
theorem se_M_isFull : Cond.selects "ProsePagesModel" ⟨"ProsePagesModel", "isFull", "()Z"⟩ ⟨"ProsePagesModel", "isFull", "()Z"⟩ ∈ TT := TT_in 28 (by decide +kernel) (by decide +kernel)
theorem se_M_add : Cond.selects "ProsePagesModel" ⟨"ProsePagesModel", "add", "(II)I"⟩ ⟨"ProsePagesModel", "add", "(II)I"⟩ ∈ TT := TT_in 29 (by decide +kernel) (by decide +kernel)
theorem se_M_layOut : Cond.selects "ProsePagesModel" ⟨"ProsePagesModel", "layOut", "()V"⟩ ⟨"ProsePagesModel", "layOut", "()V"⟩ ∈ TT := TT_in 30 (by decide +kernel) (by decide +kernel)
theorem se_M_endNode : Cond.selects "ProsePagesModel" ⟨"ProsePagesModel", "endNode", "(I)V"⟩ ⟨"ProsePagesModel", "endNode", "(I)V"⟩ ∈ TT := TT_in 31 (by decide +kernel) (by decide +kernel)
theorem se_M_endLeaf : Cond.selects "ProsePagesModel" ⟨"ProsePagesModel", "endLeaf", "()V"⟩ ⟨"ProsePagesModel", "endLeaf", "()V"⟩ ∈ TT := TT_in 32 (by decide +kernel) (by decide +kernel)
theorem se_M_endWord : Cond.selects "ProsePagesModel" ⟨"ProsePagesModel", "endWord", "()V"⟩ ⟨"ProsePagesModel", "endWord", "()V"⟩ ∈ TT := TT_in 33 (by decide +kernel) (by decide +kernel)
theorem se_M_giveNow : Cond.selects "ProsePagesModel" ⟨"ProsePagesModel", "giveNow", "()V"⟩ ⟨"ProsePagesModel", "giveNow", "()V"⟩ ∈ TT := TT_in 34 (by decide +kernel) (by decide +kernel)
theorem se_M_giveLine : Cond.selects "ProsePagesModel" ⟨"ProsePagesModel", "giveLine", "([III)V"⟩ ⟨"ProsePagesModel", "giveLine", "([III)V"⟩ ∈ TT := TT_in 35 (by decide +kernel) (by decide +kernel)
theorem se_M_showHolders : Cond.selects "ProsePagesModel" ⟨"ProsePagesModel", "showHolders", "(I)V"⟩ ⟨"ProsePagesModel", "showHolders", "(I)V"⟩ ∈ TT := TT_in 36 (by decide +kernel) (by decide +kernel)
theorem se_M_show : Cond.selects "ProsePagesModel" ⟨"ProsePagesModel", "show", "(I)V"⟩ ⟨"ProsePagesModel", "show", "(I)V"⟩ ∈ TT := TT_in 37 (by decide +kernel) (by decide +kernel)
theorem se_M_showNumber : Cond.selects "ProsePagesModel" ⟨"ProsePagesModel", "showNumber", "(I)V"⟩ ⟨"ProsePagesModel", "showNumber", "(I)V"⟩ ∈ TT := TT_in 38 (by decide +kernel) (by decide +kernel)
theorem se_M_endLine : Cond.selects "ProsePagesModel" ⟨"ProsePagesModel", "endLine", "(Z)V"⟩ ⟨"ProsePagesModel", "endLine", "(Z)V"⟩ ∈ TT := TT_in 39 (by decide +kernel) (by decide +kernel)
theorem se_M_beginNode : Cond.selects "ProsePagesModel" ⟨"ProsePagesModel", "beginNode", "(I)V"⟩ ⟨"ProsePagesModel", "beginNode", "(I)V"⟩ ∈ TT := TT_in 40 (by decide +kernel) (by decide +kernel)
theorem se_M_beginLeaf : Cond.selects "ProsePagesModel" ⟨"ProsePagesModel", "beginLeaf", "()V"⟩ ⟨"ProsePagesModel", "beginLeaf", "()V"⟩ ∈ TT := TT_in 41 (by decide +kernel) (by decide +kernel)
theorem se_M_hold : Cond.selects "ProsePagesModel" ⟨"ProsePagesModel", "hold", "(IIIZ)V"⟩ ⟨"ProsePagesModel", "hold", "(IIIZ)V"⟩ ∈ TT := TT_in 42 (by decide +kernel) (by decide +kernel)
theorem se_M_holdsWideItem : Cond.selects "ProsePagesModel" ⟨"ProsePagesModel", "holdsWideItem", "(I)Z"⟩ ⟨"ProsePagesModel", "holdsWideItem", "(I)Z"⟩ ∈ TT := TT_in 43 (by decide +kernel) (by decide +kernel)
theorem se_M_holdsParagraph : Cond.selects "ProsePagesModel" ⟨"ProsePagesModel", "holdsParagraph", "(I)Z"⟩ ⟨"ProsePagesModel", "holdsParagraph", "(I)Z"⟩ ∈ TT := TT_in 44 (by decide +kernel) (by decide +kernel)
theorem se_M_hear : Cond.selects "ProsePagesModel" ⟨"ProsePagesModel", "hear", "(I)V"⟩ ⟨"ProsePagesModel", "hear", "(I)V"⟩ ∈ TT := TT_in 45 (by decide +kernel) (by decide +kernel)
theorem se_M_layCode : Cond.selects "ProsePagesModel" ⟨"ProsePagesModel", "layCode", "(I)V"⟩ ⟨"ProsePagesModel", "layCode", "(I)V"⟩ ∈ TT := TT_in 46 (by decide +kernel) (by decide +kernel)
theorem se_M_layPieces : Cond.selects "ProsePagesModel" ⟨"ProsePagesModel", "layPieces", "()V"⟩ ⟨"ProsePagesModel", "layPieces", "()V"⟩ ∈ TT := TT_in 47 (by decide +kernel) (by decide +kernel)
theorem se_M_paginate : Cond.selects "ProsePagesModel" ⟨"ProsePagesModel", "paginate", "()I"⟩ ⟨"ProsePagesModel", "paginate", "()I"⟩ ∈ TT := TT_in 48 (by decide +kernel) (by decide +kernel)
end
section
section KJ
variable {D : va_G} {cl : List vw_C} {A : Nat → Prop} {dom : Nat → Prop} {loc : Nat → Nat} {val : Nat → va_E} {H : Heap}
/-- a world out of its cells, one by one -/
theorem KW.intro (ks : List Nat) (hnd : ks.Nodup) (hd : ∀ k, dom k ↔ k ∈ ks) (hat : ∀ k, dom k → va_at D cl (loc k, val k) H) (hinj : ∀ k k2, dom k → dom k2 → loc k = loc k2 → k = k2) (hA : ∀ k, dom k → A (loc k)) : KW D cl A dom loc val H := by
  refine ⟨ks, hd, fun i q hq => ?_, fun i j x y hx hy hxy => ?_, fun i q hq => ?_⟩
  · obtain ⟨k, k1, rfl⟩ := kl_mem hq
    exact hat k ((hd k).mpr (List.mem_of_getElem? k1))
  · obtain ⟨k, k1, rfl⟩ := kl_mem hx
    obtain ⟨k2, k3, rfl⟩ := kl_mem hy
    have hkk : k = k2 := hinj k k2 ((hd k).mpr (List.mem_of_getElem? k1)) ((hd k2).mpr (List.mem_of_getElem? k3)) hxy
    subst hkk
    exact (List.getElem_inj hnd).mp ((List.getElem?_eq_some_iff.mp k1).2.trans (List.getElem?_eq_some_iff.mp k3).2.symm)
  · obtain ⟨k, k1, rfl⟩ := kl_mem hq
    exact hA k ((hd k).mpr (List.mem_of_getElem? k1))
theorem KW.nodup (h : KW D cl A dom loc val H) : ∃ ks : List Nat, ks.Nodup ∧ ∀ k, dom k ↔ k ∈ ks := by
  obtain ⟨ks, h1, h2, h3⟩ := h
  refine ⟨ks, List.pairwise_iff_getElem.mpr (fun i j hi hj hij he => ?_), h1⟩
  have e1 : ks[i]? = some ks[i] := List.getElem?_eq_getElem hi
  have e2 : ks[j]? = some ks[i] := by rw [he]; exact List.getElem?_eq_getElem hj
  have hc := h3.1 i j (loc ks[i], val ks[i]) (loc ks[i], val ks[i]) (by simp [kl, e1]) (by simp [kl, e2]) rfl
  omega
/-- what lies under t comes under j; what lay under j is forgotten -/
theorem KW.mv (h : KW D cl A dom loc val H) {t j : Nat} (ht : dom t) {dom2 : Nat → Prop} (hd : ∀ k, dom2 k ↔ (k = j ∨ (dom k ∧ k ≠ t))) (hjt : j ≠ t) : KW D cl A dom2 (va_up loc j (loc t)) (va_up val j (val t)) H := by
  classical
  obtain ⟨ks, hnd, hk⟩ := h.nodup
  have h2 : ∀ k, dom2 k → k ≠ j → dom k ∧ k ≠ t := fun k a b => ((hd k).mp a).resolve_left b
  refine KW.intro (j :: (ks.filter (fun k => decide (k ≠ j ∧ k ≠ t)))) (List.nodup_cons.mpr ⟨fun z => ?_, hnd.filter _⟩) (fun k => ?_) (fun k a => ?_) (fun k k2 a b e => ?_) (fun k a => ?_)
  · have := (List.mem_filter.mp z).2
    simp at this
  · rw [hd k, List.mem_cons]
    by_cases e : k = j
    · simp [e]
    · simp only [e, false_or]
      rw [List.mem_filter, ← hk k]
      simp [e]
  · by_cases e : k = j
    · rw [e, va_up_self, va_up_self]; exact h.at_ ht
    · rw [va_up_ne _ _ e, va_up_ne _ _ e]; exact h.at_ (h2 k a e).1
  · by_cases e1 : k = j
    · by_cases e2 : k2 = j
      · rw [e1, e2]
      · rw [e1, va_up_self, va_up_ne _ _ e2] at e
        exact absurd (h.inj ht (h2 k2 b e2).1 e).symm (h2 k2 b e2).2
    · by_cases e2 : k2 = j
      · rw [e2, va_up_self, va_up_ne _ _ e1] at e
        exact absurd (h.inj (h2 k a e1).1 ht e) (h2 k a e1).2
      · rw [va_up_ne _ _ e1, va_up_ne _ _ e2] at e
        exact h.inj (h2 k a e1).1 (h2 k2 b e2).1 e
  · by_cases e : k = j
    · rw [e, va_up_self]; exact h.inA ht
    · rw [va_up_ne _ _ e]; exact h.inA (h2 k a e).1
variable {X : KX} {cc : ByteArray} {nL : Nat} {own : String} {tys : List (ClassId × FieldType)} {R : Room} {cells slots pc : Nat} {lv : List (Option Value)} {st : List Value}
theorem v_mv {t j : Nat} (ht : dom t) (hjt : j ≠ t) {dom2 : Nat → Prop} (hd : ∀ k, dom2 k ↔ (k = j ∨ (dom k ∧ k ≠ t))) {loc2 : Nat → Nat} {val2 : Nat → va_E} (hl : va_up loc j (loc t) = loc2) (hv : va_up val j (val t) = val2) (kk : V X D cl A dom2 loc2 val2 cells slots pc lv st) : V X D cl A dom loc val cells slots pc lv st := fun H locs ls hW hS hlh => by
  subst hl
  subst hv
  exact kk H locs ls (hW.mv ht hd hjt) hS hlh
theorem v_mmin (hX : OX X cc nL own TT D cl tys A R) {index : Nat} {x y v : Int32} (k1 : Cond.methodLink own index Lib.Math.min.name ∈ TT) (k2 : Cond.static Lib.Math.min.name ∈ TT) (k3 : Cond.initialized "java/lang/Math" ∈ TT) (k4 : Cond.code Lib.Math.min.name Lib.Math.min.code 2 (some .int) ∈ TT) (hR : 1 ≤ R.frames ∧ 21 ≤ R.locals) (hv : (if y < x then y else x) = v) (hlv : lv.length = nL) (hst : (st.map fun v => v.category).sum ≤ 8) (hc : cells ≤ R.cells) (hs : slots ≤ R.slots) (hd : decode cc pc = .ok (.invokestatic index, 3)) (kk : V X D cl A dom loc val cells slots (pc + 3) lv (.int v :: st)) : V X D cl A dom loc val cells slots pc lv (.int y :: .int x :: st) := fun H locs ls hW hS hlh => by
  subst hv
  have hx9 := hX.2.2.2.2.2.2.2.2.1
  have hts := hX.2.2.2.2.1
  exact va_mmin hX.1 hX.2.1 (by rw [hX.2.2.1]; exact (hlh.1.trans hlv).symm) hX.2.2.2.1 (hts _ k1) (hts _ k2) (hts _ k3) (hts _ k4) (by rw [hx9]; exact hR.1) (by rw [hx9]; omega) (by rw [hx9]; exact hc) (by rw [hx9]; exact hs) hd (kk H locs ls hW hS hlh)
theorem v_mmax (hX : OX X cc nL own TT D cl tys A R) {index : Nat} {x y v : Int32} (k1 : Cond.methodLink own index Lib.Math.max.name ∈ TT) (k2 : Cond.static Lib.Math.max.name ∈ TT) (k3 : Cond.initialized "java/lang/Math" ∈ TT) (k4 : Cond.code Lib.Math.max.name Lib.Math.max.code 2 (some .int) ∈ TT) (hR : 1 ≤ R.frames ∧ 21 ≤ R.locals) (hv : (if x < y then y else x) = v) (hlv : lv.length = nL) (hst : (st.map fun v => v.category).sum ≤ 8) (hc : cells ≤ R.cells) (hs : slots ≤ R.slots) (hd : decode cc pc = .ok (.invokestatic index, 3)) (kk : V X D cl A dom loc val cells slots (pc + 3) lv (.int v :: st)) : V X D cl A dom loc val cells slots pc lv (.int y :: .int x :: st) := fun H locs ls hW hS hlh => by
  subst hv
  have hx9 := hX.2.2.2.2.2.2.2.2.1
  have hts := hX.2.2.2.2.1
  exact va_mmax hX.1 hX.2.1 (by rw [hX.2.2.1]; exact (hlh.1.trans hlv).symm) hX.2.2.2.1 (hts _ k1) (hts _ k2) (hts _ k3) (hts _ k4) (by rw [hx9]; exact hR.1) (by rw [hx9]; omega) (by rw [hx9]; exact hc) (by rw [hx9]; exact hs) hd (kk H locs ls hW hS hlh)
/-- System.arraycopy of ints, from the array under j0 to that under j1 -/
theorem v_copyi (hX : OX X cc nL own TT D cl tys A R) (j0 j1 t0 : Nat) {index : Nat} {a0 a1 : Nat} {cA : ClassId} {n0 n1 : Nat} {f g : Nat → Int32} {sp dp n : Int32} (k1 : Cond.methodLink own index arraycopyName ∈ TT) (k2 : Cond.native arraycopyName ∈ TT) (k3 : Cond.static arraycopyName ∈ TT) (k4 : Cond.initialized "java/lang/System" ∈ TT)
    (hj0 : dom j0) (ha0 : loc j0 = a0) (he0 : val j0 = .inl (cA, n0, .inl f)) (hj1 : dom j1) (ha1 : loc j1 = a1) (he1 : val j1 = .inl (cA, n1, .inl g)) (ht : tys[t0]? = some (cA, .int)) (h1 : ¬ sp < 0) (h2 : ¬ dp < 0) (h3 : ¬ n < 0) (h4 : sp.toNatClampNeg + n.toNatClampNeg ≤ n0) (h5 : dp.toNatClampNeg + n.toNatClampNeg ≤ n1)
    (hR : 1 ≤ R.frames ∧ 8 + (nativeFrameWords "java/lang/System" "arraycopy" 5 + 11) ≤ R.locals) (hlv : lv.length = nL) (hst : (st.map fun v => v.category).sum ≤ 8) (hd : decode cc pc = .ok (.invokestatic index, 3))
    (kk : V X D cl A dom loc (va_up val j1 (.inl (cA, n1, .inl (va_cpy f g sp.toNatClampNeg dp.toNatClampNeg n.toNatClampNeg)))) cells slots (pc + 3) lv st) : V X D cl A dom loc val cells slots pc lv (.int n :: .int dp :: .ref a1 :: .int sp :: .ref a0 :: st) := fun H locs ls hW hS hlh => by
  subst ha0
  subst ha1
  have hx9 := hX.2.2.2.2.2.2.2.2.1
  have hts := hX.2.2.2.2.1
  obtain ⟨ks, g1, hP, hD⟩ := hW
  obtain ⟨q0, i1, i2⟩ := kl_get (loc := loc) (val := val) ((g1 j0).mp hj0)
  obtain ⟨q1, m1, m2⟩ := kl_get (loc := loc) (val := val) ((g1 j1).mp hj1)
  refine va_copyi hX.1 hX.2.1 (by rw [hX.2.2.1]; exact (hlh.1.trans hlv).symm) hX.2.2.2.1 (hts _ k1) (hts _ k2) (hts _ k3) (hts _ k4) hX.2.2.2.2.2.1 hP hD hS q0 q1 t0 t0 (by rw [i2, he0]) (by rw [m2, he1]) ht ht rfl h1 h2 h3 h4 h5 (fun i _ => rfl) (by rw [hx9]; exact hR.1) (by rw [hx9]; omega) hd (fun H1 locs1 hP1 hD1 hS1 => ?_)
  rw [kl_set hD m1] at hP1 hD1
  exact kk H1 locs1 ls ⟨ks, g1, hP1, hD1⟩ hS1 hlh
end KJ
end
section
section KRw
abbrev b_A_copyOf : ByteArray := prog_17_method_123_code
abbrev y_A_copyOf : MethodName := ⟨"java/util/Arrays", "copyOf", "([II)[I"⟩
theorem q_A_copyOf : KQd y_A_copyOf 2 := by decide +kernel
theorem d_A_copyOf_0 : decode b_A_copyOf 0 = .ok (.iload_n 1, 1) := by decide +kernel
theorem d_A_copyOf_1 : decode b_A_copyOf 1 = .ok (.aload_n 0, 1) := by decide +kernel
theorem d_A_copyOf_2 : decode b_A_copyOf 2 = .ok (.arraylength, 1) := by decide +kernel
theorem d_A_copyOf_3 : decode b_A_copyOf 3 = .ok (.if_icmp .ne 11, 3) := by decide +kernel
theorem d_A_copyOf_14 : decode b_A_copyOf 14 = .ok (.iload_n 1, 1) := by decide +kernel
theorem d_A_copyOf_15 : decode b_A_copyOf 15 = .ok (.newarray .int, 2) := by decide +kernel
theorem d_A_copyOf_17 : decode b_A_copyOf 17 = .ok (.astore_n 2, 1) := by decide +kernel
theorem d_A_copyOf_18 : decode b_A_copyOf 18 = .ok (.aload_n 0, 1) := by decide +kernel
theorem d_A_copyOf_19 : decode b_A_copyOf 19 = .ok (.iconst 0, 1) := by decide +kernel
theorem d_A_copyOf_20 : decode b_A_copyOf 20 = .ok (.aload_n 2, 1) := by decide +kernel
theorem d_A_copyOf_21 : decode b_A_copyOf 21 = .ok (.iconst 0, 1) := by decide +kernel
theorem d_A_copyOf_22 : decode b_A_copyOf 22 = .ok (.aload_n 0, 1) := by decide +kernel
theorem d_A_copyOf_23 : decode b_A_copyOf 23 = .ok (.arraylength, 1) := by decide +kernel
theorem d_A_copyOf_24 : decode b_A_copyOf 24 = .ok (.iload_n 1, 1) := by decide +kernel
theorem d_A_copyOf_25 : decode b_A_copyOf 25 = .ok (.invokestatic 304, 3) := by decide +kernel
theorem d_A_copyOf_28 : decode b_A_copyOf 28 = .ok (.invokestatic 150, 3) := by decide +kernel
theorem d_A_copyOf_31 : decode b_A_copyOf 31 = .ok (.aload_n 2, 1) := by decide +kernel
theorem d_A_copyOf_32 : decode b_A_copyOf 32 = .ok (.areturn, 1) := by decide +kernel
theorem k_mincode : Cond.code Lib.Math.min.name Lib.Math.min.code 2 (some .int) ∈ TT := cd_H_min
theorem k_cpynat : Cond.native arraycopyName ∈ TT := List.mem_filter.mpr ⟨by decide +kernel, by decide +kernel⟩
variable {l : Launch} {D : va_G} {cl : List vw_C} {tys : List (ClassId × FieldType)} {A : Nat → Prop} {dom : Nat → Prop} {loc : Nat → Nat} {val : Nat → va_E} {Post : kT} {cc : ByteArray} {X : KX} {nL : Nat} {own : String} {R : Room} {cells slots pc : Nat} {lv : List (Option Value)} {st : List Value} {mc ms : Nat}
/-- invokestatic of another class's method -/
theorem c_SO (hX : OX X cc nL own TT D cl tys A R) {y : MethodName} {rm : Room} {bytes : ByteArray} {maxL n index : Nat} {ret : Option FieldType} {As rest st0 : List Value} (hl9 : X.2.1 = l) (hM : kM l y (Cond.code y bytes maxL ret :: TT) rm D cl tys A As dom loc val Post)
    (k1 : Cond.methodLink own index y ∈ TT) (k2 : Cond.static y ∈ TT) (k4 : Cond.initialized y.cls ∈ TT) (k5 : Cond.code y bytes maxL ret ∈ TT) (hq : KQd y n) (hR : KRm rm maxL R)
    (hn : As.length = n) (hlv : lv.length = nL) (hst : As.reverse ++ rest = st0) (hroom : (rest.map fun v => v.category).sum ≤ 8) (hd : decode cc pc = .ok (.invokestatic index, 3)) (hf : cells + rm.cells ≤ R.cells ∧ slots + rm.slots ≤ R.slots)
    (kk : KC X D cl A Post cells slots pc lv rest) : V X D cl A dom loc val cells slots pc lv st0 := by
  subst hst
  have hx9 := hX.2.2.2.2.2.2.2.2.1
  have hts := hX.2.2.2.2.1
  exact v_callS hX hl9 hM ⟨callB_of n hts (TT_good k5) rfl rfl rfl (hts _ k4) (hts _ k1) hq (by rw [hx9]; exact hR), hts _ k2⟩ hn hlv hroom hd hf kk
theorem v_aretA (hX : OX X cc nL own TT D cl tys A R) {ty : FieldType} (hE : EX X (some (.array ty)) D cl A Post mc ms) {a : Nat} (hd : decode cc pc = .ok (.areturn, 1)) (hc : cells ≤ mc) (hs : slots ≤ ms) (hp : Post (some (.ref a)) dom loc val cells slots) : V X D cl A dom loc val cells slots pc lv [.ref a] := fun H locs ls hW hS hl => by
  intro T hT Z
  obtain ⟨t9, a9, b9⟩ := W.widen hc hs (W.aret hX.1 hX.2.1 hE.1 (Or.inr ⟨ty, rfl⟩) (Or.inr ⟨a, rfl⟩) (k_q hW hS hT Z hp) hS.2.2 hd hX.2.2.2.2.2.2.2.1) T hT Z
  exact ⟨t9, a9, hE.2 t9 b9⟩
/-- Arrays.copyOf to a length that is no smaller: the copy under the key 2000 -/
abbrev rmC : Room := { frames := 8, cells := 10, slots := 700000, locals := 200 }
set_option maxHeartbeats 4000000 in
set_option maxRecDepth 100000 in
theorem c_A_copyOf {cI cB cZ cJ cN : ClassId} (ja cap m : Nat) {f : Nat → Int32} (hj : dom ja) (hne : ja ≠ 2000) (hv : val ja = .inl (cI, cap, .inl f)) (h1 : cap < m) (h2 : m ≤ 640000) :
    kM l y_A_copyOf (Cond.code y_A_copyOf b_A_copyOf 3 (some (.array .int)) :: TT) rmC D CL (TY cI cB cZ cJ cN) A [.ref (loc ja), .int (nI m)] dom loc val (fun rv d lo va kc ns => ∃ q g, rv = some (.ref q) ∧ (fun k => k = 2000 ∨ dom k) = d ∧ va_up loc 2000 q = lo ∧ va_up val 2000 (.inl (cI, m, .inl g)) = va ∧ kc = 1 ∧ ns = m) := by
  refine kM_of (lv0 := [some (.ref (loc ja)), some (.int (nI m)), none]) (own := "java/util/Arrays") (by decide) rfl (List.forall_mem_cons.mpr ⟨rfl, List.forall_mem_cons.mpr ⟨rfl, fun _ h => nomatch h⟩⟩) (Nat.le_of_ble_eq_true rfl) rfl (Nat.le_of_ble_eq_true rfl) (fun X hl hX hE hin0 => ?_)
  refine v_iload_n hX d_A_copyOf_0 rfl rfl ?_
  refine v_aload_n hX d_A_copyOf_1 rfl rfl ?_
  refine v_alen hX ja 0 (v := nI cap) hj rfl hv rfl rfl d_A_copyOf_2 ?_
  refine v_icmp_ne hX d_A_copyOf_3 (tgt := 14) (by decide) (fun _ => ?_) (fun c => absurd ((nI_eq (by omega) (by omega)).mp c) (by omega))
  refine v_iload_n hX d_A_copyOf_14 rfl rfl ?_
  refine v_newp hX 2000 0 (fun k => k = 2000 ∨ dom k) (N := m) (ty := .int) (m, .inl (fun _ => 0)) rfl (fun _ => rfl) (fun _ h => h) ac_int rfl (nI_pos (by omega)) (nI_clamp (by omega)) (by show m * 4 ≤ _; omega) (Nat.le_of_ble_eq_true rfl) (by show 0 + m ≤ 700000; omega) d_A_copyOf_15 (fun _ h => h) (Or.inl rfl) (fun q => ?_)
  refine v_astore_n (lv' := [some (.ref (loc ja)), some (.int (nI m)), some (.ref q)]) hX d_A_copyOf_17 rfl (Nat.le_of_ble_eq_true rfl) rfl ?_
  refine v_aload_n hX d_A_copyOf_18 rfl rfl ?_
  refine v_iconst (v := 0) hX d_A_copyOf_19 (by decide) ?_
  refine v_aload_n hX d_A_copyOf_20 rfl rfl ?_
  refine v_iconst (v := 0) hX d_A_copyOf_21 (by decide) ?_
  refine v_aload_n hX d_A_copyOf_22 rfl rfl ?_
  refine v_alen hX ja 0 (v := nI cap) (Or.inr hj) (kup_ne hne rfl) (kup_ne hne hv) rfl rfl d_A_copyOf_23 ?_
  refine v_iload_n hX d_A_copyOf_24 rfl rfl ?_
  refine v_mmin hX (v := nI cap) ml_A_304 sm_H_min in_H k_mincode ⟨by decide, by decide⟩ (if_neg (nI_nlt (Nat.le_of_lt h1) (by omega))) rfl (Nat.le_of_ble_eq_true rfl) (Nat.le_of_ble_eq_true rfl) (by show 0 + m ≤ 700000; omega) d_A_copyOf_25 ?_
  refine v_copyi hX ja 2000 0 ml_A_150 k_cpynat sm_Y_arraycopy in_Y (Or.inr hj) (kup_ne hne rfl) (kup_ne hne hv) (Or.inl rfl) kup_self kup_self rfl (by decide) (by decide) (nI_pos (by omega)) (by rw [nI_clamp (by omega)]; show (0 : Nat) + cap ≤ cap; omega) (by rw [nI_clamp (by omega)]; show (0 : Nat) + cap ≤ m; omega) ⟨by decide, by decide⟩ rfl (Nat.le_of_ble_eq_true rfl) d_A_copyOf_28 ?_
  refine v_aload_n hX d_A_copyOf_31 rfl rfl ?_
  exact v_aretA hX hE d_A_copyOf_32 (Nat.le_of_ble_eq_true rfl) (by show 0 + m ≤ 700000; omega) ⟨q, _, rfl, rfl, rfl, kup_up.symm, rfl, Nat.zero_add m⟩
/-- a Row under j, its array under j + 1 -/
def rowOK (cI : ClassId) (loc : Nat → Nat) (val : Nat → va_E) (j sz cap : Nat) : Prop := ∃ f, val j = .inr (1, [.ref (loc (j + 1)), .int (nI sz)]) ∧ val (j + 1) = .inl (cI, cap, .inl f) ∧ sz ≤ cap ∧ 16 ≤ cap ∧ cap ≤ 640000
/-- all but the Row under j is as it was -/
def frR (j : Nat) (loc : Nat → Nat) (val : Nat → va_E) (lo : Nat → Nat) (va : Nat → va_E) : Prop := lo j = loc j ∧ ∀ k, k ≠ j → k ≠ j + 1 → k ≠ 2000 → lo k = loc k ∧ va k = val k
theorem frR.rf {j : Nat} {loc : Nat → Nat} {val : Nat → va_E} : frR j loc val loc val := ⟨rfl, fun _ _ _ _ => ⟨rfl, rfl⟩⟩
theorem c_R_size {cI cB cZ cJ cN : ClassId} (j sz cap : Nat) (hj : dom j) (h : rowOK cI loc val j sz cap) : kM l y_R_size (Cond.code y_R_size b_R_size 1 (some FieldType.int) :: TT) (rmL 1) D CL (TY cI cB cZ cJ cN) A [.ref (loc j)] dom loc val (fun rv d lo va kc ns => rv = some (.int (nI sz)) ∧ dom = d ∧ loc = lo ∧ val = va ∧ kc = 0 ∧ ns = 0) := by
  obtain ⟨f, h1, -⟩ := h
  refine kM_of (lv0 := [some (.ref (loc j))]) (own := "ProsePages$Row") (by decide) rfl (List.forall_mem_cons.mpr ⟨rfl, fun _ h => nomatch h⟩) (Nat.le_of_ble_eq_true rfl) rfl (Nat.le_of_ble_eq_true rfl) (fun X hl hX hE hin0 => ?_)
  refine v_aload_n hX d_R_size_0 rfl rfl ?_
  refine v_get hX j (v := .int (nI sz)) inT1 hj rfl h1 rfl 1 (by decide) fl_R_15 rfl rfl d_R_size_1 ?_
  exact v_iret hX hE d_R_size_4 (Nat.le_of_ble_eq_true rfl) (Nat.le_of_ble_eq_true rfl) ⟨rfl, rfl, rfl, rfl, rfl, rfl⟩
set_option maxHeartbeats 4000000 in
set_option maxRecDepth 100000 in
/-- Row.get: some number, nothing written -/
theorem c_R_get {cI cB cZ cJ cN : ClassId} (j sz cap : Nat) (x : Int32) (hj : dom j) (hj2 : dom (j + 1)) (h : rowOK cI loc val j sz cap) : kM l y_R_get (Cond.code y_R_get b_R_get 2 (some FieldType.int) :: TT) (rmL 1) D CL (TY cI cB cZ cJ cN) A [.ref (loc j), .int x] dom loc val (fun rv d lo va kc ns => (∃ v, rv = some (.int v)) ∧ dom = d ∧ loc = lo ∧ val = va ∧ kc = 0 ∧ ns = 0) := by
  obtain ⟨f, h1, h2, h3, h4, h5⟩ := h
  refine kM_of (lv0 := [some (.ref (loc j)), some (.int x)]) (own := "ProsePages$Row") (by decide) rfl (List.forall_mem_cons.mpr ⟨rfl, List.forall_mem_cons.mpr ⟨rfl, fun _ h => nomatch h⟩⟩) (Nat.le_of_ble_eq_true rfl) rfl (Nat.le_of_ble_eq_true rfl) (fun X hl hX hE hin0 => ?_)
  have out : V X D CL A dom loc val 0 0 30 [some (.ref (loc j)), some (.int x)] [] := by
    refine v_iconst (v := -1) hX d_R_get_30 (by decide) ?_
    exact v_iret hX hE d_R_get_31 (Nat.le_of_ble_eq_true rfl) (Nat.le_of_ble_eq_true rfl) ⟨⟨_, rfl⟩, rfl, rfl, rfl, rfl, rfl⟩
  refine v_iload_n hX d_R_get_0 rfl rfl ?_
  refine v_if_lt hX d_R_get_1 (tgt := 30) (by decide) (fun _ => out) (fun c1 => ?_)
  refine v_iload_n hX d_R_get_4 rfl rfl ?_
  refine v_aload_n hX d_R_get_5 rfl rfl ?_
  refine v_get hX j (v := .int (nI sz)) inT1 hj rfl h1 rfl 1 (by decide) fl_R_15 rfl rfl d_R_get_6 ?_
  refine v_icmp_ge hX d_R_get_9 (tgt := 30) (by decide) (fun _ => out) (fun c2 => ?_)
  refine v_iload_n hX d_R_get_12 rfl rfl ?_
  refine v_aload_n hX d_R_get_13 rfl rfl ?_
  refine v_get hX j (v := .ref (loc (j + 1))) inT1 hj rfl h1 rfl 0 (by decide) fl_R_9 rfl rfl d_R_get_14 ?_
  refine v_alen hX (j + 1) 0 (v := nI cap) hj2 rfl h2 rfl rfl d_R_get_17 ?_
  refine v_icmp_ge hX d_R_get_18 (tgt := 30) (by decide) (fun _ => out) (fun c3 => ?_)
  refine v_aload_n hX d_R_get_21 rfl rfl ?_
  refine v_get hX j (v := .ref (loc (j + 1))) inT1 hj rfl h1 rfl 0 (by decide) fl_R_9 rfl rfl d_R_get_22 ?_
  refine v_iload_n hX d_R_get_25 rfl rfl ?_
  obtain ⟨i, hi, rfl⟩ := nI_of c1
  have hic : i < cap := (nI_ltI hi (by omega)).mp (Int32.not_le.mp c3)
  refine v_iald hX (j + 1) 0 hj2 rfl h2 rfl (vp_in_nI hic (by omega)) rfl d_R_get_26 ?_
  refine v_goto hX d_R_get_27 (tgt := 31) (by decide) ?_
  exact v_iret hX hE d_R_get_31 (Nat.le_of_ble_eq_true rfl) (Nat.le_of_ble_eq_true rfl) ⟨⟨_, rfl⟩, rfl, rfl, rfl, rfl, rfl⟩
set_option maxHeartbeats 4000000 in
set_option maxRecDepth 100000 in
/-- Row.set -/
theorem c_R_set {cI cB cZ cJ cN : ClassId} (j sz cap : Nat) (x y : Int32) (hj : dom j) (hj2 : dom (j + 1)) (h : rowOK cI loc val j sz cap) : kM l y_R_set (Cond.code y_R_set b_R_set 3 none :: TT) (rmL 1) D CL (TY cI cB cZ cJ cN) A [.ref (loc j), .int x, .int y] dom loc val (fun rv d lo va kc ns => rv = none ∧ dom = d ∧ rowOK cI lo va j sz cap ∧ frR j loc val lo va ∧ kc = 0 ∧ ns = 0) := by
  have h0 := h
  obtain ⟨f, h1, h2, h3, h4, h5⟩ := h
  refine kM_of (lv0 := [some (.ref (loc j)), some (.int x), some (.int y)]) (own := "ProsePages$Row") (by decide) rfl (List.forall_mem_cons.mpr ⟨rfl, List.forall_mem_cons.mpr ⟨rfl, List.forall_mem_cons.mpr ⟨rfl, fun _ h => nomatch h⟩⟩⟩) (Nat.le_of_ble_eq_true rfl) rfl (Nat.le_of_ble_eq_true rfl) (fun X hl hX hE hin0 => ?_)
  have out : V X D CL A dom loc val 0 0 28 [some (.ref (loc j)), some (.int x), some (.int y)] [] := v_vret hX hE d_R_set_28 (Nat.le_of_ble_eq_true rfl) (Nat.le_of_ble_eq_true rfl) ⟨rfl, rfl, h0, frR.rf, rfl, rfl⟩
  refine v_iload_n hX d_R_set_0 rfl rfl ?_
  refine v_if_lt hX d_R_set_1 (tgt := 28) (by decide) (fun _ => out) (fun c1 => ?_)
  refine v_iload_n hX d_R_set_4 rfl rfl ?_
  refine v_aload_n hX d_R_set_5 rfl rfl ?_
  refine v_get hX j (v := .int (nI sz)) inT1 hj rfl h1 rfl 1 (by decide) fl_R_15 rfl rfl d_R_set_6 ?_
  refine v_icmp_ge hX d_R_set_9 (tgt := 28) (by decide) (fun _ => out) (fun c2 => ?_)
  refine v_iload_n hX d_R_set_12 rfl rfl ?_
  refine v_aload_n hX d_R_set_13 rfl rfl ?_
  refine v_get hX j (v := .ref (loc (j + 1))) inT1 hj rfl h1 rfl 0 (by decide) fl_R_9 rfl rfl d_R_set_14 ?_
  refine v_alen hX (j + 1) 0 (v := nI cap) hj2 rfl h2 rfl rfl d_R_set_17 ?_
  refine v_icmp_ge hX d_R_set_18 (tgt := 28) (by decide) (fun _ => out) (fun c3 => ?_)
  refine v_aload_n hX d_R_set_21 rfl rfl ?_
  refine v_get hX j (v := .ref (loc (j + 1))) inT1 hj rfl h1 rfl 0 (by decide) fl_R_9 rfl rfl d_R_set_22 ?_
  refine v_iload_n hX d_R_set_25 rfl rfl ?_
  refine v_iload_n hX d_R_set_26 rfl rfl ?_
  obtain ⟨i, hi, rfl⟩ := nI_of c1
  have hic : i < cap := (nI_ltI hi (by omega)).mp (Int32.not_le.mp c3)
  refine v_iast hX (j + 1) 0 hj2 rfl h2 rfl (vp_in_nI hic (by omega)) d_R_set_27 ?_
  exact v_vret hX hE d_R_set_28 (Nat.le_of_ble_eq_true rfl) (Nat.le_of_ble_eq_true rfl) ⟨rfl, rfl, ⟨_, kup_ne (by omega) h1, kup_self, h3, h4, h5⟩, ⟨rfl, fun k _ a _ => ⟨rfl, va_up_ne _ _ a⟩⟩, rfl, rfl⟩
set_option maxHeartbeats 4000000 in
set_option maxRecDepth 100000 in
/-- Row.cut to a length -/
theorem c_R_cut {cI cB cZ cJ cN : ClassId} (j sz cap m : Nat) (hm : m < 2 ^ 31) (hj : dom j) (h : rowOK cI loc val j sz cap) : kM l y_R_cut (Cond.code y_R_cut b_R_cut 2 none :: TT) (rmL 1) D CL (TY cI cB cZ cJ cN) A [.ref (loc j), .int (nI m)] dom loc val (fun rv d lo va kc ns => rv = none ∧ dom = d ∧ rowOK cI lo va j (min m sz) cap ∧ frR j loc val lo va ∧ kc = 0 ∧ ns = 0) := by
  have h0 := h
  obtain ⟨f, h1, h2, h3, h4, h5⟩ := h
  refine kM_of (lv0 := [some (.ref (loc j)), some (.int (nI m))]) (own := "ProsePages$Row") (by decide) rfl (List.forall_mem_cons.mpr ⟨rfl, List.forall_mem_cons.mpr ⟨rfl, fun _ h => nomatch h⟩⟩) (Nat.le_of_ble_eq_true rfl) rfl (Nat.le_of_ble_eq_true rfl) (fun X hl hX hE hin0 => ?_)
  refine v_iload_n hX d_R_cut_0 rfl rfl ?_
  refine v_if_lt hX d_R_cut_1 (tgt := 17) (by decide) (fun c => absurd c (nI_pos hm)) (fun _ => ?_)
  refine v_iload_n hX d_R_cut_4 rfl rfl ?_
  refine v_aload_n hX d_R_cut_5 rfl rfl ?_
  refine v_get hX j (v := .int (nI sz)) inT1 hj rfl h1 rfl 1 (by decide) fl_R_15 rfl rfl d_R_cut_6 ?_
  refine v_icmp_ge hX d_R_cut_9 (tgt := 17) (by decide) (fun c2 => ?_) (fun c2 => ?_)
  · have hle : sz ≤ m := (nI_leI (by omega) hm).mp c2
    exact v_vret hX hE d_R_cut_17 (Nat.le_of_ble_eq_true rfl) (Nat.le_of_ble_eq_true rfl) ⟨rfl, rfl, by rw [Nat.min_eq_right hle]; exact h0, frR.rf, rfl, rfl⟩
  · have hlt : m < sz := (nI_ltI hm (by omega)).mp (Int32.not_le.mp c2)
    refine v_aload_n hX d_R_cut_12 rfl rfl ?_
    refine v_iload_n hX d_R_cut_13 rfl rfl ?_
    refine v_putE hX j (fs2 := [.ref (loc (j + 1)), .int (nI m)]) inT1 tyX1 tyX1_ok nmX1 hj rfl h1 rfl 1 (by decide) fl_R_15 rfl rfl rfl rfl rfl (Nat.le_of_ble_eq_true rfl) d_R_cut_14 rfl ?_
    exact v_vret hX hE d_R_cut_17 (Nat.le_of_ble_eq_true rfl) (Nat.le_of_ble_eq_true rfl) ⟨rfl, rfl, by rw [Nat.min_eq_left (Nat.le_of_lt hlt)]; exact ⟨f, kup_self, kup_ne (by omega) h2, by omega, h4, h5⟩, ⟨rfl, fun k a _ _ => ⟨rfl, va_up_ne _ _ a⟩⟩, rfl, rfl⟩
end KRw
end
section
section KRx
variable {l : Launch} {D : va_G} {A : Nat → Prop} {dom : Nat → Prop} {loc : Nat → Nat} {val : Nat → va_E} {cI cB cZ cJ cN : ClassId}
abbrev rmR : Room := { frames := 17, cells := 20, slots := 700000, locals := 500 }
theorem nI_mul2 (a : Nat) : nI a * 2 = nI (a * 2) := (Int32.ofNat_mul a 2).symm
/-- how a Row grows: what was made is paid by twice the array's length -/
def grown (cap cap' kc ns : Nat) : Prop := cap ≤ cap' ∧ ns + 2 * cap ≤ 2 * cap' ∧ 16 * kc + 2 * cap ≤ 2 * cap'
abbrev PAdd (cI : ClassId) (dom : Nat → Prop) (loc : Nat → Nat) (val : Nat → va_E) (j cap sz' mx : Nat) : kT := fun rv d lo va kc ns => rv = none ∧ dom = d ∧ (∃ cap', rowOK cI lo va j sz' cap' ∧ cap' ≤ 2 * mx ∧ grown cap cap' kc ns) ∧ frR j loc val lo va
/-- behind Arrays.copyOf and the put of its copy: the copy is the Row's array -/
theorem row_mv {X : KX} {cl : List vw_C} {cells slots pc : Nat} {lv : List (Option Value)} {st : List Value} (j q : Nat) (e : va_E) (fs : va_E) (hj2 : dom (j + 1)) (hj3 : j + 1 < 2000) (hn : ¬ dom 2000)
    (kk : ∀ (lo : Nat → Nat) (va : Nat → va_E), lo (j + 1) = q → lo j = loc j → va j = fs → va (j + 1) = e → (∀ k, k ≠ j → k ≠ j + 1 → k ≠ 2000 → lo k = loc k ∧ va k = val k) → V X D cl A dom lo va cells slots pc lv st) : V X D cl A (fun k => k = 2000 ∨ dom k) (va_up loc 2000 q) (va_up (va_up val 2000 e) j fs) cells slots pc lv st := by
  refine v_mv (t := 2000) (j := j + 1) (Or.inl rfl) (by omega) (dom2 := dom) (fun k => ⟨fun h => Or.inr ⟨Or.inr h, fun z => hn (z ▸ h)⟩, fun h => h.elim (fun z => z ▸ hj2) (fun z => z.1.resolve_left z.2)⟩) rfl rfl ?_
  refine kk _ _ (kup_self.trans kup_self) (kup_ne (by omega) (kup_ne (by omega) rfl)) (kup_ne (by omega) kup_self) (kup_self.trans (kup_ne (by omega) kup_self)) (fun k h1 h2 h3 => ⟨kup_ne h2 (kup_ne h3 rfl), kup_ne h2 (kup_ne h1 (kup_ne h3 rfl))⟩)
set_option maxHeartbeats 4000000 in
set_option maxRecDepth 100000 in
theorem c_R_add (j sz cap mx : Nat) (x : Int32) (hj : dom j) (hj2 : dom (j + 1)) (hj3 : j + 1 < 2000) (hn : ¬ dom 2000) (h : rowOK cI loc val j sz cap) (hm : sz + 1 ≤ mx) (hc : cap ≤ 2 * mx) (hx : 2 * mx ≤ 640000) :
    kM l y_R_add (Cond.code y_R_add b_R_add 2 none :: TT) rmR D CL (TY cI cB cZ cJ cN) A [.ref (loc j), .int x] dom loc val (PAdd cI dom loc val j cap (sz + 1) mx) := by
  obtain ⟨f, h1, h2, h3, h4, h5⟩ := h
  refine kM_of (lv0 := [some (.ref (loc j)), some (.int x)]) (own := "ProsePages$Row") (by decide) rfl (List.forall_mem_cons.mpr ⟨rfl, List.forall_mem_cons.mpr ⟨rfl, fun _ h => nomatch h⟩⟩) (Nat.le_of_ble_eq_true rfl) rfl (Nat.le_of_ble_eq_true rfl) (fun X hl hX hE hin0 => ?_)
  have tail : ∀ (lo : Nat → Nat) (va : Nat → va_E) (c1 s1 cap1 : Nat) (f1 : Nat → Int32), lo j = loc j → va j = .inr (1, [.ref (lo (j + 1)), .int (nI sz)]) → va (j + 1) = .inl (cI, cap1, .inl f1) → sz < cap1 → cap1 ≤ 2 * mx → (∀ k, k ≠ j → k ≠ j + 1 → k ≠ 2000 → lo k = loc k ∧ va k = val k) → grown cap cap1 c1 s1 → c1 ≤ 20 → s1 ≤ 700000 → V X D CL A dom lo va c1 s1 29 [some (.ref (loc j)), some (.int x)] [] := by
    intro lo va c1 s1 cap1 f1 e1 g1 g2 hs1 hm1 hfr hg hc1 hs
    refine v_aload_n hX d_R_add_29 rfl rfl ?_
    refine v_get hX j (v := .ref (lo (j + 1))) inT1 hj e1 g1 rfl 0 (by decide) fl_R_9 rfl rfl d_R_add_30 ?_
    refine v_aload_n hX d_R_add_33 rfl rfl ?_
    refine v_get hX j (v := .int (nI sz)) inT1 hj e1 g1 rfl 1 (by decide) fl_R_15 rfl rfl d_R_add_34 ?_
    refine v_iload_n hX d_R_add_37 rfl rfl ?_
    refine v_iast hX (j + 1) 0 hj2 rfl g2 rfl (vp_in_nI hs1 (by omega)) d_R_add_38 ?_
    refine v_aload_n hX d_R_add_39 rfl rfl ?_
    refine v_dup hX d_R_add_40 rfl ?_
    refine v_get hX j (v := .int (nI sz)) inT1 hj e1 (kup_ne (by omega) g1) rfl 1 (by decide) fl_R_15 rfl rfl d_R_add_41 ?_
    refine v_iconst (v := 1) hX d_R_add_44 (by decide) ?_
    refine v_iaddE (v := nI (sz + 1)) hX d_R_add_45 (nI_1 sz) ?_
    refine v_putE hX j (fs2 := [.ref (lo (j + 1)), .int (nI (sz + 1))]) inT1 tyX1 tyX1_ok nmX1 hj e1 (kup_ne (by omega) g1) rfl 1 (by decide) fl_R_15 rfl rfl rfl rfl rfl (Nat.le_of_ble_eq_true rfl) d_R_add_46 rfl ?_
    exact v_vret hX hE d_R_add_49 hc1 hs ⟨rfl, rfl, ⟨cap1, ⟨_, kup_self, kup_ne (by omega) kup_self, hs1, by have := hg.1; omega, by omega⟩, hm1, hg⟩, e1, fun k a b c => ⟨(hfr k a b c).1, kup_ne a (kup_ne b (hfr k a b c).2)⟩⟩
  refine v_aload_n hX d_R_add_0 rfl rfl ?_
  refine v_get hX j (v := .int (nI sz)) inT1 hj rfl h1 rfl 1 (by decide) fl_R_15 rfl rfl d_R_add_1 ?_
  refine v_aload_n hX d_R_add_4 rfl rfl ?_
  refine v_get hX j (v := .ref (loc (j + 1))) inT1 hj rfl h1 rfl 0 (by decide) fl_R_9 rfl rfl d_R_add_5 ?_
  refine v_alen hX (j + 1) 0 (v := nI cap) hj2 rfl h2 rfl rfl d_R_add_8 ?_
  refine v_icmp_lt hX d_R_add_9 (tgt := 29) (by decide) (fun c => ?_) (fun c => ?_)
  · have hlt : sz < cap := (nI_ltI (by omega) (by omega)).mp c
    exact tail loc val 0 0 cap f rfl h1 h2 hlt hc (fun k _ _ _ => ⟨rfl, rfl⟩) ⟨Nat.le_refl _, by omega, by omega⟩ (by omega) (by omega)
  · have hge : cap ≤ sz := Nat.le_of_not_lt (fun z => c (nI_lt z (by omega)))
    refine v_aload_n hX d_R_add_12 rfl rfl ?_
    refine v_aload_n hX d_R_add_13 rfl rfl ?_
    refine v_get hX j (v := .ref (loc (j + 1))) inT1 hj rfl h1 rfl 0 (by decide) fl_R_9 rfl rfl d_R_add_14 ?_
    refine v_aload_n hX d_R_add_17 rfl rfl ?_
    refine v_get hX j (v := .int (nI sz)) inT1 hj rfl h1 rfl 1 (by decide) fl_R_15 rfl rfl d_R_add_18 ?_
    refine v_iconst (v := 2) hX d_R_add_21 (by decide) ?_
    refine v_imulE (v := nI (sz * 2)) hX d_R_add_22 (nI_mul2 sz) ?_
    refine c_SO hX (rest := [.ref (loc j)]) hl (c_A_copyOf (j + 1) cap (sz * 2) hj2 (by omega) h2 (by omega) (by omega)) ml_R_19 sm_A_copyOf in_A cd_A_copyOf q_A_copyOf ⟨Nat.le_of_ble_eq_true rfl, Nat.le_of_ble_eq_true rfl⟩ rfl rfl rfl (Nat.le_of_ble_eq_true rfl) d_R_add_23 ⟨Nat.le_of_ble_eq_true rfl, Nat.le_of_ble_eq_true rfl⟩ (fun rv d2 lo2 va2 kc ns hp => ?_)
    obtain ⟨q, g, rfl, rfl, rfl, rfl, rfl, rfl⟩ := hp
    show V X D CL A _ _ _ _ _ _ _ [.ref q, .ref (loc j)]
    refine v_putE hX j (fs2 := [.ref q, .int (nI sz)]) inT1 tyX1 tyX1_ok nmX1 (Or.inr hj) (kup_ne (by omega) rfl) (kup_ne (by omega) h1) rfl 0 (by decide) fl_R_9 rfl rfl rfl rfl rfl (Nat.le_of_ble_eq_true rfl) d_R_add_26 rfl ?_
    refine row_mv j q _ _ hj2 hj3 hn (fun lo va e1 e2 e3 e4 e5 => ?_)
    exact tail lo va _ _ (sz * 2) g e2 (by rw [e1]; exact e3) e4 (by omega) (by omega) e5 ⟨by omega, by omega, by omega⟩ (by omega) (by omega)
set_option maxHeartbeats 4000000 in
set_option maxRecDepth 100000 in
theorem c_R_addAll (j sz cap jo so co mx : Nat) (hj : dom j) (hj2 : dom (j + 1)) (hj3 : j + 1 < 2000) (ho : dom jo) (ho2 : dom (jo + 1)) (hne : j ≠ jo ∧ j + 1 ≠ jo ∧ j ≠ jo + 1 ∧ jo + 1 < 2000) (hn : ¬ dom 2000) (h : rowOK cI loc val j sz cap) (hoo : rowOK cI loc val jo so co) (hm : sz + so ≤ mx) (hc : cap ≤ 2 * mx) (hx : 2 * mx ≤ 640000) :
    kM l y_R_addAll (Cond.code y_R_addAll b_R_addAll 3 none :: TT) rmR D CL (TY cI cB cZ cJ cN) A [.ref (loc j), .ref (loc jo)] dom loc val (PAdd cI dom loc val j cap (sz + so) mx) := by
  obtain ⟨f, h1, h2, h3, h4, h5⟩ := h
  obtain ⟨fo, o1, o2, o3, o4, o5⟩ := hoo
  refine kM_of (lv0 := [some (.ref (loc j)), some (.ref (loc jo)), none]) (own := "ProsePages$Row") (by decide) rfl (List.forall_mem_cons.mpr ⟨rfl, List.forall_mem_cons.mpr ⟨rfl, fun _ h => nomatch h⟩⟩) (Nat.le_of_ble_eq_true rfl) rfl (Nat.le_of_ble_eq_true rfl) (fun X hl hX hE hin0 => ?_)
  have tail : ∀ (lo : Nat → Nat) (va : Nat → va_E) (c1 s1 cap1 : Nat) (f1 : Nat → Int32), lo j = loc j → va j = .inr (1, [.ref (lo (j + 1)), .int (nI sz)]) → va (j + 1) = .inl (cI, cap1, .inl f1) → sz + so ≤ cap1 → cap1 ≤ 2 * mx → (∀ k, k ≠ j → k ≠ j + 1 → k ≠ 2000 → lo k = loc k ∧ va k = val k) → grown cap cap1 c1 s1 → c1 ≤ 20 → s1 ≤ 700000 → V X D CL A dom lo va c1 s1 33 [some (.ref (loc j)), some (.ref (loc jo)), some (.int (nI (sz + so)))] [] := by
    intro lo va c1 s1 cap1 f1 e1 g1 g2 hs1 hm1 hfr hg hc1 hs
    have p1 := hfr jo (by omega) (by omega) (by omega)
    have p2 := hfr (jo + 1) (by omega) (by omega) (by omega)
    have v1 : va jo = .inr (1, [.ref (loc (jo + 1)), .int (nI so)]) := p1.2.trans o1
    have v2 : va (jo + 1) = .inl (cI, co, .inl fo) := p2.2.trans o2
    refine v_aload_n hX d_R_addAll_33 rfl rfl ?_
    refine v_get hX jo (v := .ref (loc (jo + 1))) inT1 ho p1.1 v1 rfl 0 (by decide) fl_R_9 rfl rfl d_R_addAll_34 ?_
    refine v_iconst (v := 0) hX d_R_addAll_37 (by decide) ?_
    refine v_aload_n hX d_R_addAll_38 rfl rfl ?_
    refine v_get hX j (v := .ref (lo (j + 1))) inT1 hj e1 g1 rfl 0 (by decide) fl_R_9 rfl rfl d_R_addAll_39 ?_
    refine v_aload_n hX d_R_addAll_42 rfl rfl ?_
    refine v_get hX j (v := .int (nI sz)) inT1 hj e1 g1 rfl 1 (by decide) fl_R_15 rfl rfl d_R_addAll_43 ?_
    refine v_aload_n hX d_R_addAll_46 rfl rfl ?_
    refine v_get hX jo (v := .int (nI so)) inT1 ho p1.1 v1 rfl 1 (by decide) fl_R_15 rfl rfl d_R_addAll_47 ?_
    refine v_copyi hX (jo + 1) (j + 1) 0 ml_R_25 k_cpynat sm_Y_arraycopy in_Y ho2 p2.1 v2 hj2 rfl g2 rfl (by decide) (nI_pos (by omega)) (nI_pos (by omega)) (by rw [nI_clamp (by omega)]; show (0 : Nat) + so ≤ co; omega) (by rw [nI_clamp (by omega), nI_clamp (by omega)]; exact hs1) ⟨by decide, by decide⟩ rfl (Nat.le_of_ble_eq_true rfl) d_R_addAll_50 ?_
    refine v_aload_n hX d_R_addAll_53 rfl rfl ?_
    refine v_iload_n hX d_R_addAll_54 rfl rfl ?_
    refine v_putE hX j (fs2 := [.ref (lo (j + 1)), .int (nI (sz + so))]) inT1 tyX1 tyX1_ok nmX1 hj e1 (kup_ne (by omega) g1) rfl 1 (by decide) fl_R_15 rfl rfl rfl rfl rfl (Nat.le_of_ble_eq_true rfl) d_R_addAll_55 rfl ?_
    exact v_vret hX hE d_R_addAll_58 hc1 hs ⟨rfl, rfl, ⟨cap1, ⟨_, kup_self, kup_ne (by omega) kup_self, hs1, by have := hg.1; omega, by omega⟩, hm1, hg⟩, e1, fun k a b c => ⟨(hfr k a b c).1, kup_ne a (kup_ne b (hfr k a b c).2)⟩⟩
  refine v_aload_n hX d_R_addAll_0 rfl rfl ?_
  refine v_get hX j (v := .int (nI sz)) inT1 hj rfl h1 rfl 1 (by decide) fl_R_15 rfl rfl d_R_addAll_1 ?_
  refine v_aload_n hX d_R_addAll_4 rfl rfl ?_
  refine v_get hX jo (v := .int (nI so)) inT1 ho rfl o1 rfl 1 (by decide) fl_R_15 rfl rfl d_R_addAll_5 ?_
  refine v_iaddE (v := nI (sz + so)) hX d_R_addAll_8 (nI_add sz so) ?_
  refine v_istore_n (lv' := [some (.ref (loc j)), some (.ref (loc jo)), some (.int (nI (sz + so)))]) hX d_R_addAll_9 rfl (Nat.le_of_ble_eq_true rfl) rfl ?_
  refine v_iload_n hX d_R_addAll_10 rfl rfl ?_
  refine v_aload_n hX d_R_addAll_11 rfl rfl ?_
  refine v_get hX j (v := .ref (loc (j + 1))) inT1 hj rfl h1 rfl 0 (by decide) fl_R_9 rfl rfl d_R_addAll_12 ?_
  refine v_alen hX (j + 1) 0 (v := nI cap) hj2 rfl h2 rfl rfl d_R_addAll_15 ?_
  refine v_icmp_le hX d_R_addAll_16 (tgt := 33) (by decide) (fun c => ?_) (fun c => ?_)
  · have hle : sz + so ≤ cap := (nI_leI (by omega) (by omega)).mp c
    exact tail loc val 0 0 cap f rfl h1 h2 hle hc (fun k _ _ _ => ⟨rfl, rfl⟩) ⟨Nat.le_refl _, by omega, by omega⟩ (by omega) (by omega)
  · have hgt : cap < sz + so := Nat.lt_of_not_le (fun z => c (nI_le z (by omega)))
    refine v_aload_n hX d_R_addAll_19 rfl rfl ?_
    refine v_aload_n hX d_R_addAll_20 rfl rfl ?_
    refine v_get hX j (v := .ref (loc (j + 1))) inT1 hj rfl h1 rfl 0 (by decide) fl_R_9 rfl rfl d_R_addAll_21 ?_
    refine v_iload_n hX d_R_addAll_24 rfl rfl ?_
    refine v_iconst (v := 2) hX d_R_addAll_25 (by decide) ?_
    refine v_imulE (v := nI ((sz + so) * 2)) hX d_R_addAll_26 (nI_mul2 (sz + so)) ?_
    refine c_SO hX (rest := [.ref (loc j)]) hl (c_A_copyOf (j + 1) cap ((sz + so) * 2) hj2 (by omega) h2 (by omega) (by omega)) ml_R_19 sm_A_copyOf in_A cd_A_copyOf q_A_copyOf ⟨Nat.le_of_ble_eq_true rfl, Nat.le_of_ble_eq_true rfl⟩ rfl rfl rfl (Nat.le_of_ble_eq_true rfl) d_R_addAll_27 ⟨Nat.le_of_ble_eq_true rfl, Nat.le_of_ble_eq_true rfl⟩ (fun rv d2 lo2 va2 kc ns hp => ?_)
    obtain ⟨q, g, rfl, rfl, rfl, rfl, rfl, rfl⟩ := hp
    show V X D CL A _ _ _ _ _ _ _ [.ref q, .ref (loc j)]
    refine v_putE hX j (fs2 := [.ref q, .int (nI sz)]) inT1 tyX1 tyX1_ok nmX1 (Or.inr hj) (kup_ne (by omega) rfl) (kup_ne (by omega) h1) rfl 0 (by decide) fl_R_9 rfl rfl rfl rfl rfl (Nat.le_of_ble_eq_true rfl) d_R_addAll_30 rfl ?_
    refine row_mv j q _ _ hj2 hj3 hn (fun lo va e1 e2 e3 e4 e5 => ?_)
    exact tail lo va _ _ ((sz + so) * 2) g e2 (by rw [e1]; exact e3) e4 (by omega) (by omega) e5 ⟨by omega, by omega, by omega⟩ (by omega) (by omega)
end KRx
end
section
section KL
/-- the keys of the Rows; the array of each lies under the next key -/
def RK : List Nat := [3, 6, 8, 10, 12, 14, 16, 18, 20, 22, 24, 26, 28, 31, 33, 35, 37, 39, 41, 43, 45]
/-- how large each may get -/
def mxOf (j : Nat) : Nat := if j = 3 then 4400 else if j = 6 ∨ j = 31 then 320000 else if j = 22 ∨ j = 24 then 200 else if j = 26 ∨ j = 28 then 70 else 1501
abbrev RS : Type := Nat → Nat × Nat
def Phi (rs : RS) : Nat := (RK.map (fun j => 2 * (rs j).2)).sum
abbrev PMx : Nat := 2663816
theorem mx_le : ∀ j ∈ RK, 2 * mxOf j ≤ 640000 := by decide
theorem RK_apart : ∀ i ∈ RK, ∀ j ∈ RK, i ≠ j → i ≠ j + 1 ∧ i + 1 ≠ j := by decide
theorem RK_in : ∀ j ∈ RK, 3 ≤ j ∧ j + 1 ≤ 46 ∧ j ≠ 5 ∧ j ≠ 30 ∧ j + 1 ≠ 5 ∧ j + 1 ≠ 30 := by decide
theorem Phi_up (rs : RS) (p : Nat × Nat) : ∀ j ∈ RK, Phi (va_up rs j p) + 2 * (rs j).2 = Phi rs + 2 * p.2 := by
  intro j hj
  simp only [RK, List.mem_cons, List.not_mem_nil, or_false] at hj
  rcases hj with rfl | rfl | rfl | rfl | rfl | rfl | rfl | rfl | rfl | rfl | rfl | rfl | rfl | rfl | rfl | rfl | rfl | rfl | rfl | rfl | rfl <;> simp [Phi, RK, va_up] <;> omega
/-- the Rows as rs says (length, room) -/
def RowsI (cI : ClassId) (ob : Nat → Nat) (rs : RS) (dom : Nat → Prop) (loc : Nat → Nat) (val : Nat → va_E) : Prop := (∀ j ∈ RK, dom j ∧ dom (j + 1) ∧ loc j = ob j ∧ rowOK cI loc val j (rs j).1 (rs j).2 ∧ (rs j).2 ≤ 2 * mxOf j) ∧ ¬ dom 2000
def SheetI (ob : Nat → Nat) (sh : Nat → Int32 × Int32 × Int32) (dom : Nat → Prop) (loc : Nat → Nat) (val : Nat → va_E) (t : Nat) : Prop := dom t ∧ loc t = ob t ∧ val t = .inr (3, [.ref (ob (t + 1)), .ref (ob (t + 3)), .ref (ob (t + 5)), .ref (ob (t + 7)), .ref (ob (t + 9)), .ref (ob (t + 11)), .ref (ob (t + 13)), .ref (ob (t + 15)), .int (sh t).1, .int (sh t).2.1, .int (sh t).2.2])
def SetI (ob : Nat → Nat) (td : Nat) (dom : Nat → Prop) (loc : Nat → Nat) (val : Nat → va_E) : Prop := dom 2 ∧ loc 2 = ob 2 ∧ val 2 = .inr (2, [.ref (ob 3), .ref (ob td), .ref (ob 22), .ref (ob 24), .ref (ob 26), .ref (ob 28)])
/-- the setter with its Rows and both sheets; td: the draft's key -/
def LayI (cI : ClassId) (ob : Nat → Nat) (td : Nat) (rs : RS) (sh : Nat → Int32 × Int32 × Int32) (dom : Nat → Prop) (loc : Nat → Nat) (val : Nat → va_E) : Prop := RowsI cI ob rs dom loc val ∧ SheetI ob sh dom loc val 5 ∧ SheetI ob sh dom loc val 30 ∧ SetI ob td dom loc val ∧ (td = 5 ∨ td = 30)
/-- what is neither a Row nor a sheet is as it was -/
def frL (loc : Nat → Nat) (val : Nat → va_E) (lo : Nat → Nat) (va : Nat → va_E) : Prop := ∀ k, ¬ (3 ≤ k ∧ k ≤ 46) → k ≠ 2000 → lo k = loc k ∧ va k = val k
theorem frL.rf {loc : Nat → Nat} {val : Nat → va_E} : frL loc val loc val := fun _ _ _ => ⟨rfl, rfl⟩
theorem frL.trans {loc l2 l3 : Nat → Nat} {val v2 v3 : Nat → va_E} (h : frL loc val l2 v2) (h2 : frL l2 v2 l3 v3) : frL loc val l3 v3 := fun k a b => ⟨(h2 k a b).1.trans (h k a b).1, (h2 k a b).2.trans (h k a b).2⟩
def pay (rs rs' : RS) (kc ns : Nat) : Prop := ns + Phi rs ≤ Phi rs' ∧ 16 * kc + Phi rs ≤ Phi rs'
theorem pay.rf {rs : RS} : pay rs rs 0 0 := ⟨by omega, by omega⟩
theorem pay.trans {a b c : RS} {k n k2 n2 : Nat} (h : pay a b k n) (h2 : pay b c k2 n2) : pay a c (k + k2) (n + n2) := ⟨by have := h.1; have := h2.1; omega, by have := h.2; have := h2.2; omega⟩
variable {cI : ClassId} {ob : Nat → Nat} {td : Nat} {rs : RS} {sh : Nat → Int32 × Int32 × Int32} {dom : Nat → Prop} {loc : Nat → Nat} {val : Nat → va_E}
theorem sum_le (f g : Nat → Nat) : ∀ ks : List Nat, (∀ j ∈ ks, f j ≤ g j) → (ks.map f).sum ≤ (ks.map g).sum
  | [], _ => Nat.le_refl _
  | k :: ks, h => by
    have h1 := h k List.mem_cons_self
    have h2 := sum_le f g ks (fun j hj => h j (List.mem_cons_of_mem _ hj))
    simp only [List.map_cons, List.sum_cons]
    omega
theorem RowsI.phi (h : RowsI cI ob rs dom loc val) : Phi rs ≤ PMx := by
  have h1 := sum_le (fun j => 2 * (rs j).2) (fun j => 4 * mxOf j) RK (fun j hj => by have := (h.1 j hj).2.2.2.2; show 2 * (rs j).2 ≤ 4 * mxOf j; omega)
  have h2 : (RK.map (fun j => 4 * mxOf j)).sum = PMx := by decide
  unfold Phi
  omega
theorem rowOK.v {j sz cap : Nat} (h : rowOK cI loc val j sz cap) : val j = .inr (1, [.ref (loc (j + 1)), .int (nI sz)]) := by obtain ⟨f, h1, -⟩ := h; exact h1
theorem rowOK.kept {lo : Nat → Nat} {va : Nat → va_E} {j sz cap : Nat} (h : rowOK cI loc val j sz cap) (h1 : va j = val j) (h2 : lo (j + 1) = loc (j + 1)) (h3 : va (j + 1) = val (j + 1)) : rowOK cI lo va j sz cap := by
  obtain ⟨f, g1, g2, g3⟩ := h
  exact ⟨f, by rw [h1, h2]; exact g1, by rw [h3]; exact g2, g3⟩
/-- one Row changes, the rest of the layout doesn't -/
theorem LayI.row (h : LayI cI ob td rs sh dom loc val) {j : Nat} (hj : j ∈ RK) {lo : Nat → Nat} {va : Nat → va_E} {s c : Nat} (hr : rowOK cI lo va j s c) (hc : c ≤ 2 * mxOf j) (hf : frR j loc val lo va) : LayI cI ob td (va_up rs j (s, c)) sh dom lo va ∧ frL loc val lo va := by
  obtain ⟨⟨h1, hn⟩, h2, h3, h4, h5⟩ := h
  have hin := RK_in j hj
  have sheet : ∀ t, t = 5 ∨ t = 30 → SheetI ob sh dom loc val t → SheetI ob sh dom lo va t := fun t ht z => by
    have hk := hf.2 t (by omega) (by omega) (by omega)
    exact ⟨z.1, hk.1.trans z.2.1, hk.2.trans z.2.2⟩
  refine ⟨⟨⟨fun i hi => ?_, hn⟩, sheet 5 (Or.inl rfl) h2, sheet 30 (Or.inr rfl) h3, ?_, h5⟩, fun k a b => hf.2 k (by omega) (by omega) b⟩
  · obtain ⟨g1, g2, g3, g4, g5⟩ := h1 i hi
    by_cases e : i = j
    · subst e
      refine ⟨g1, g2, hf.1.trans g3, ?_, ?_⟩
      · rw [va_up_self]; exact hr
      · rw [va_up_self]; exact hc
    · have ap := RK_apart i hi j hj e
      have ii := RK_in i hi
      have k1 := hf.2 i e (by omega) (by omega)
      have k2 := hf.2 (i + 1) (by omega) (by omega) (by omega)
      refine ⟨g1, g2, k1.1.trans g3, ?_, ?_⟩
      · rw [va_up_ne _ _ e]; exact g4.kept k1.2 k2.1 k2.2
      · rw [va_up_ne _ _ e]; exact g5
  · have hk := hf.2 2 (by omega) (by omega) (by omega)
    exact ⟨h4.1, hk.1.trans h4.2.1, hk.2.trans h4.2.2⟩
variable {l : Launch} {D : va_G} {A : Nat → Prop} {cB cZ cJ cN : ClassId}
/-- a call on the Row under j that leaves it with the length s -/
abbrev PRow (cI : ClassId) (ob : Nat → Nat) (td : Nat) (rs : RS) (sh : Nat → Int32 × Int32 × Int32) (dom : Nat → Prop) (loc : Nat → Nat) (val : Nat → va_E) (j s : Nat) : kT := fun rv d lo va kc ns => rv = none ∧ dom = d ∧ (∃ rs', LayI cI ob td rs' sh dom lo va ∧ (rs' j).1 = s ∧ (∀ i, i ≠ j → rs' i = rs i) ∧ pay rs rs' kc ns) ∧ frL loc val lo va
theorem L_size (hI : LayI cI ob td rs sh dom loc val) (j : Nat) (hj : j ∈ RK) : kM l y_R_size (Cond.code y_R_size b_R_size 1 (some FieldType.int) :: TT) (rmL 1) D CL (TY cI cB cZ cJ cN) A [.ref (ob j)] dom loc val (fun rv d lo va kc ns => rv = some (.int (nI (rs j).1)) ∧ dom = d ∧ loc = lo ∧ val = va ∧ kc = 0 ∧ ns = 0) := by
  obtain ⟨g1, g2, g3, g4, g5⟩ := hI.1.1 j hj
  have h := c_R_size (l := l) (D := D) (A := A) (cB := cB) (cZ := cZ) (cJ := cJ) (cN := cN) j _ _ g1 g4
  rw [g3] at h
  exact h
theorem L_get (hI : LayI cI ob td rs sh dom loc val) (j : Nat) (hj : j ∈ RK) (x : Int32) : kM l y_R_get (Cond.code y_R_get b_R_get 2 (some FieldType.int) :: TT) (rmL 1) D CL (TY cI cB cZ cJ cN) A [.ref (ob j), .int x] dom loc val (fun rv d lo va kc ns => (∃ v, rv = some (.int v)) ∧ dom = d ∧ loc = lo ∧ val = va ∧ kc = 0 ∧ ns = 0) := by
  obtain ⟨g1, g2, g3, g4, g5⟩ := hI.1.1 j hj
  have h := c_R_get (l := l) (D := D) (A := A) (cB := cB) (cZ := cZ) (cJ := cJ) (cN := cN) j _ _ x g1 g2 g4
  rw [g3] at h
  exact h
theorem L_set (hI : LayI cI ob td rs sh dom loc val) (j : Nat) (hj : j ∈ RK) (x y : Int32) : kM l y_R_set (Cond.code y_R_set b_R_set 3 none :: TT) (rmL 1) D CL (TY cI cB cZ cJ cN) A [.ref (ob j), .int x, .int y] dom loc val (PRow cI ob td rs sh dom loc val j (rs j).1) := by
  obtain ⟨g1, g2, g3, g4, g5⟩ := hI.1.1 j hj
  have h := c_R_set (l := l) (D := D) (A := A) (cB := cB) (cZ := cZ) (cJ := cJ) (cN := cN) j _ _ x y g1 g2 g4
  rw [g3] at h
  refine kM.to h (fun rv d lo va kc ns ⟨e1, e2, e3, e4, e5, e6⟩ => ?_)
  obtain ⟨i1, i2⟩ := hI.row hj e3 g5 e4
  have hp := Phi_up rs ((rs j).1, (rs j).2) j hj
  exact ⟨e1, e2, ⟨_, i1, by rw [va_up_self], fun i hi => va_up_ne _ _ hi, ⟨by subst e6; omega, by subst e5; omega⟩⟩, i2⟩
theorem L_cut (hI : LayI cI ob td rs sh dom loc val) (j : Nat) (hj : j ∈ RK) (m : Nat) (hm : m < 2 ^ 31) : kM l y_R_cut (Cond.code y_R_cut b_R_cut 2 none :: TT) (rmL 1) D CL (TY cI cB cZ cJ cN) A [.ref (ob j), .int (nI m)] dom loc val (PRow cI ob td rs sh dom loc val j (min m (rs j).1)) := by
  obtain ⟨g1, g2, g3, g4, g5⟩ := hI.1.1 j hj
  have h := c_R_cut (l := l) (D := D) (A := A) (cB := cB) (cZ := cZ) (cJ := cJ) (cN := cN) j _ _ m hm g1 g4
  rw [g3] at h
  refine kM.to h (fun rv d lo va kc ns ⟨e1, e2, e3, e4, e5, e6⟩ => ?_)
  obtain ⟨i1, i2⟩ := hI.row hj e3 g5 e4
  have hp := Phi_up rs (min m (rs j).1, (rs j).2) j hj
  exact ⟨e1, e2, ⟨_, i1, by rw [va_up_self], fun i hi => va_up_ne _ _ hi, ⟨by subst e6; omega, by subst e5; omega⟩⟩, i2⟩
theorem L_add (hI : LayI cI ob td rs sh dom loc val) (j : Nat) (hj : j ∈ RK) (x : Int32) (hm : (rs j).1 + 1 ≤ mxOf j) : kM l y_R_add (Cond.code y_R_add b_R_add 2 none :: TT) rmR D CL (TY cI cB cZ cJ cN) A [.ref (ob j), .int x] dom loc val (PRow cI ob td rs sh dom loc val j ((rs j).1 + 1)) := by
  obtain ⟨g1, g2, g3, g4, g5⟩ := hI.1.1 j hj
  have hin := RK_in j hj
  have h := c_R_add (l := l) (D := D) (A := A) (cB := cB) (cZ := cZ) (cJ := cJ) (cN := cN) j _ _ (mxOf j) x g1 g2 (by omega) hI.1.2 g4 hm g5 (mx_le j hj)
  rw [g3] at h
  refine kM.to h (fun rv d lo va kc ns ⟨e1, e2, ⟨c', e3, e4, e5⟩, e6⟩ => ?_)
  obtain ⟨i1, i2⟩ := hI.row hj e3 e4 e6
  have hp := Phi_up rs ((rs j).1 + 1, c') j hj
  obtain ⟨w1, w2, w3⟩ := e5
  exact ⟨e1, e2, ⟨_, i1, by rw [va_up_self], fun i hi => va_up_ne _ _ hi, ⟨by omega, by omega⟩⟩, i2⟩
theorem L_addAll (hI : LayI cI ob td rs sh dom loc val) (j : Nat) (hj : j ∈ RK) (jo : Nat) (ho : jo ∈ RK) (hne : j ≠ jo) (hm : (rs j).1 + (rs jo).1 ≤ mxOf j) : kM l y_R_addAll (Cond.code y_R_addAll b_R_addAll 3 none :: TT) rmR D CL (TY cI cB cZ cJ cN) A [.ref (ob j), .ref (ob jo)] dom loc val (PRow cI ob td rs sh dom loc val j ((rs j).1 + (rs jo).1)) := by
  obtain ⟨g1, g2, g3, g4, g5⟩ := hI.1.1 j hj
  obtain ⟨f1, f2, f3, f4, f5⟩ := hI.1.1 jo ho
  have hin := RK_in j hj
  have hio := RK_in jo ho
  have ap := RK_apart j hj jo ho hne
  have h := c_R_addAll (l := l) (D := D) (A := A) (cB := cB) (cZ := cZ) (cJ := cJ) (cN := cN) j _ _ jo _ _ (mxOf j) g1 g2 (by omega) f1 f2 ⟨hne, by omega, by omega, by omega⟩ hI.1.2 g4 f4 hm g5 (mx_le j hj)
  rw [g3, f3] at h
  refine kM.to h (fun rv d lo va kc ns ⟨e1, e2, ⟨c', e3, e4, e5⟩, e6⟩ => ?_)
  obtain ⟨i1, i2⟩ := hI.row hj e3 e4 e6
  have hp := Phi_up rs ((rs j).1 + (rs jo).1, c') j hj
  obtain ⟨w1, w2, w3⟩ := e5
  exact ⟨e1, e2, ⟨_, i1, by rw [va_up_self], fun i hi => va_up_ne _ _ hi, ⟨by omega, by omega⟩⟩, i2⟩
end KL
end
section
section KIt
theorem i32_succ {k m : Int32} (h : k < m) : (k + 1).toInt = k.toInt + 1 := by
  have h1 : k.toInt < m.toInt := Int32.lt_iff_toInt_lt.mp h
  have h2 := Int32.toInt_lt m
  have h3 := Int32.le_toInt k
  rw [Int32.toInt_add]
  show (k.toInt + 1).bmod (2 ^ 32) = _
  exact Int.bmod_eq_of_le (by omega) (by omega)
/-- a counter that goes up to m -/
theorem iter_lt {k m : Int32} {n : Nat} (c : k < m) (hk : (m.toInt - k.toInt).toNat < n + 1) : (m.toInt - (k + 1).toInt).toNat < n := by
  have h1 : k.toInt < m.toInt := Int32.lt_iff_toInt_lt.mp c
  have h2 := i32_succ c
  omega
theorem nI_dec {e : Nat} (h : 0 < e) : nI e + (-1) = nI (e - 1) := by
  obtain ⟨n, rfl⟩ : ∃ n, e = n + 1 := ⟨e - 1, by omega⟩
  rw [nI_succ, Int32.add_assoc, show (1 : Int32) + -1 = 0 by decide, Int32.add_zero]
  rfl
theorem eq_add {x a b c d : Nat} (h : x = a + c) (h1 : a = b) (h2 : c = d) : x = b + d := by rw [h, h1, h2]
theorem eq_add1 {x a b : Nat} (h : x = a + 1) (h1 : a = b) : x = b + 1 := by rw [h, h1]
theorem eq_min {x m a b : Nat} (h : x = min m a) (h1 : a = b) : x = min m b := by rw [h, h1]
end KIt
end
section
section KSh
theorem shRK {t : Nat} (ht : t = 5 ∨ t = 30) (i : Nat) (hi : i < 8) : t + (2 * i + 1) ∈ RK := by
  rcases ht with rfl | rfl
  · exact (by decide : ∀ i, i < 8 → 5 + (2 * i + 1) ∈ RK) i hi
  · exact (by decide : ∀ i, i < 8 → 30 + (2 * i + 1) ∈ RK) i hi
theorem mxS0 {t : Nat} (ht : t = 5 ∨ t = 30) : mxOf (t + 1) = 320000 := by rcases ht with rfl | rfl <;> rfl
theorem mxS1 {t : Nat} (ht : t = 5 ∨ t = 30) (i : Nat) (hi : 1 ≤ i ∧ i < 8) : mxOf (t + (2 * i + 1)) = 1501 := by
  rcases ht with rfl | rfl
  · exact (by decide : ∀ i, i < 8 → 1 ≤ i → mxOf (5 + (2 * i + 1)) = 1501) i hi.2 hi.1
  · exact (by decide : ∀ i, i < 8 → 1 ≤ i → mxOf (30 + (2 * i + 1)) = 1501) i hi.2 hi.1
/-- a method's room where Phi tells how much of it is left -/
abbrev rmP (k ph : Nat) : Room := { frames := 20 * k + 20, cells := 120 + (2663816 - ph) / 16, slots := 700000 + (2663816 - ph), locals := 300 * k + 600 }
variable {cI : ClassId} {ob : Nat → Nat} {td : Nat} {rs : RS} {sh : Nat → Int32 × Int32 × Int32} {dom : Nat → Prop} {loc : Nat → Nat} {val : Nat → va_E}
theorem LayI.sheet (h : LayI cI ob td rs sh dom loc val) {t : Nat} (ht : t = 5 ∨ t = 30) : SheetI ob sh dom loc val t := by
  rcases ht with rfl | rfl
  · exact h.2.1
  · exact h.2.2.1
/-- a sheet's numbers change -/
theorem LayI.put (h : LayI cI ob td rs sh dom loc val) {t : Nat} (ht : t = 5 ∨ t = 30) (p : Int32 × Int32 × Int32) : LayI cI ob td rs (va_up sh t p) dom loc (va_up val t (.inr (3, [.ref (ob (t + 1)), .ref (ob (t + 3)), .ref (ob (t + 5)), .ref (ob (t + 7)), .ref (ob (t + 9)), .ref (ob (t + 11)), .ref (ob (t + 13)), .ref (ob (t + 15)), .int p.1, .int p.2.1, .int p.2.2]))) ∧ frL loc val loc (va_up val t (.inr (3, [.ref (ob (t + 1)), .ref (ob (t + 3)), .ref (ob (t + 5)), .ref (ob (t + 7)), .ref (ob (t + 9)), .ref (ob (t + 11)), .ref (ob (t + 13)), .ref (ob (t + 15)), .int p.1, .int p.2.1, .int p.2.2]))) := by
  obtain ⟨⟨h1, hn⟩, h2, h3, h4, h5⟩ := h
  have one : ∀ t2, SheetI ob sh dom loc val t2 → SheetI ob (va_up sh t p) dom loc (va_up val t (.inr (3, [.ref (ob (t + 1)), .ref (ob (t + 3)), .ref (ob (t + 5)), .ref (ob (t + 7)), .ref (ob (t + 9)), .ref (ob (t + 11)), .ref (ob (t + 13)), .ref (ob (t + 15)), .int p.1, .int p.2.1, .int p.2.2]))) t2 := fun t2 z => by
    by_cases e : t2 = t
    · subst e
      exact ⟨z.1, z.2.1, by rw [va_up_self, va_up_self]⟩
    · exact ⟨z.1, z.2.1, by rw [va_up_ne _ _ e, va_up_ne _ _ e]; exact z.2.2⟩
  refine ⟨⟨⟨fun j hj => ?_, hn⟩, one 5 h2, one 30 h3, ⟨h4.1, h4.2.1, kup_ne (by omega) h4.2.2⟩, h5⟩, fun k a b => ⟨rfl, va_up_ne _ _ (by omega)⟩⟩
  obtain ⟨g1, g2, g3, g4, g5⟩ := h1 j hj
  have hin := RK_in j hj
  exact ⟨g1, g2, g3, g4.kept (va_up_ne _ _ (by omega)) rfl (va_up_ne _ _ (by omega)), g5⟩
/-- the draft's Rows of lines have one length -/
def DC (rs : RS) (t nl : Nat) : Prop := (rs (t + 3)).1 = nl ∧ (rs (t + 5)).1 = nl ∧ (rs (t + 7)).1 = nl ∧ (rs (t + 9)).1 = nl ∧ (rs (t + 11)).1 = nl ∧ nl ≤ 1500 ∧ (rs (t + 1)).1 ≤ 204 * nl
end KSh
end
section
section KPt
variable {X : KX} {cc : ByteArray} {nL : Nat} {own : String} {R : Room} {D : va_G} {A : Nat → Prop} {cells slots pc : Nat} {lv : List (Option Value)} {st : List Value} {cI cB cZ cJ cN : ClassId} {ob : Nat → Nat} {td : Nat} {rs : RS} {sh : Nat → Int32 × Int32 × Int32} {dom : Nat → Prop} {loc : Nat → Nat} {val : Nat → va_E}
theorem v_putRows (hX : OX X cc nL own TT D CL (TY cI cB cZ cJ cN) A R) (hI : LayI cI ob td rs sh dom loc val) {t : Nat} (ht : t = 5 ∨ t = 30) {x : Int32} {index : Nat} (hk : Cond.fieldLink own index "ProsePages$Sheet" "rows" "I" ∈ TT) (hd : decode cc pc = .ok (.putfield index, 3)) (kk : ∀ va, LayI cI ob td rs (va_up sh t (x, (sh t).2.1, (sh t).2.2)) dom loc va → frL loc val loc va → V X D CL A dom loc va cells slots (pc + 3) lv st) : V X D CL A dom loc val cells slots pc lv (.int x :: .ref (ob t) :: st) := by
  obtain ⟨h1, h2, h3⟩ := hI.sheet ht
  obtain ⟨g1, g2⟩ := hI.put ht (x, (sh t).2.1, (sh t).2.2)
  exact v_putE hX t inT3 tyX3 tyX3_ok nmX3 h1 h2 h3 rfl 8 (by decide) hk rfl rfl rfl rfl rfl (Nat.le_of_ble_eq_true rfl) hd rfl (kk _ g1 g2)
theorem v_putCols (hX : OX X cc nL own TT D CL (TY cI cB cZ cJ cN) A R) (hI : LayI cI ob td rs sh dom loc val) {t : Nat} (ht : t = 5 ∨ t = 30) {x : Int32} {index : Nat} (hk : Cond.fieldLink own index "ProsePages$Sheet" "columns" "I" ∈ TT) (hd : decode cc pc = .ok (.putfield index, 3)) (kk : ∀ va, LayI cI ob td rs (va_up sh t ((sh t).1, x, (sh t).2.2)) dom loc va → frL loc val loc va → V X D CL A dom loc va cells slots (pc + 3) lv st) : V X D CL A dom loc val cells slots pc lv (.int x :: .ref (ob t) :: st) := by
  obtain ⟨h1, h2, h3⟩ := hI.sheet ht
  obtain ⟨g1, g2⟩ := hI.put ht ((sh t).1, x, (sh t).2.2)
  exact v_putE hX t inT3 tyX3 tyX3_ok nmX3 h1 h2 h3 rfl 9 (by decide) hk rfl rfl rfl rfl rfl (Nat.le_of_ble_eq_true rfl) hd rfl (kk _ g1 g2)
theorem v_putOvf (hX : OX X cc nL own TT D CL (TY cI cB cZ cJ cN) A R) (hI : LayI cI ob td rs sh dom loc val) {t : Nat} (ht : t = 5 ∨ t = 30) {x : Int32} {index : Nat} (hn : narrow .boolean (.int x) = .int x) (hfit : fits .boolean (.int x) = true) (hk : Cond.fieldLink own index "ProsePages$Sheet" "isOverfull" "Z" ∈ TT) (hd : decode cc pc = .ok (.putfield index, 3)) (kk : ∀ va, LayI cI ob td rs (va_up sh t ((sh t).1, (sh t).2.1, x)) dom loc va → frL loc val loc va → V X D CL A dom loc va cells slots (pc + 3) lv st) : V X D CL A dom loc val cells slots pc lv (.int x :: .ref (ob t) :: st) := by
  obtain ⟨h1, h2, h3⟩ := hI.sheet ht
  obtain ⟨g1, g2⟩ := hI.put ht ((sh t).1, (sh t).2.1, x)
  exact v_putE hX t inT3 tyX3 tyX3_ok nmX3 h1 h2 h3 rfl 10 (by decide) hk rfl rfl rfl hn hfit (Nat.le_of_ble_eq_true rfl) hd rfl (kk _ g1 g2)
end KPt
end
section
set_option maxHeartbeats 4000000 in
set_option maxRecDepth 100000 in
theorem c_T_lineCount {l : Launch} {D : va_G} {A : Nat → Prop} {cI cB cZ cJ cN : ClassId} {ob : Nat → Nat} {td : Nat} {rs : RS} {sh : Nat → Int32 × Int32 × Int32} {dom : Nat → Prop} {loc : Nat → Nat} {val : Nat → va_E} (hI : LayI cI ob td rs sh dom loc val) {t : Nat} (ht : t = 5 ∨ t = 30) : kM l y_T_lineCount (Cond.code y_T_lineCount b_T_lineCount 1 (some FieldType.int) :: TT) (rmP 1 (Phi rs)) D CL (TY cI cB cZ cJ cN) A [.ref (ob t)] dom loc val (fun rv d lo va kc ns => rv = some (.int (nI (rs (t + 3)).1)) ∧ dom = d ∧ loc = lo ∧ val = va ∧ kc = 0 ∧ ns = 0) := by
  refine kM_of (lv0 := [some (.ref (ob t))]) (own := "ProsePages$Sheet") (by decide) rfl (List.forall_mem_cons.mpr ⟨rfl, fun _ h => nomatch h⟩) (Nat.le_of_ble_eq_true rfl) rfl (Nat.le_of_ble_eq_true rfl) (fun X hl hX hE hin0 => ?_)
  have hP : pay rs rs 0 0 := pay.rf
  have hx : Phi rs ≤ 2663816 := hI.1.phi
  refine v_aload_n hX d_T_lineCount_0 rfl rfl ?_
  refine v_get hX t (v := .ref (ob (t + 3))) inT3 (hI.sheet ht).1 (hI.sheet ht).2.1 (hI.sheet ht).2.2 rfl 1 (by decide) fl_T_18 rfl rfl d_T_lineCount_1 ?_
  refine c_V hX (t + 3) (rest := []) hl (L_size hI (t + 3) (shRK ht 1 (by decide))) ml_T_39 im_R_size se_R_size in_R cd_R_size rfl q_R_size ⟨(Nat.le_of_ble_eq_true rfl), (Nat.le_of_ble_eq_true rfl)⟩ (hI.1.1 (t + 3) (shRK ht 1 (by decide))).1 (hI.1.1 (t + 3) (shRK ht 1 (by decide))).2.2.1 (hI.1.1 (t + 3) (shRK ht 1 (by decide))).2.2.2.1.v rfl rfl rfl rfl (Nat.le_of_ble_eq_true rfl) d_T_lineCount_4 ⟨by have a := hP.2; have b := hx; show _ + 100 ≤ 120 + (2663816 - Phi rs) / 16; omega, by have a := hP.1; have b := hx; show _ + 200000 ≤ 700000 + (2663816 - Phi rs); omega⟩ (fun rv d2 lo2 va2 kc ns hp => ?_)
  obtain ⟨rfl, rfl, rfl, rfl, rfl, rfl⟩ := hp
  show V X D CL A _ _ _ _ _ _ _ (.int (nI (rs (t + 3)).1) :: [])
  exact v_iret hX hE d_T_lineCount_7 (by have a := hP.2; have b := hx; show _ ≤ 120 + (2663816 - Phi rs) / 16; omega) (by have a := hP.1; have b := hx; show _ ≤ 700000 + (2663816 - Phi rs); omega) ⟨rfl, rfl, rfl, rfl, rfl, rfl⟩
set_option maxHeartbeats 4000000 in
set_option maxRecDepth 100000 in
theorem c_T_pageCount {l : Launch} {D : va_G} {A : Nat → Prop} {cI cB cZ cJ cN : ClassId} {ob : Nat → Nat} {td : Nat} {rs : RS} {sh : Nat → Int32 × Int32 × Int32} {dom : Nat → Prop} {loc : Nat → Nat} {val : Nat → va_E} (hI : LayI cI ob td rs sh dom loc val) {t : Nat} (ht : t = 5 ∨ t = 30) : kM l y_T_pageCount (Cond.code y_T_pageCount b_T_pageCount 1 (some FieldType.int) :: TT) (rmP 1 (Phi rs)) D CL (TY cI cB cZ cJ cN) A [.ref (ob t)] dom loc val (fun rv d lo va kc ns => rv = some (.int (nI (rs (t + 13)).1)) ∧ dom = d ∧ loc = lo ∧ val = va ∧ kc = 0 ∧ ns = 0) := by
  refine kM_of (lv0 := [some (.ref (ob t))]) (own := "ProsePages$Sheet") (by decide) rfl (List.forall_mem_cons.mpr ⟨rfl, fun _ h => nomatch h⟩) (Nat.le_of_ble_eq_true rfl) rfl (Nat.le_of_ble_eq_true rfl) (fun X hl hX hE hin0 => ?_)
  have hP : pay rs rs 0 0 := pay.rf
  have hx : Phi rs ≤ 2663816 := hI.1.phi
  refine v_aload_n hX d_T_pageCount_0 rfl rfl ?_
  refine v_get hX t (v := .ref (ob (t + 13))) inT3 (hI.sheet ht).1 (hI.sheet ht).2.1 (hI.sheet ht).2.2 rfl 6 (by decide) fl_T_33 rfl rfl d_T_pageCount_1 ?_
  refine c_V hX (t + 13) (rest := []) hl (L_size hI (t + 13) (shRK ht 6 (by decide))) ml_T_39 im_R_size se_R_size in_R cd_R_size rfl q_R_size ⟨(Nat.le_of_ble_eq_true rfl), (Nat.le_of_ble_eq_true rfl)⟩ (hI.1.1 (t + 13) (shRK ht 6 (by decide))).1 (hI.1.1 (t + 13) (shRK ht 6 (by decide))).2.2.1 (hI.1.1 (t + 13) (shRK ht 6 (by decide))).2.2.2.1.v rfl rfl rfl rfl (Nat.le_of_ble_eq_true rfl) d_T_pageCount_4 ⟨by have a := hP.2; have b := hx; show _ + 100 ≤ 120 + (2663816 - Phi rs) / 16; omega, by have a := hP.1; have b := hx; show _ + 200000 ≤ 700000 + (2663816 - Phi rs); omega⟩ (fun rv d2 lo2 va2 kc ns hp => ?_)
  obtain ⟨rfl, rfl, rfl, rfl, rfl, rfl⟩ := hp
  show V X D CL A _ _ _ _ _ _ _ (.int (nI (rs (t + 13)).1) :: [])
  exact v_iret hX hE d_T_pageCount_7 (by have a := hP.2; have b := hx; show _ ≤ 120 + (2663816 - Phi rs) / 16; omega) (by have a := hP.1; have b := hx; show _ ≤ 700000 + (2663816 - Phi rs); omega) ⟨rfl, rfl, rfl, rfl, rfl, rfl⟩
set_option maxHeartbeats 4000000 in
set_option maxRecDepth 100000 in
theorem c_T_character {l : Launch} {D : va_G} {A : Nat → Prop} {cI cB cZ cJ cN : ClassId} {ob : Nat → Nat} {td : Nat} {rs : RS} {sh : Nat → Int32 × Int32 × Int32} {dom : Nat → Prop} {loc : Nat → Nat} {val : Nat → va_E} (hI : LayI cI ob td rs sh dom loc val) {t : Nat} (ht : t = 5 ∨ t = 30) (x0 x1 x2 : Int32) : kM l y_T_character (Cond.code y_T_character b_T_character 5 (some FieldType.int) :: TT) (rmP 2 (Phi rs)) D CL (TY cI cB cZ cJ cN) A [.ref (ob t), .int x0, .int x1, .int x2] dom loc val (fun rv d lo va kc ns => (∃ v, rv = some (.int v)) ∧ dom = d ∧ loc = lo ∧ val = va ∧ kc = 0 ∧ ns = 0) := by
  refine kM_of (lv0 := [some (.ref (ob t)), some (.int x0), some (.int x1), some (.int x2), none]) (own := "ProsePages$Sheet") (by decide) rfl (List.forall_mem_cons.mpr ⟨rfl, List.forall_mem_cons.mpr ⟨rfl, List.forall_mem_cons.mpr ⟨rfl, List.forall_mem_cons.mpr ⟨rfl, fun _ h => nomatch h⟩⟩⟩⟩) (Nat.le_of_ble_eq_true rfl) rfl (Nat.le_of_ble_eq_true rfl) (fun X hl hX hE hin0 => ?_)
  have hP : pay rs rs 0 0 := pay.rf
  have hx : Phi rs ≤ 2663816 := hI.1.phi
  refine v_iload_n hX d_T_character_0 rfl rfl ?_
  refine v_if_lt hX d_T_character_1 (tgt := 36) (by decide) (fun c1 => ?_) (fun c1 => ?_)
  · refine v_iconst (v := (-1)) hX d_T_character_36 (by decide) ?_
    exact v_iret hX hE d_T_character_37 (by have a := hP.2; have b := hx; show _ ≤ 120 + (2663816 - Phi rs) / 16; omega) (by have a := hP.1; have b := hx; show _ ≤ 700000 + (2663816 - Phi rs); omega) ⟨⟨_, rfl⟩, rfl, rfl, rfl, rfl, rfl⟩
  · refine v_iload_n hX d_T_character_4 rfl rfl ?_
    refine v_aload_n hX d_T_character_5 rfl rfl ?_
    refine c_V hX t (rest := [.int x0]) hl (c_T_pageCount hI ht) ml_T_76 im_T_pageCount se_T_pageCount in_T cd_T_pageCount rfl q_T_pageCount ⟨(Nat.le_of_ble_eq_true rfl), (Nat.le_of_ble_eq_true rfl)⟩ (hI.sheet ht).1 (hI.sheet ht).2.1 (hI.sheet ht).2.2 rfl rfl rfl rfl (Nat.le_of_ble_eq_true rfl) d_T_character_6 ⟨by have a := hP.2; have b := hx; show _ + (120 + (2663816 - Phi rs) / 16) ≤ 120 + (2663816 - Phi rs) / 16; omega, by have a := hP.1; have b := hx; show _ + (700000 + (2663816 - Phi rs)) ≤ 700000 + (2663816 - Phi rs); omega⟩ (fun rv d2 lo2 va2 kc ns hp => ?_)
    obtain ⟨rfl, rfl, rfl, rfl, rfl, rfl⟩ := hp
    show V X D CL A _ _ _ _ _ _ _ (.int (nI (rs (t + 13)).1) :: [.int x0])
    refine v_icmp_ge hX d_T_character_9 (tgt := 36) (by decide) (fun c9 => ?_) (fun c9 => ?_)
    · refine v_iconst (v := (-1)) hX d_T_character_36 (by decide) ?_
      exact v_iret hX hE d_T_character_37 (by have a := hP.2; have b := hx; show _ ≤ 120 + (2663816 - Phi rs) / 16; omega) (by have a := hP.1; have b := hx; show _ ≤ 700000 + (2663816 - Phi rs); omega) ⟨⟨_, rfl⟩, rfl, rfl, rfl, rfl, rfl⟩
    · refine v_iload_n hX d_T_character_12 rfl rfl ?_
      refine v_if_lt hX d_T_character_13 (tgt := 36) (by decide) (fun c13 => ?_) (fun c13 => ?_)
      · refine v_iconst (v := (-1)) hX d_T_character_36 (by decide) ?_
        exact v_iret hX hE d_T_character_37 (by have a := hP.2; have b := hx; show _ ≤ 120 + (2663816 - Phi rs) / 16; omega) (by have a := hP.1; have b := hx; show _ ≤ 700000 + (2663816 - Phi rs); omega) ⟨⟨_, rfl⟩, rfl, rfl, rfl, rfl, rfl⟩
      · refine v_iload_n hX d_T_character_16 rfl rfl ?_
        refine v_aload_n hX d_T_character_17 rfl rfl ?_
        refine v_get hX t (v := .int (sh t).1) inT3 (hI.sheet ht).1 (hI.sheet ht).2.1 (hI.sheet ht).2.2 rfl 8 (by decide) fl_T_47 rfl rfl d_T_character_18 ?_
        refine v_icmp_ge hX d_T_character_21 (tgt := 36) (by decide) (fun c21 => ?_) (fun c21 => ?_)
        · refine v_iconst (v := (-1)) hX d_T_character_36 (by decide) ?_
          exact v_iret hX hE d_T_character_37 (by have a := hP.2; have b := hx; show _ ≤ 120 + (2663816 - Phi rs) / 16; omega) (by have a := hP.1; have b := hx; show _ ≤ 700000 + (2663816 - Phi rs); omega) ⟨⟨_, rfl⟩, rfl, rfl, rfl, rfl, rfl⟩
        · refine v_iload_n hX d_T_character_24 rfl rfl ?_
          refine v_if_lt hX d_T_character_25 (tgt := 36) (by decide) (fun c25 => ?_) (fun c25 => ?_)
          · refine v_iconst (v := (-1)) hX d_T_character_36 (by decide) ?_
            exact v_iret hX hE d_T_character_37 (by have a := hP.2; have b := hx; show _ ≤ 120 + (2663816 - Phi rs) / 16; omega) (by have a := hP.1; have b := hx; show _ ≤ 700000 + (2663816 - Phi rs); omega) ⟨⟨_, rfl⟩, rfl, rfl, rfl, rfl, rfl⟩
          · refine v_iload_n hX d_T_character_28 rfl rfl ?_
            refine v_aload_n hX d_T_character_29 rfl rfl ?_
            refine v_get hX t (v := .int (sh t).2.1) inT3 (hI.sheet ht).1 (hI.sheet ht).2.1 (hI.sheet ht).2.2 rfl 9 (by decide) fl_T_51 rfl rfl d_T_character_30 ?_
            refine v_icmp_lt hX d_T_character_33 (tgt := 38) (by decide) (fun c33 => ?_) (fun c33 => ?_)
            · refine v_iload_n hX d_T_character_38 rfl rfl ?_
              refine v_aload_n hX d_T_character_39 rfl rfl ?_
              refine v_get hX t (v := .ref (ob (t + 15))) inT3 (hI.sheet ht).1 (hI.sheet ht).2.1 (hI.sheet ht).2.2 rfl 7 (by decide) fl_T_36 rfl rfl d_T_character_40 ?_
              refine v_iload_n hX d_T_character_43 rfl rfl ?_
              refine c_V hX (t + 15) (rest := [.int x1]) hl (L_get hI (t + 15) (shRK ht 7 (by decide)) x0) ml_T_62 im_R_get se_R_get in_R cd_R_get rfl q_R_get ⟨(Nat.le_of_ble_eq_true rfl), (Nat.le_of_ble_eq_true rfl)⟩ (hI.1.1 (t + 15) (shRK ht 7 (by decide))).1 (hI.1.1 (t + 15) (shRK ht 7 (by decide))).2.2.1 (hI.1.1 (t + 15) (shRK ht 7 (by decide))).2.2.2.1.v rfl rfl rfl rfl (Nat.le_of_ble_eq_true rfl) d_T_character_44 ⟨by have a := hP.2; have b := hx; show _ + 100 ≤ 120 + (2663816 - Phi rs) / 16; omega, by have a := hP.1; have b := hx; show _ + 200000 ≤ 700000 + (2663816 - Phi rs); omega⟩ (fun rv d2 lo2 va2 kc ns hp => ?_)
              obtain ⟨⟨v1, rfl⟩, rfl, rfl, rfl, rfl, rfl⟩ := hp
              show V X D CL A _ _ _ _ _ _ _ (.int v1 :: [.int x1])
              refine v_icmp_lt hX d_T_character_47 (tgt := 53) (by decide) (fun c47 => ?_) (fun c47 => ?_)
              · refine v_aload_n hX d_T_character_53 rfl rfl ?_
                refine v_get hX t (v := .ref (ob (t + 13))) inT3 (hI.sheet ht).1 (hI.sheet ht).2.1 (hI.sheet ht).2.2 rfl 6 (by decide) fl_T_33 rfl rfl d_T_character_54 ?_
                refine v_iload_n hX d_T_character_57 rfl rfl ?_
                refine c_V hX (t + 13) (rest := []) hl (L_get hI (t + 13) (shRK ht 6 (by decide)) x0) ml_T_62 im_R_get se_R_get in_R cd_R_get rfl q_R_get ⟨(Nat.le_of_ble_eq_true rfl), (Nat.le_of_ble_eq_true rfl)⟩ (hI.1.1 (t + 13) (shRK ht 6 (by decide))).1 (hI.1.1 (t + 13) (shRK ht 6 (by decide))).2.2.1 (hI.1.1 (t + 13) (shRK ht 6 (by decide))).2.2.2.1.v rfl rfl rfl rfl (Nat.le_of_ble_eq_true rfl) d_T_character_58 ⟨by have a := hP.2; have b := hx; show _ + 100 ≤ 120 + (2663816 - Phi rs) / 16; omega, by have a := hP.1; have b := hx; show _ + 200000 ≤ 700000 + (2663816 - Phi rs); omega⟩ (fun rv d2 lo2 va2 kc ns hp => ?_)
                obtain ⟨⟨v2, rfl⟩, rfl, rfl, rfl, rfl, rfl⟩ := hp
                show V X D CL A _ _ _ _ _ _ _ (.int v2 :: [])
                refine v_iload_n hX d_T_character_61 rfl rfl ?_
                refine v_iadd hX d_T_character_62 ?_
                refine v_istore (lv' := [some (.ref (ob t)), some (.int x0), some (.int x1), some (.int x2), some (.int (v2 + x1))]) hX d_T_character_63 (Nat.le_of_ble_eq_true rfl) rfl ?_
                refine v_iload_n hX d_T_character_65 rfl rfl ?_
                refine v_aload_n hX d_T_character_66 rfl rfl ?_
                refine v_get hX t (v := .ref (ob (t + 5))) inT3 (hI.sheet ht).1 (hI.sheet ht).2.1 (hI.sheet ht).2.2 rfl 2 (by decide) fl_T_21 rfl rfl d_T_character_67 ?_
                refine v_iload hX d_T_character_70 rfl ?_
                refine c_V hX (t + 5) (rest := [.int x2]) hl (L_get hI (t + 5) (shRK ht 2 (by decide)) (v2 + x1)) ml_T_62 im_R_get se_R_get in_R cd_R_get rfl q_R_get ⟨(Nat.le_of_ble_eq_true rfl), (Nat.le_of_ble_eq_true rfl)⟩ (hI.1.1 (t + 5) (shRK ht 2 (by decide))).1 (hI.1.1 (t + 5) (shRK ht 2 (by decide))).2.2.1 (hI.1.1 (t + 5) (shRK ht 2 (by decide))).2.2.2.1.v rfl rfl rfl rfl (Nat.le_of_ble_eq_true rfl) d_T_character_72 ⟨by have a := hP.2; have b := hx; show _ + 100 ≤ 120 + (2663816 - Phi rs) / 16; omega, by have a := hP.1; have b := hx; show _ + 200000 ≤ 700000 + (2663816 - Phi rs); omega⟩ (fun rv d2 lo2 va2 kc ns hp => ?_)
                obtain ⟨⟨v3, rfl⟩, rfl, rfl, rfl, rfl, rfl⟩ := hp
                show V X D CL A _ _ _ _ _ _ _ (.int v3 :: [.int x2])
                refine v_icmp_ge hX d_T_character_75 (tgt := 99) (by decide) (fun c75 => ?_) (fun c75 => ?_)
                · refine v_bipush (v := 32) hX d_T_character_99 (by decide) ?_
                  exact v_iret hX hE d_T_character_101 (by have a := hP.2; have b := hx; show _ ≤ 120 + (2663816 - Phi rs) / 16; omega) (by have a := hP.1; have b := hx; show _ ≤ 700000 + (2663816 - Phi rs); omega) ⟨⟨_, rfl⟩, rfl, rfl, rfl, rfl, rfl⟩
                · refine v_aload_n hX d_T_character_78 rfl rfl ?_
                  refine v_get hX t (v := .ref (ob (t + 1))) inT3 (hI.sheet ht).1 (hI.sheet ht).2.1 (hI.sheet ht).2.2 rfl 0 (by decide) fl_T_12 rfl rfl d_T_character_79 ?_
                  refine v_aload_n hX d_T_character_82 rfl rfl ?_
                  refine v_get hX t (v := .ref (ob (t + 3))) inT3 (hI.sheet ht).1 (hI.sheet ht).2.1 (hI.sheet ht).2.2 rfl 1 (by decide) fl_T_18 rfl rfl d_T_character_83 ?_
                  refine v_iload hX d_T_character_86 rfl ?_
                  refine c_V hX (t + 3) (rest := [.ref (ob (t + 1))]) hl (L_get hI (t + 3) (shRK ht 1 (by decide)) (v2 + x1)) ml_T_62 im_R_get se_R_get in_R cd_R_get rfl q_R_get ⟨(Nat.le_of_ble_eq_true rfl), (Nat.le_of_ble_eq_true rfl)⟩ (hI.1.1 (t + 3) (shRK ht 1 (by decide))).1 (hI.1.1 (t + 3) (shRK ht 1 (by decide))).2.2.1 (hI.1.1 (t + 3) (shRK ht 1 (by decide))).2.2.2.1.v rfl rfl rfl rfl (Nat.le_of_ble_eq_true rfl) d_T_character_88 ⟨by have a := hP.2; have b := hx; show _ + 100 ≤ 120 + (2663816 - Phi rs) / 16; omega, by have a := hP.1; have b := hx; show _ + 200000 ≤ 700000 + (2663816 - Phi rs); omega⟩ (fun rv d2 lo2 va2 kc ns hp => ?_)
                  obtain ⟨⟨v4, rfl⟩, rfl, rfl, rfl, rfl, rfl⟩ := hp
                  show V X D CL A _ _ _ _ _ _ _ (.int v4 :: [.ref (ob (t + 1))])
                  refine v_iload_n hX d_T_character_91 rfl rfl ?_
                  refine v_iadd hX d_T_character_92 ?_
                  refine c_V hX (t + 1) (rest := []) hl (L_get hI (t + 1) (shRK ht 0 (by decide)) (v4 + x2)) ml_T_62 im_R_get se_R_get in_R cd_R_get rfl q_R_get ⟨(Nat.le_of_ble_eq_true rfl), (Nat.le_of_ble_eq_true rfl)⟩ (hI.1.1 (t + 1) (shRK ht 0 (by decide))).1 (hI.1.1 (t + 1) (shRK ht 0 (by decide))).2.2.1 (hI.1.1 (t + 1) (shRK ht 0 (by decide))).2.2.2.1.v rfl rfl rfl rfl (Nat.le_of_ble_eq_true rfl) d_T_character_93 ⟨by have a := hP.2; have b := hx; show _ + 100 ≤ 120 + (2663816 - Phi rs) / 16; omega, by have a := hP.1; have b := hx; show _ + 200000 ≤ 700000 + (2663816 - Phi rs); omega⟩ (fun rv d2 lo2 va2 kc ns hp => ?_)
                  obtain ⟨⟨v5, rfl⟩, rfl, rfl, rfl, rfl, rfl⟩ := hp
                  show V X D CL A _ _ _ _ _ _ _ (.int v5 :: [])
                  refine v_goto hX d_T_character_96 (tgt := 101) (by decide) ?_
                  exact v_iret hX hE d_T_character_101 (by have a := hP.2; have b := hx; show _ ≤ 120 + (2663816 - Phi rs) / 16; omega) (by have a := hP.1; have b := hx; show _ ≤ 700000 + (2663816 - Phi rs); omega) ⟨⟨_, rfl⟩, rfl, rfl, rfl, rfl, rfl⟩
              · refine v_bipush (v := 32) hX d_T_character_50 (by decide) ?_
                exact v_iret hX hE d_T_character_52 (by have a := hP.2; have b := hx; show _ ≤ 120 + (2663816 - Phi rs) / 16; omega) (by have a := hP.1; have b := hx; show _ ≤ 700000 + (2663816 - Phi rs); omega) ⟨⟨_, rfl⟩, rfl, rfl, rfl, rfl, rfl⟩
            · refine v_iconst (v := (-1)) hX d_T_character_36 (by decide) ?_
              exact v_iret hX hE d_T_character_37 (by have a := hP.2; have b := hx; show _ ≤ 120 + (2663816 - Phi rs) / 16; omega) (by have a := hP.1; have b := hx; show _ ≤ 700000 + (2663816 - Phi rs); omega) ⟨⟨_, rfl⟩, rfl, rfl, rfl, rfl, rfl⟩
end
section
set_option maxHeartbeats 4000000 in
set_option maxRecDepth 100000 in
theorem c_T_reset {l : Launch} {D : va_G} {A : Nat → Prop} {cI cB cZ cJ cN : ClassId} {ob : Nat → Nat} {td : Nat} {rs : RS} {sh : Nat → Int32 × Int32 × Int32} {dom : Nat → Prop} {loc : Nat → Nat} {val : Nat → va_E} (hI : LayI cI ob td rs sh dom loc val) {t : Nat} (ht : t = 5 ∨ t = 30) (x y : Int32) : kM l y_T_reset (Cond.code y_T_reset b_T_reset 3 none :: TT) (rmP 2 (Phi rs)) D CL (TY cI cB cZ cJ cN) A [.ref (ob t), .int x, .int y] dom loc val (fun rv d lo va kc ns => rv = none ∧ dom = d ∧ (∃ rs2 sh2, LayI cI ob td rs2 sh2 dom lo va ∧ ((rs2 (t + 1)).1 = 0 ∧ (rs2 (t + 3)).1 = 0 ∧ (rs2 (t + 5)).1 = 0 ∧ (rs2 (t + 7)).1 = 0 ∧ (rs2 (t + 9)).1 = 0 ∧ (rs2 (t + 11)).1 = 0 ∧ (rs2 (t + 13)).1 = 0 ∧ (rs2 (t + 15)).1 = 0) ∧ (∀ j, ¬ (t < j ∧ j ≤ t + 15) → rs2 j = rs j) ∧ pay rs rs2 kc ns) ∧ frL loc val lo va) := by
  refine kM_of (lv0 := [some (.ref (ob t)), some (.int x), some (.int y)]) (own := "ProsePages$Sheet") (by decide) rfl (List.forall_mem_cons.mpr ⟨rfl, List.forall_mem_cons.mpr ⟨rfl, List.forall_mem_cons.mpr ⟨rfl, fun _ h => nomatch h⟩⟩⟩) (Nat.le_of_ble_eq_true rfl) rfl (Nat.le_of_ble_eq_true rfl) (fun X hl hX hE hin0 => ?_)
  have hP : pay rs rs 0 0 := pay.rf
  have hx : Phi rs ≤ 2663816 := hI.1.phi
  refine v_aload_n hX d_T_reset_0 rfl rfl ?_
  refine v_get hX t (v := .ref (ob (t + 1))) inT3 (hI.sheet ht).1 (hI.sheet ht).2.1 (hI.sheet ht).2.2 rfl 0 (by decide) fl_T_12 rfl rfl d_T_reset_1 ?_
  refine v_iconst (v := 0) hX d_T_reset_4 (by decide) ?_
  refine c_V hX (t + 1) (rest := []) hl (L_cut hI (t + 1) (shRK ht 0 (by decide)) 0 (by decide)) ml_T_43 im_R_cut se_R_cut in_R cd_R_cut rfl q_R_cut ⟨(Nat.le_of_ble_eq_true rfl), (Nat.le_of_ble_eq_true rfl)⟩ (hI.1.1 (t + 1) (shRK ht 0 (by decide))).1 (hI.1.1 (t + 1) (shRK ht 0 (by decide))).2.2.1 (hI.1.1 (t + 1) (shRK ht 0 (by decide))).2.2.2.1.v rfl rfl rfl rfl (Nat.le_of_ble_eq_true rfl) d_T_reset_5 ⟨by have a := hP.2; have b := hx; show _ + 100 ≤ 120 + (2663816 - Phi rs) / 16; omega, by have a := hP.1; have b := hx; show _ + 200000 ≤ 700000 + (2663816 - Phi rs); omega⟩ (fun rv d2 lo1 va1 kc1 ns1 hp => ?_)
  obtain ⟨rfl, rfl, ⟨rs1, hI1, hs1, ho1, hp1⟩, hf1⟩ := hp
  show V X D CL A _ _ _ _ _ _ _ []
  have hP1 : pay rs rs1 (0 + kc1) (0 + ns1) := ⟨by have a := hP.1; have b := hp1.1; omega, by have a := hP.2; have b := hp1.2; omega⟩
  have hx1 : Phi rs1 ≤ 2663816 := hI1.1.phi
  refine v_aload_n hX d_T_reset_8 rfl rfl ?_
  refine v_get hX t (v := .ref (ob (t + 3))) inT3 (hI1.sheet ht).1 (hI1.sheet ht).2.1 (hI1.sheet ht).2.2 rfl 1 (by decide) fl_T_18 rfl rfl d_T_reset_9 ?_
  refine v_iconst (v := 0) hX d_T_reset_12 (by decide) ?_
  refine c_V hX (t + 3) (rest := []) hl (L_cut hI1 (t + 3) (shRK ht 1 (by decide)) 0 (by decide)) ml_T_43 im_R_cut se_R_cut in_R cd_R_cut rfl q_R_cut ⟨(Nat.le_of_ble_eq_true rfl), (Nat.le_of_ble_eq_true rfl)⟩ (hI1.1.1 (t + 3) (shRK ht 1 (by decide))).1 (hI1.1.1 (t + 3) (shRK ht 1 (by decide))).2.2.1 (hI1.1.1 (t + 3) (shRK ht 1 (by decide))).2.2.2.1.v rfl rfl rfl rfl (Nat.le_of_ble_eq_true rfl) d_T_reset_13 ⟨by have a := hP1.2; have b := hx1; show _ + 100 ≤ 120 + (2663816 - Phi rs) / 16; omega, by have a := hP1.1; have b := hx1; show _ + 200000 ≤ 700000 + (2663816 - Phi rs); omega⟩ (fun rv d2 lo2 va2 kc2 ns2 hp => ?_)
  obtain ⟨rfl, rfl, ⟨rs2, hI2, hs2, ho2, hp2⟩, hf2⟩ := hp
  show V X D CL A _ _ _ _ _ _ _ []
  have hP2 : pay rs rs2 (0 + kc1 + kc2) (0 + ns1 + ns2) := ⟨by have a := hP1.1; have b := hp2.1; omega, by have a := hP1.2; have b := hp2.2; omega⟩
  have hx2 : Phi rs2 ≤ 2663816 := hI2.1.phi
  refine v_aload_n hX d_T_reset_16 rfl rfl ?_
  refine v_get hX t (v := .ref (ob (t + 5))) inT3 (hI2.sheet ht).1 (hI2.sheet ht).2.1 (hI2.sheet ht).2.2 rfl 2 (by decide) fl_T_21 rfl rfl d_T_reset_17 ?_
  refine v_iconst (v := 0) hX d_T_reset_20 (by decide) ?_
  refine c_V hX (t + 5) (rest := []) hl (L_cut hI2 (t + 5) (shRK ht 2 (by decide)) 0 (by decide)) ml_T_43 im_R_cut se_R_cut in_R cd_R_cut rfl q_R_cut ⟨(Nat.le_of_ble_eq_true rfl), (Nat.le_of_ble_eq_true rfl)⟩ (hI2.1.1 (t + 5) (shRK ht 2 (by decide))).1 (hI2.1.1 (t + 5) (shRK ht 2 (by decide))).2.2.1 (hI2.1.1 (t + 5) (shRK ht 2 (by decide))).2.2.2.1.v rfl rfl rfl rfl (Nat.le_of_ble_eq_true rfl) d_T_reset_21 ⟨by have a := hP2.2; have b := hx2; show _ + 100 ≤ 120 + (2663816 - Phi rs) / 16; omega, by have a := hP2.1; have b := hx2; show _ + 200000 ≤ 700000 + (2663816 - Phi rs); omega⟩ (fun rv d2 lo3 va3 kc3 ns3 hp => ?_)
  obtain ⟨rfl, rfl, ⟨rs3, hI3, hs3, ho3, hp3⟩, hf3⟩ := hp
  show V X D CL A _ _ _ _ _ _ _ []
  have hP3 : pay rs rs3 (0 + kc1 + kc2 + kc3) (0 + ns1 + ns2 + ns3) := ⟨by have a := hP2.1; have b := hp3.1; omega, by have a := hP2.2; have b := hp3.2; omega⟩
  have hx3 : Phi rs3 ≤ 2663816 := hI3.1.phi
  refine v_aload_n hX d_T_reset_24 rfl rfl ?_
  refine v_get hX t (v := .ref (ob (t + 7))) inT3 (hI3.sheet ht).1 (hI3.sheet ht).2.1 (hI3.sheet ht).2.2 rfl 3 (by decide) fl_T_24 rfl rfl d_T_reset_25 ?_
  refine v_iconst (v := 0) hX d_T_reset_28 (by decide) ?_
  refine c_V hX (t + 7) (rest := []) hl (L_cut hI3 (t + 7) (shRK ht 3 (by decide)) 0 (by decide)) ml_T_43 im_R_cut se_R_cut in_R cd_R_cut rfl q_R_cut ⟨(Nat.le_of_ble_eq_true rfl), (Nat.le_of_ble_eq_true rfl)⟩ (hI3.1.1 (t + 7) (shRK ht 3 (by decide))).1 (hI3.1.1 (t + 7) (shRK ht 3 (by decide))).2.2.1 (hI3.1.1 (t + 7) (shRK ht 3 (by decide))).2.2.2.1.v rfl rfl rfl rfl (Nat.le_of_ble_eq_true rfl) d_T_reset_29 ⟨by have a := hP3.2; have b := hx3; show _ + 100 ≤ 120 + (2663816 - Phi rs) / 16; omega, by have a := hP3.1; have b := hx3; show _ + 200000 ≤ 700000 + (2663816 - Phi rs); omega⟩ (fun rv d2 lo4 va4 kc4 ns4 hp => ?_)
  obtain ⟨rfl, rfl, ⟨rs4, hI4, hs4, ho4, hp4⟩, hf4⟩ := hp
  show V X D CL A _ _ _ _ _ _ _ []
  have hP4 : pay rs rs4 (0 + kc1 + kc2 + kc3 + kc4) (0 + ns1 + ns2 + ns3 + ns4) := ⟨by have a := hP3.1; have b := hp4.1; omega, by have a := hP3.2; have b := hp4.2; omega⟩
  have hx4 : Phi rs4 ≤ 2663816 := hI4.1.phi
  refine v_aload_n hX d_T_reset_32 rfl rfl ?_
  refine v_get hX t (v := .ref (ob (t + 9))) inT3 (hI4.sheet ht).1 (hI4.sheet ht).2.1 (hI4.sheet ht).2.2 rfl 4 (by decide) fl_T_27 rfl rfl d_T_reset_33 ?_
  refine v_iconst (v := 0) hX d_T_reset_36 (by decide) ?_
  refine c_V hX (t + 9) (rest := []) hl (L_cut hI4 (t + 9) (shRK ht 4 (by decide)) 0 (by decide)) ml_T_43 im_R_cut se_R_cut in_R cd_R_cut rfl q_R_cut ⟨(Nat.le_of_ble_eq_true rfl), (Nat.le_of_ble_eq_true rfl)⟩ (hI4.1.1 (t + 9) (shRK ht 4 (by decide))).1 (hI4.1.1 (t + 9) (shRK ht 4 (by decide))).2.2.1 (hI4.1.1 (t + 9) (shRK ht 4 (by decide))).2.2.2.1.v rfl rfl rfl rfl (Nat.le_of_ble_eq_true rfl) d_T_reset_37 ⟨by have a := hP4.2; have b := hx4; show _ + 100 ≤ 120 + (2663816 - Phi rs) / 16; omega, by have a := hP4.1; have b := hx4; show _ + 200000 ≤ 700000 + (2663816 - Phi rs); omega⟩ (fun rv d2 lo5 va5 kc5 ns5 hp => ?_)
  obtain ⟨rfl, rfl, ⟨rs5, hI5, hs5, ho5, hp5⟩, hf5⟩ := hp
  show V X D CL A _ _ _ _ _ _ _ []
  have hP5 : pay rs rs5 (0 + kc1 + kc2 + kc3 + kc4 + kc5) (0 + ns1 + ns2 + ns3 + ns4 + ns5) := ⟨by have a := hP4.1; have b := hp5.1; omega, by have a := hP4.2; have b := hp5.2; omega⟩
  have hx5 : Phi rs5 ≤ 2663816 := hI5.1.phi
  refine v_aload_n hX d_T_reset_40 rfl rfl ?_
  refine v_get hX t (v := .ref (ob (t + 11))) inT3 (hI5.sheet ht).1 (hI5.sheet ht).2.1 (hI5.sheet ht).2.2 rfl 5 (by decide) fl_T_30 rfl rfl d_T_reset_41 ?_
  refine v_iconst (v := 0) hX d_T_reset_44 (by decide) ?_
  refine c_V hX (t + 11) (rest := []) hl (L_cut hI5 (t + 11) (shRK ht 5 (by decide)) 0 (by decide)) ml_T_43 im_R_cut se_R_cut in_R cd_R_cut rfl q_R_cut ⟨(Nat.le_of_ble_eq_true rfl), (Nat.le_of_ble_eq_true rfl)⟩ (hI5.1.1 (t + 11) (shRK ht 5 (by decide))).1 (hI5.1.1 (t + 11) (shRK ht 5 (by decide))).2.2.1 (hI5.1.1 (t + 11) (shRK ht 5 (by decide))).2.2.2.1.v rfl rfl rfl rfl (Nat.le_of_ble_eq_true rfl) d_T_reset_45 ⟨by have a := hP5.2; have b := hx5; show _ + 100 ≤ 120 + (2663816 - Phi rs) / 16; omega, by have a := hP5.1; have b := hx5; show _ + 200000 ≤ 700000 + (2663816 - Phi rs); omega⟩ (fun rv d2 lo6 va6 kc6 ns6 hp => ?_)
  obtain ⟨rfl, rfl, ⟨rs6, hI6, hs6, ho6, hp6⟩, hf6⟩ := hp
  show V X D CL A _ _ _ _ _ _ _ []
  have hP6 : pay rs rs6 (0 + kc1 + kc2 + kc3 + kc4 + kc5 + kc6) (0 + ns1 + ns2 + ns3 + ns4 + ns5 + ns6) := ⟨by have a := hP5.1; have b := hp6.1; omega, by have a := hP5.2; have b := hp6.2; omega⟩
  have hx6 : Phi rs6 ≤ 2663816 := hI6.1.phi
  refine v_aload_n hX d_T_reset_48 rfl rfl ?_
  refine v_get hX t (v := .ref (ob (t + 13))) inT3 (hI6.sheet ht).1 (hI6.sheet ht).2.1 (hI6.sheet ht).2.2 rfl 6 (by decide) fl_T_33 rfl rfl d_T_reset_49 ?_
  refine v_iconst (v := 0) hX d_T_reset_52 (by decide) ?_
  refine c_V hX (t + 13) (rest := []) hl (L_cut hI6 (t + 13) (shRK ht 6 (by decide)) 0 (by decide)) ml_T_43 im_R_cut se_R_cut in_R cd_R_cut rfl q_R_cut ⟨(Nat.le_of_ble_eq_true rfl), (Nat.le_of_ble_eq_true rfl)⟩ (hI6.1.1 (t + 13) (shRK ht 6 (by decide))).1 (hI6.1.1 (t + 13) (shRK ht 6 (by decide))).2.2.1 (hI6.1.1 (t + 13) (shRK ht 6 (by decide))).2.2.2.1.v rfl rfl rfl rfl (Nat.le_of_ble_eq_true rfl) d_T_reset_53 ⟨by have a := hP6.2; have b := hx6; show _ + 100 ≤ 120 + (2663816 - Phi rs) / 16; omega, by have a := hP6.1; have b := hx6; show _ + 200000 ≤ 700000 + (2663816 - Phi rs); omega⟩ (fun rv d2 lo7 va7 kc7 ns7 hp => ?_)
  obtain ⟨rfl, rfl, ⟨rs7, hI7, hs7, ho7, hp7⟩, hf7⟩ := hp
  show V X D CL A _ _ _ _ _ _ _ []
  have hP7 : pay rs rs7 (0 + kc1 + kc2 + kc3 + kc4 + kc5 + kc6 + kc7) (0 + ns1 + ns2 + ns3 + ns4 + ns5 + ns6 + ns7) := ⟨by have a := hP6.1; have b := hp7.1; omega, by have a := hP6.2; have b := hp7.2; omega⟩
  have hx7 : Phi rs7 ≤ 2663816 := hI7.1.phi
  refine v_aload_n hX d_T_reset_56 rfl rfl ?_
  refine v_get hX t (v := .ref (ob (t + 15))) inT3 (hI7.sheet ht).1 (hI7.sheet ht).2.1 (hI7.sheet ht).2.2 rfl 7 (by decide) fl_T_36 rfl rfl d_T_reset_57 ?_
  refine v_iconst (v := 0) hX d_T_reset_60 (by decide) ?_
  refine c_V hX (t + 15) (rest := []) hl (L_cut hI7 (t + 15) (shRK ht 7 (by decide)) 0 (by decide)) ml_T_43 im_R_cut se_R_cut in_R cd_R_cut rfl q_R_cut ⟨(Nat.le_of_ble_eq_true rfl), (Nat.le_of_ble_eq_true rfl)⟩ (hI7.1.1 (t + 15) (shRK ht 7 (by decide))).1 (hI7.1.1 (t + 15) (shRK ht 7 (by decide))).2.2.1 (hI7.1.1 (t + 15) (shRK ht 7 (by decide))).2.2.2.1.v rfl rfl rfl rfl (Nat.le_of_ble_eq_true rfl) d_T_reset_61 ⟨by have a := hP7.2; have b := hx7; show _ + 100 ≤ 120 + (2663816 - Phi rs) / 16; omega, by have a := hP7.1; have b := hx7; show _ + 200000 ≤ 700000 + (2663816 - Phi rs); omega⟩ (fun rv d2 lo8 va8 kc8 ns8 hp => ?_)
  obtain ⟨rfl, rfl, ⟨rs8, hI8, hs8, ho8, hp8⟩, hf8⟩ := hp
  show V X D CL A _ _ _ _ _ _ _ []
  have hP8 : pay rs rs8 (0 + kc1 + kc2 + kc3 + kc4 + kc5 + kc6 + kc7 + kc8) (0 + ns1 + ns2 + ns3 + ns4 + ns5 + ns6 + ns7 + ns8) := ⟨by have a := hP7.1; have b := hp8.1; omega, by have a := hP7.2; have b := hp8.2; omega⟩
  have hx8 : Phi rs8 ≤ 2663816 := hI8.1.phi
  refine v_aload_n hX d_T_reset_64 rfl rfl ?_
  refine v_iload_n hX d_T_reset_65 rfl rfl ?_
  refine v_putRows hX hI8 ht fl_T_47 d_T_reset_66 (fun va9 hI9 hf9 => ?_)
  refine v_aload_n hX d_T_reset_69 rfl rfl ?_
  refine v_iload_n hX d_T_reset_70 rfl rfl ?_
  refine v_putCols hX hI9 ht fl_T_51 d_T_reset_71 (fun va10 hI10 hf10 => ?_)
  refine v_aload_n hX d_T_reset_74 rfl rfl ?_
  refine v_iconst (v := 0) hX d_T_reset_75 (by decide) ?_
  refine v_putOvf hX hI10 ht (by decide) (by decide) fl_T_54 d_T_reset_76 (fun va11 hI11 hf11 => ?_)
  exact v_vret hX hE d_T_reset_79 (by have a := hP8.2; have b := hx8; show _ ≤ 120 + (2663816 - Phi rs) / 16; omega) (by have a := hP8.1; have b := hx8; show _ ≤ 700000 + (2663816 - Phi rs); omega) ⟨rfl, rfl, ⟨rs8, (va_up (va_up (va_up sh t (x, (sh t).2.1, (sh t).2.2)) t (((va_up sh t (x, (sh t).2.1, (sh t).2.2)) t).1, y, ((va_up sh t (x, (sh t).2.1, (sh t).2.2)) t).2.2)) t (((va_up (va_up sh t (x, (sh t).2.1, (sh t).2.2)) t (((va_up sh t (x, (sh t).2.1, (sh t).2.2)) t).1, y, ((va_up sh t (x, (sh t).2.1, (sh t).2.2)) t).2.2)) t).1, ((va_up (va_up sh t (x, (sh t).2.1, (sh t).2.2)) t (((va_up sh t (x, (sh t).2.1, (sh t).2.2)) t).1, y, ((va_up sh t (x, (sh t).2.1, (sh t).2.2)) t).2.2)) t).2.1, 0)), hI11, ⟨(((congrArg Prod.fst (ho8 (t + 1) (by omega))).trans ((congrArg Prod.fst (ho7 (t + 1) (by omega))).trans ((congrArg Prod.fst (ho6 (t + 1) (by omega))).trans ((congrArg Prod.fst (ho5 (t + 1) (by omega))).trans ((congrArg Prod.fst (ho4 (t + 1) (by omega))).trans ((congrArg Prod.fst (ho3 (t + 1) (by omega))).trans ((congrArg Prod.fst (ho2 (t + 1) (by omega))).trans (eq_min hs1 rfl)))))))) : (rs8 (t + 1)).1 = min 0 (rs (t + 1)).1).trans (Nat.zero_min _), (((congrArg Prod.fst (ho8 (t + 3) (by omega))).trans ((congrArg Prod.fst (ho7 (t + 3) (by omega))).trans ((congrArg Prod.fst (ho6 (t + 3) (by omega))).trans ((congrArg Prod.fst (ho5 (t + 3) (by omega))).trans ((congrArg Prod.fst (ho4 (t + 3) (by omega))).trans ((congrArg Prod.fst (ho3 (t + 3) (by omega))).trans (eq_min hs2 ((congrArg Prod.fst (ho1 (t + 3) (by omega))).trans rfl)))))))) : (rs8 (t + 3)).1 = min 0 (rs (t + 3)).1).trans (Nat.zero_min _), (((congrArg Prod.fst (ho8 (t + 5) (by omega))).trans ((congrArg Prod.fst (ho7 (t + 5) (by omega))).trans ((congrArg Prod.fst (ho6 (t + 5) (by omega))).trans ((congrArg Prod.fst (ho5 (t + 5) (by omega))).trans ((congrArg Prod.fst (ho4 (t + 5) (by omega))).trans (eq_min hs3 ((congrArg Prod.fst (ho2 (t + 5) (by omega))).trans ((congrArg Prod.fst (ho1 (t + 5) (by omega))).trans rfl)))))))) : (rs8 (t + 5)).1 = min 0 (rs (t + 5)).1).trans (Nat.zero_min _), (((congrArg Prod.fst (ho8 (t + 7) (by omega))).trans ((congrArg Prod.fst (ho7 (t + 7) (by omega))).trans ((congrArg Prod.fst (ho6 (t + 7) (by omega))).trans ((congrArg Prod.fst (ho5 (t + 7) (by omega))).trans (eq_min hs4 ((congrArg Prod.fst (ho3 (t + 7) (by omega))).trans ((congrArg Prod.fst (ho2 (t + 7) (by omega))).trans ((congrArg Prod.fst (ho1 (t + 7) (by omega))).trans rfl)))))))) : (rs8 (t + 7)).1 = min 0 (rs (t + 7)).1).trans (Nat.zero_min _), (((congrArg Prod.fst (ho8 (t + 9) (by omega))).trans ((congrArg Prod.fst (ho7 (t + 9) (by omega))).trans ((congrArg Prod.fst (ho6 (t + 9) (by omega))).trans (eq_min hs5 ((congrArg Prod.fst (ho4 (t + 9) (by omega))).trans ((congrArg Prod.fst (ho3 (t + 9) (by omega))).trans ((congrArg Prod.fst (ho2 (t + 9) (by omega))).trans ((congrArg Prod.fst (ho1 (t + 9) (by omega))).trans rfl)))))))) : (rs8 (t + 9)).1 = min 0 (rs (t + 9)).1).trans (Nat.zero_min _), (((congrArg Prod.fst (ho8 (t + 11) (by omega))).trans ((congrArg Prod.fst (ho7 (t + 11) (by omega))).trans (eq_min hs6 ((congrArg Prod.fst (ho5 (t + 11) (by omega))).trans ((congrArg Prod.fst (ho4 (t + 11) (by omega))).trans ((congrArg Prod.fst (ho3 (t + 11) (by omega))).trans ((congrArg Prod.fst (ho2 (t + 11) (by omega))).trans ((congrArg Prod.fst (ho1 (t + 11) (by omega))).trans rfl)))))))) : (rs8 (t + 11)).1 = min 0 (rs (t + 11)).1).trans (Nat.zero_min _), (((congrArg Prod.fst (ho8 (t + 13) (by omega))).trans (eq_min hs7 ((congrArg Prod.fst (ho6 (t + 13) (by omega))).trans ((congrArg Prod.fst (ho5 (t + 13) (by omega))).trans ((congrArg Prod.fst (ho4 (t + 13) (by omega))).trans ((congrArg Prod.fst (ho3 (t + 13) (by omega))).trans ((congrArg Prod.fst (ho2 (t + 13) (by omega))).trans ((congrArg Prod.fst (ho1 (t + 13) (by omega))).trans rfl)))))))) : (rs8 (t + 13)).1 = min 0 (rs (t + 13)).1).trans (Nat.zero_min _), ((eq_min hs8 ((congrArg Prod.fst (ho7 (t + 15) (by omega))).trans ((congrArg Prod.fst (ho6 (t + 15) (by omega))).trans ((congrArg Prod.fst (ho5 (t + 15) (by omega))).trans ((congrArg Prod.fst (ho4 (t + 15) (by omega))).trans ((congrArg Prod.fst (ho3 (t + 15) (by omega))).trans ((congrArg Prod.fst (ho2 (t + 15) (by omega))).trans ((congrArg Prod.fst (ho1 (t + 15) (by omega))).trans rfl)))))))) : (rs8 (t + 15)).1 = min 0 (rs (t + 15)).1).trans (Nat.zero_min _)⟩, fun j hj => ((ho8 j (by omega)).trans ((ho7 j (by omega)).trans ((ho6 j (by omega)).trans ((ho5 j (by omega)).trans ((ho4 j (by omega)).trans ((ho3 j (by omega)).trans ((ho2 j (by omega)).trans ((ho1 j (by omega)).trans rfl)))))))), ⟨by have a := hP8.1; omega, by have a := hP8.2; omega⟩⟩, (((((((((((frL.rf.trans hf1).trans hf2).trans hf3).trans hf4).trans hf5).trans hf6).trans hf7).trans hf8).trans hf9).trans hf10).trans hf11)⟩
end
section
set_option maxHeartbeats 4000000 in
set_option maxRecDepth 100000 in
theorem c_T_pageFrom {l : Launch} {D : va_G} {A : Nat → Prop} {cI cB cZ cJ cN : ClassId} {ob : Nat → Nat} {td : Nat} {rs : RS} {sh : Nat → Int32 × Int32 × Int32} {dom : Nat → Prop} {loc : Nat → Nat} {val : Nat → va_E} (hI : LayI cI ob td rs sh dom loc val) {t : Nat} (ht : t = 5 ∨ t = 30) (x : Int32) : kM l y_T_pageFrom (Cond.code y_T_pageFrom b_T_pageFrom 3 (some FieldType.int) :: TT) (rmP 2 (Phi rs)) D CL (TY cI cB cZ cJ cN) A [.ref (ob t), .int x] dom loc val (fun rv d lo va kc ns => (∃ v, rv = some (.int v)) ∧ dom = d ∧ loc = lo ∧ val = va ∧ kc = 0 ∧ ns = 0) := by
  refine kM_of (lv0 := [some (.ref (ob t)), some (.int x), none]) (own := "ProsePages$Sheet") (by decide) rfl (List.forall_mem_cons.mpr ⟨rfl, List.forall_mem_cons.mpr ⟨rfl, fun _ h => nomatch h⟩⟩) (Nat.le_of_ble_eq_true rfl) rfl (Nat.le_of_ble_eq_true rfl) (fun X hl hX hE hin0 => ?_)
  have hP : pay rs rs 0 0 := pay.rf
  have hx : Phi rs ≤ 2663816 := hI.1.phi
  refine v_iload_n hX d_T_pageFrom_0 rfl rfl ?_
  refine v_istore_n (lv' := [some (.ref (ob t)), some (.int x), some (.int x)]) hX d_T_pageFrom_1 rfl (Nat.le_of_ble_eq_true rfl) rfl ?_
  have loop : ∀ (m9 : Nat) (k : Int32), ((nI (rs (t + 3)).1).toInt - k.toInt).toNat < m9 → V X D CL A dom loc val (0) (0) 2 [some (.ref (ob t)), some (.int x), some (.int k)] [] := by
    intro m9
    induction m9 with
    | zero => intro k hk; exact absurd hk (Nat.not_lt_zero _)
    | succ m9 ih =>
      intro k hk
      refine v_iload_n hX d_T_pageFrom_2 rfl rfl ?_
      refine v_aload_n hX d_T_pageFrom_3 rfl rfl ?_
      refine c_V hX t (rest := [.int k]) hl (c_T_lineCount hI ht) ml_T_69 im_T_lineCount se_T_lineCount in_T cd_T_lineCount rfl q_T_lineCount ⟨(Nat.le_of_ble_eq_true rfl), (Nat.le_of_ble_eq_true rfl)⟩ (hI.sheet ht).1 (hI.sheet ht).2.1 (hI.sheet ht).2.2 rfl rfl rfl rfl (Nat.le_of_ble_eq_true rfl) d_T_pageFrom_4 ⟨by have a := hP.2; have b := hx; show _ + (120 + (2663816 - Phi rs) / 16) ≤ 120 + (2663816 - Phi rs) / 16; omega, by have a := hP.1; have b := hx; show _ + (700000 + (2663816 - Phi rs)) ≤ 700000 + (2663816 - Phi rs); omega⟩ (fun rv d2 lo2 va2 kc ns hp => ?_)
      obtain ⟨rfl, rfl, rfl, rfl, rfl, rfl⟩ := hp
      show V X D CL A _ _ _ _ _ _ _ (.int (nI (rs (t + 3)).1) :: [.int k])
      refine v_icmp_ge hX d_T_pageFrom_7 (tgt := 48) (by decide) (fun c7 => ?_) (fun c7 => ?_)
      · refine v_aload_n hX d_T_pageFrom_48 rfl rfl ?_
        refine c_V hX t (rest := []) hl (c_T_pageCount hI ht) ml_T_76 im_T_pageCount se_T_pageCount in_T cd_T_pageCount rfl q_T_pageCount ⟨(Nat.le_of_ble_eq_true rfl), (Nat.le_of_ble_eq_true rfl)⟩ (hI.sheet ht).1 (hI.sheet ht).2.1 (hI.sheet ht).2.2 rfl rfl rfl rfl (Nat.le_of_ble_eq_true rfl) d_T_pageFrom_49 ⟨by have a := hP.2; have b := hx; show _ + (120 + (2663816 - Phi rs) / 16) ≤ 120 + (2663816 - Phi rs) / 16; omega, by have a := hP.1; have b := hx; show _ + (700000 + (2663816 - Phi rs)) ≤ 700000 + (2663816 - Phi rs); omega⟩ (fun rv d2 lo2 va2 kc ns hp => ?_)
        obtain ⟨rfl, rfl, rfl, rfl, rfl, rfl⟩ := hp
        show V X D CL A _ _ _ _ _ _ _ (.int (nI (rs (t + 13)).1) :: [])
        refine v_iconst (v := 1) hX d_T_pageFrom_52 (by decide) ?_
        refine v_isub hX d_T_pageFrom_53 ?_
        exact v_iret hX hE d_T_pageFrom_54 (by have a := hP.2; have b := hx; show _ ≤ 120 + (2663816 - Phi rs) / 16; omega) (by have a := hP.1; have b := hx; show _ ≤ 700000 + (2663816 - Phi rs); omega) ⟨⟨_, rfl⟩, rfl, rfl, rfl, rfl, rfl⟩
      · refine v_aload_n hX d_T_pageFrom_10 rfl rfl ?_
        refine v_get hX t (v := .ref (ob (t + 11))) inT3 (hI.sheet ht).1 (hI.sheet ht).2.1 (hI.sheet ht).2.2 rfl 5 (by decide) fl_T_30 rfl rfl d_T_pageFrom_11 ?_
        refine v_iload_n hX d_T_pageFrom_14 rfl rfl ?_
        refine c_V hX (t + 11) (rest := []) hl (L_get hI (t + 11) (shRK ht 5 (by decide)) k) ml_T_62 im_R_get se_R_get in_R cd_R_get rfl q_R_get ⟨(Nat.le_of_ble_eq_true rfl), (Nat.le_of_ble_eq_true rfl)⟩ (hI.1.1 (t + 11) (shRK ht 5 (by decide))).1 (hI.1.1 (t + 11) (shRK ht 5 (by decide))).2.2.1 (hI.1.1 (t + 11) (shRK ht 5 (by decide))).2.2.2.1.v rfl rfl rfl rfl (Nat.le_of_ble_eq_true rfl) d_T_pageFrom_15 ⟨by have a := hP.2; have b := hx; show _ + 100 ≤ 120 + (2663816 - Phi rs) / 16; omega, by have a := hP.1; have b := hx; show _ + 200000 ≤ 700000 + (2663816 - Phi rs); omega⟩ (fun rv d2 lo2 va2 kc ns hp => ?_)
        obtain ⟨⟨v1, rfl⟩, rfl, rfl, rfl, rfl, rfl⟩ := hp
        show V X D CL A _ _ _ _ _ _ _ (.int v1 :: [])
        refine v_if_ne hX d_T_pageFrom_18 (tgt := 42) (by decide) (fun c18 => ?_) (fun c18 => ?_)
        · refine v_iinc (y := (k + 1)) (lv' := [some (.ref (ob t)), some (.int x), some (.int (k + 1))]) hX d_T_pageFrom_42 rfl (by rfl) rfl ?_
          refine v_goto hX d_T_pageFrom_45 (tgt := 2) (by decide) ?_
          exact ih _ (iter_lt (Int32.not_le.mp c7) hk)
        · refine v_aload_n hX d_T_pageFrom_21 rfl rfl ?_
          refine v_get hX t (v := .ref (ob (t + 7))) inT3 (hI.sheet ht).1 (hI.sheet ht).2.1 (hI.sheet ht).2.2 rfl 3 (by decide) fl_T_24 rfl rfl d_T_pageFrom_22 ?_
          refine v_iload_n hX d_T_pageFrom_25 rfl rfl ?_
          refine c_V hX (t + 7) (rest := []) hl (L_get hI (t + 7) (shRK ht 3 (by decide)) k) ml_T_62 im_R_get se_R_get in_R cd_R_get rfl q_R_get ⟨(Nat.le_of_ble_eq_true rfl), (Nat.le_of_ble_eq_true rfl)⟩ (hI.1.1 (t + 7) (shRK ht 3 (by decide))).1 (hI.1.1 (t + 7) (shRK ht 3 (by decide))).2.2.1 (hI.1.1 (t + 7) (shRK ht 3 (by decide))).2.2.2.1.v rfl rfl rfl rfl (Nat.le_of_ble_eq_true rfl) d_T_pageFrom_26 ⟨by have a := hP.2; have b := hx; show _ + 100 ≤ 120 + (2663816 - Phi rs) / 16; omega, by have a := hP.1; have b := hx; show _ + 200000 ≤ 700000 + (2663816 - Phi rs); omega⟩ (fun rv d2 lo2 va2 kc ns hp => ?_)
          obtain ⟨⟨v2, rfl⟩, rfl, rfl, rfl, rfl, rfl⟩ := hp
          show V X D CL A _ _ _ _ _ _ _ (.int v2 :: [])
          refine v_iconst (v := (-1)) hX d_T_pageFrom_29 (by decide) ?_
          refine v_icmp_eq hX d_T_pageFrom_30 (tgt := 42) (by decide) (fun c30 => ?_) (fun c30 => ?_)
          · refine v_iinc (y := (k + 1)) (lv' := [some (.ref (ob t)), some (.int x), some (.int (k + 1))]) hX d_T_pageFrom_42 rfl (by rfl) rfl ?_
            refine v_goto hX d_T_pageFrom_45 (tgt := 2) (by decide) ?_
            exact ih _ (iter_lt (Int32.not_le.mp c7) hk)
          · refine v_aload_n hX d_T_pageFrom_33 rfl rfl ?_
            refine v_get hX t (v := .ref (ob (t + 7))) inT3 (hI.sheet ht).1 (hI.sheet ht).2.1 (hI.sheet ht).2.2 rfl 3 (by decide) fl_T_24 rfl rfl d_T_pageFrom_34 ?_
            refine v_iload_n hX d_T_pageFrom_37 rfl rfl ?_
            refine c_V hX (t + 7) (rest := []) hl (L_get hI (t + 7) (shRK ht 3 (by decide)) k) ml_T_62 im_R_get se_R_get in_R cd_R_get rfl q_R_get ⟨(Nat.le_of_ble_eq_true rfl), (Nat.le_of_ble_eq_true rfl)⟩ (hI.1.1 (t + 7) (shRK ht 3 (by decide))).1 (hI.1.1 (t + 7) (shRK ht 3 (by decide))).2.2.1 (hI.1.1 (t + 7) (shRK ht 3 (by decide))).2.2.2.1.v rfl rfl rfl rfl (Nat.le_of_ble_eq_true rfl) d_T_pageFrom_38 ⟨by have a := hP.2; have b := hx; show _ + 100 ≤ 120 + (2663816 - Phi rs) / 16; omega, by have a := hP.1; have b := hx; show _ + 200000 ≤ 700000 + (2663816 - Phi rs); omega⟩ (fun rv d2 lo2 va2 kc ns hp => ?_)
            obtain ⟨⟨v3, rfl⟩, rfl, rfl, rfl, rfl, rfl⟩ := hp
            show V X D CL A _ _ _ _ _ _ _ (.int v3 :: [])
            exact v_iret hX hE d_T_pageFrom_41 (by have a := hP.2; have b := hx; show _ ≤ 120 + (2663816 - Phi rs) / 16; omega) (by have a := hP.1; have b := hx; show _ ≤ 700000 + (2663816 - Phi rs); omega) ⟨⟨_, rfl⟩, rfl, rfl, rfl, rfl, rfl⟩
  exact loop _ _ (Nat.lt_succ_self _)
set_option maxHeartbeats 4000000 in
set_option maxRecDepth 100000 in
theorem c_T_ended {l : Launch} {D : va_G} {A : Nat → Prop} {cI cB cZ cJ cN : ClassId} {ob : Nat → Nat} {td : Nat} {rs : RS} {sh : Nat → Int32 × Int32 × Int32} {dom : Nat → Prop} {loc : Nat → Nat} {val : Nat → va_E} (hI : LayI cI ob td rs sh dom loc val) {t : Nat} (ht : t = 5 ∨ t = 30) (x y : Int32) : kM l y_T_isPageEndedBy (Cond.code y_T_isPageEndedBy b_T_isPageEndedBy 6 (some FieldType.boolean) :: TT) (rmP 2 (Phi rs)) D CL (TY cI cB cZ cJ cN) A [.ref (ob t), .int x, .int y] dom loc val (fun rv d lo va kc ns => (∃ v, rv = some (.int v)) ∧ dom = d ∧ loc = lo ∧ val = va ∧ kc = 0 ∧ ns = 0) := by
  refine kM_of (lv0 := [some (.ref (ob t)), some (.int x), some (.int y), none, none, none]) (own := "ProsePages$Sheet") (by decide) rfl (List.forall_mem_cons.mpr ⟨rfl, List.forall_mem_cons.mpr ⟨rfl, List.forall_mem_cons.mpr ⟨rfl, fun _ h => nomatch h⟩⟩⟩) (Nat.le_of_ble_eq_true rfl) rfl (Nat.le_of_ble_eq_true rfl) (fun X hl hX hE hin0 => ?_)
  have hP : pay rs rs 0 0 := pay.rf
  have hx : Phi rs ≤ 2663816 := hI.1.phi
  refine v_aload_n hX d_T_isPageEndedBy_0 rfl rfl ?_
  refine v_get hX t (v := .ref (ob (t + 9))) inT3 (hI.sheet ht).1 (hI.sheet ht).2.1 (hI.sheet ht).2.2 rfl 4 (by decide) fl_T_27 rfl rfl d_T_isPageEndedBy_1 ?_
  refine v_iload_n hX d_T_isPageEndedBy_4 rfl rfl ?_
  refine c_V hX (t + 9) (rest := []) hl (L_get hI (t + 9) (shRK ht 4 (by decide)) x) ml_T_62 im_R_get se_R_get in_R cd_R_get rfl q_R_get ⟨(Nat.le_of_ble_eq_true rfl), (Nat.le_of_ble_eq_true rfl)⟩ (hI.1.1 (t + 9) (shRK ht 4 (by decide))).1 (hI.1.1 (t + 9) (shRK ht 4 (by decide))).2.2.1 (hI.1.1 (t + 9) (shRK ht 4 (by decide))).2.2.2.1.v rfl rfl rfl rfl (Nat.le_of_ble_eq_true rfl) d_T_isPageEndedBy_5 ⟨by have a := hP.2; have b := hx; show _ + 100 ≤ 120 + (2663816 - Phi rs) / 16; omega, by have a := hP.1; have b := hx; show _ + 200000 ≤ 700000 + (2663816 - Phi rs); omega⟩ (fun rv d2 lo2 va2 kc ns hp => ?_)
  obtain ⟨⟨v1, rfl⟩, rfl, rfl, rfl, rfl, rfl⟩ := hp
  show V X D CL A _ _ _ _ _ _ _ (.int v1 :: [])
  refine v_istore_n (lv' := [some (.ref (ob t)), some (.int x), some (.int y), some (.int v1), none, none]) hX d_T_isPageEndedBy_8 rfl (Nat.le_of_ble_eq_true rfl) rfl ?_
  refine v_iload_n hX d_T_isPageEndedBy_9 rfl rfl ?_
  refine v_if_gt hX d_T_isPageEndedBy_10 (tgt := 15) (by decide) (fun c10 => ?_) (fun c10 => ?_)
  · refine v_iload_n hX d_T_isPageEndedBy_15 rfl rfl ?_
    refine v_iload_n hX d_T_isPageEndedBy_16 rfl rfl ?_
    refine v_iadd hX d_T_isPageEndedBy_17 ?_
    refine v_istore (lv' := [some (.ref (ob t)), some (.int x), some (.int y), some (.int v1), some (.int (x + v1)), none]) hX d_T_isPageEndedBy_18 (Nat.le_of_ble_eq_true rfl) rfl ?_
    have loop : ∀ (m9 : Nat) (k : Int32), ((nI (rs (t + 3)).1).toInt - k.toInt).toNat < m9 → V X D CL A dom loc val (0) (0) 20 [some (.ref (ob t)), some (.int x), some (.int y), some (.int v1), some (.int k), none] [] := by
      intro m9
      induction m9 with
      | zero => intro k hk; exact absurd hk (Nat.not_lt_zero _)
      | succ m9 ih =>
        intro k hk
        refine v_iload hX d_T_isPageEndedBy_20 rfl ?_
        refine v_aload_n hX d_T_isPageEndedBy_22 rfl rfl ?_
        refine c_V hX t (rest := [.int k]) hl (c_T_lineCount hI ht) ml_T_69 im_T_lineCount se_T_lineCount in_T cd_T_lineCount rfl q_T_lineCount ⟨(Nat.le_of_ble_eq_true rfl), (Nat.le_of_ble_eq_true rfl)⟩ (hI.sheet ht).1 (hI.sheet ht).2.1 (hI.sheet ht).2.2 rfl rfl rfl rfl (Nat.le_of_ble_eq_true rfl) d_T_isPageEndedBy_23 ⟨by have a := hP.2; have b := hx; show _ + (120 + (2663816 - Phi rs) / 16) ≤ 120 + (2663816 - Phi rs) / 16; omega, by have a := hP.1; have b := hx; show _ + (700000 + (2663816 - Phi rs)) ≤ 700000 + (2663816 - Phi rs); omega⟩ (fun rv d2 lo2 va2 kc ns hp => ?_)
        obtain ⟨rfl, rfl, rfl, rfl, rfl, rfl⟩ := hp
        show V X D CL A _ _ _ _ _ _ _ (.int (nI (rs (t + 3)).1) :: [.int k])
        refine v_icmp_ge hX d_T_isPageEndedBy_26 (tgt := 47) (by decide) (fun c26 => ?_) (fun c26 => ?_)
        · refine v_iload hX d_T_isPageEndedBy_47 rfl ?_
          refine v_iconst (v := 1) hX d_T_isPageEndedBy_49 (by decide) ?_
          refine v_iadd hX d_T_isPageEndedBy_50 ?_
          refine v_aload_n hX d_T_isPageEndedBy_51 rfl rfl ?_
          refine c_V hX t (rest := [.int (k + 1)]) hl (c_T_lineCount hI ht) ml_T_69 im_T_lineCount se_T_lineCount in_T cd_T_lineCount rfl q_T_lineCount ⟨(Nat.le_of_ble_eq_true rfl), (Nat.le_of_ble_eq_true rfl)⟩ (hI.sheet ht).1 (hI.sheet ht).2.1 (hI.sheet ht).2.2 rfl rfl rfl rfl (Nat.le_of_ble_eq_true rfl) d_T_isPageEndedBy_52 ⟨by have a := hP.2; have b := hx; show _ + (120 + (2663816 - Phi rs) / 16) ≤ 120 + (2663816 - Phi rs) / 16; omega, by have a := hP.1; have b := hx; show _ + (700000 + (2663816 - Phi rs)) ≤ 700000 + (2663816 - Phi rs); omega⟩ (fun rv d2 lo2 va2 kc ns hp => ?_)
          obtain ⟨rfl, rfl, rfl, rfl, rfl, rfl⟩ := hp
          show V X D CL A _ _ _ _ _ _ _ (.int (nI (rs (t + 3)).1) :: [.int (k + 1)])
          refine v_mmin hX ml_T_83 sm_H_min in_H k_mincode ⟨(Nat.le_of_ble_eq_true rfl), (Nat.le_of_ble_eq_true rfl)⟩ rfl rfl (Nat.le_of_ble_eq_true rfl) (by have a := hP.2; have b := hx; show _ ≤ 120 + (2663816 - Phi rs) / 16; omega) (by have a := hP.1; have b := hx; show _ ≤ 700000 + (2663816 - Phi rs); omega) d_T_isPageEndedBy_55 ?_
          refine v_iload_n hX d_T_isPageEndedBy_58 rfl rfl ?_
          refine v_isub hX d_T_isPageEndedBy_59 ?_
          refine v_istore (lv' := [some (.ref (ob t)), some (.int x), some (.int y), some (.int v1), some (.int k), some (.int ((if (nI (rs (t + 3)).1) < (k + 1) then (nI (rs (t + 3)).1) else (k + 1)) - x))]) hX d_T_isPageEndedBy_60 (Nat.le_of_ble_eq_true rfl) rfl ?_
          refine v_iload hX d_T_isPageEndedBy_62 rfl ?_
          refine v_aload_n hX d_T_isPageEndedBy_64 rfl rfl ?_
          refine v_get hX t (v := .int (sh t).1) inT3 (hI.sheet ht).1 (hI.sheet ht).2.1 (hI.sheet ht).2.2 rfl 8 (by decide) fl_T_47 rfl rfl d_T_isPageEndedBy_65 ?_
          refine v_icmp_gt hX d_T_isPageEndedBy_68 (tgt := 86) (by decide) (fun c68 => ?_) (fun c68 => ?_)
          · refine v_iconst (v := 0) hX d_T_isPageEndedBy_86 (by decide) ?_
            exact v_zret hX hE (by first | decide | rfl | exact oneOf_nar | exact blk_nar | exact inl_nar) d_T_isPageEndedBy_87 (by have a := hP.2; have b := hx; show _ ≤ 120 + (2663816 - Phi rs) / 16; omega) (by have a := hP.1; have b := hx; show _ ≤ 700000 + (2663816 - Phi rs); omega) ⟨⟨_, rfl⟩, rfl, rfl, rfl, rfl, rfl⟩
          · refine v_iload hX d_T_isPageEndedBy_71 rfl ?_
            refine v_aload_n hX d_T_isPageEndedBy_73 rfl rfl ?_
            refine v_get hX t (v := .int (sh t).1) inT3 (hI.sheet ht).1 (hI.sheet ht).2.1 (hI.sheet ht).2.2 rfl 8 (by decide) fl_T_47 rfl rfl d_T_isPageEndedBy_74 ?_
            refine v_iload_n hX d_T_isPageEndedBy_77 rfl rfl ?_
            refine v_isub hX d_T_isPageEndedBy_78 ?_
            refine v_icmp_le hX d_T_isPageEndedBy_79 (tgt := 86) (by decide) (fun c79 => ?_) (fun c79 => ?_)
            · refine v_iconst (v := 0) hX d_T_isPageEndedBy_86 (by decide) ?_
              exact v_zret hX hE (by first | decide | rfl | exact oneOf_nar | exact blk_nar | exact inl_nar) d_T_isPageEndedBy_87 (by have a := hP.2; have b := hx; show _ ≤ 120 + (2663816 - Phi rs) / 16; omega) (by have a := hP.1; have b := hx; show _ ≤ 700000 + (2663816 - Phi rs); omega) ⟨⟨_, rfl⟩, rfl, rfl, rfl, rfl, rfl⟩
            · refine v_iconst (v := 1) hX d_T_isPageEndedBy_82 (by decide) ?_
              refine v_goto hX d_T_isPageEndedBy_83 (tgt := 87) (by decide) ?_
              exact v_zret hX hE (by first | decide | rfl | exact oneOf_nar | exact blk_nar | exact inl_nar) d_T_isPageEndedBy_87 (by have a := hP.2; have b := hx; show _ ≤ 120 + (2663816 - Phi rs) / 16; omega) (by have a := hP.1; have b := hx; show _ ≤ 700000 + (2663816 - Phi rs); omega) ⟨⟨_, rfl⟩, rfl, rfl, rfl, rfl, rfl⟩
        · refine v_aload_n hX d_T_isPageEndedBy_29 rfl rfl ?_
          refine v_get hX t (v := .ref (ob (t + 5))) inT3 (hI.sheet ht).1 (hI.sheet ht).2.1 (hI.sheet ht).2.2 rfl 2 (by decide) fl_T_21 rfl rfl d_T_isPageEndedBy_30 ?_
          refine v_iload hX d_T_isPageEndedBy_33 rfl ?_
          refine c_V hX (t + 5) (rest := []) hl (L_get hI (t + 5) (shRK ht 2 (by decide)) k) ml_T_62 im_R_get se_R_get in_R cd_R_get rfl q_R_get ⟨(Nat.le_of_ble_eq_true rfl), (Nat.le_of_ble_eq_true rfl)⟩ (hI.1.1 (t + 5) (shRK ht 2 (by decide))).1 (hI.1.1 (t + 5) (shRK ht 2 (by decide))).2.2.1 (hI.1.1 (t + 5) (shRK ht 2 (by decide))).2.2.2.1.v rfl rfl rfl rfl (Nat.le_of_ble_eq_true rfl) d_T_isPageEndedBy_35 ⟨by have a := hP.2; have b := hx; show _ + 100 ≤ 120 + (2663816 - Phi rs) / 16; omega, by have a := hP.1; have b := hx; show _ + 200000 ≤ 700000 + (2663816 - Phi rs); omega⟩ (fun rv d2 lo2 va2 kc ns hp => ?_)
          obtain ⟨⟨v2, rfl⟩, rfl, rfl, rfl, rfl, rfl⟩ := hp
          show V X D CL A _ _ _ _ _ _ _ (.int v2 :: [])
          refine v_if_ne hX d_T_isPageEndedBy_38 (tgt := 47) (by decide) (fun c38 => ?_) (fun c38 => ?_)
          · refine v_iload hX d_T_isPageEndedBy_47 rfl ?_
            refine v_iconst (v := 1) hX d_T_isPageEndedBy_49 (by decide) ?_
            refine v_iadd hX d_T_isPageEndedBy_50 ?_
            refine v_aload_n hX d_T_isPageEndedBy_51 rfl rfl ?_
            refine c_V hX t (rest := [.int (k + 1)]) hl (c_T_lineCount hI ht) ml_T_69 im_T_lineCount se_T_lineCount in_T cd_T_lineCount rfl q_T_lineCount ⟨(Nat.le_of_ble_eq_true rfl), (Nat.le_of_ble_eq_true rfl)⟩ (hI.sheet ht).1 (hI.sheet ht).2.1 (hI.sheet ht).2.2 rfl rfl rfl rfl (Nat.le_of_ble_eq_true rfl) d_T_isPageEndedBy_52 ⟨by have a := hP.2; have b := hx; show _ + (120 + (2663816 - Phi rs) / 16) ≤ 120 + (2663816 - Phi rs) / 16; omega, by have a := hP.1; have b := hx; show _ + (700000 + (2663816 - Phi rs)) ≤ 700000 + (2663816 - Phi rs); omega⟩ (fun rv d2 lo2 va2 kc ns hp => ?_)
            obtain ⟨rfl, rfl, rfl, rfl, rfl, rfl⟩ := hp
            show V X D CL A _ _ _ _ _ _ _ (.int (nI (rs (t + 3)).1) :: [.int (k + 1)])
            refine v_mmin hX ml_T_83 sm_H_min in_H k_mincode ⟨(Nat.le_of_ble_eq_true rfl), (Nat.le_of_ble_eq_true rfl)⟩ rfl rfl (Nat.le_of_ble_eq_true rfl) (by have a := hP.2; have b := hx; show _ ≤ 120 + (2663816 - Phi rs) / 16; omega) (by have a := hP.1; have b := hx; show _ ≤ 700000 + (2663816 - Phi rs); omega) d_T_isPageEndedBy_55 ?_
            refine v_iload_n hX d_T_isPageEndedBy_58 rfl rfl ?_
            refine v_isub hX d_T_isPageEndedBy_59 ?_
            refine v_istore (lv' := [some (.ref (ob t)), some (.int x), some (.int y), some (.int v1), some (.int k), some (.int ((if (nI (rs (t + 3)).1) < (k + 1) then (nI (rs (t + 3)).1) else (k + 1)) - x))]) hX d_T_isPageEndedBy_60 (Nat.le_of_ble_eq_true rfl) rfl ?_
            refine v_iload hX d_T_isPageEndedBy_62 rfl ?_
            refine v_aload_n hX d_T_isPageEndedBy_64 rfl rfl ?_
            refine v_get hX t (v := .int (sh t).1) inT3 (hI.sheet ht).1 (hI.sheet ht).2.1 (hI.sheet ht).2.2 rfl 8 (by decide) fl_T_47 rfl rfl d_T_isPageEndedBy_65 ?_
            refine v_icmp_gt hX d_T_isPageEndedBy_68 (tgt := 86) (by decide) (fun c68 => ?_) (fun c68 => ?_)
            · refine v_iconst (v := 0) hX d_T_isPageEndedBy_86 (by decide) ?_
              exact v_zret hX hE (by first | decide | rfl | exact oneOf_nar | exact blk_nar | exact inl_nar) d_T_isPageEndedBy_87 (by have a := hP.2; have b := hx; show _ ≤ 120 + (2663816 - Phi rs) / 16; omega) (by have a := hP.1; have b := hx; show _ ≤ 700000 + (2663816 - Phi rs); omega) ⟨⟨_, rfl⟩, rfl, rfl, rfl, rfl, rfl⟩
            · refine v_iload hX d_T_isPageEndedBy_71 rfl ?_
              refine v_aload_n hX d_T_isPageEndedBy_73 rfl rfl ?_
              refine v_get hX t (v := .int (sh t).1) inT3 (hI.sheet ht).1 (hI.sheet ht).2.1 (hI.sheet ht).2.2 rfl 8 (by decide) fl_T_47 rfl rfl d_T_isPageEndedBy_74 ?_
              refine v_iload_n hX d_T_isPageEndedBy_77 rfl rfl ?_
              refine v_isub hX d_T_isPageEndedBy_78 ?_
              refine v_icmp_le hX d_T_isPageEndedBy_79 (tgt := 86) (by decide) (fun c79 => ?_) (fun c79 => ?_)
              · refine v_iconst (v := 0) hX d_T_isPageEndedBy_86 (by decide) ?_
                exact v_zret hX hE (by first | decide | rfl | exact oneOf_nar | exact blk_nar | exact inl_nar) d_T_isPageEndedBy_87 (by have a := hP.2; have b := hx; show _ ≤ 120 + (2663816 - Phi rs) / 16; omega) (by have a := hP.1; have b := hx; show _ ≤ 700000 + (2663816 - Phi rs); omega) ⟨⟨_, rfl⟩, rfl, rfl, rfl, rfl, rfl⟩
              · refine v_iconst (v := 1) hX d_T_isPageEndedBy_82 (by decide) ?_
                refine v_goto hX d_T_isPageEndedBy_83 (tgt := 87) (by decide) ?_
                exact v_zret hX hE (by first | decide | rfl | exact oneOf_nar | exact blk_nar | exact inl_nar) d_T_isPageEndedBy_87 (by have a := hP.2; have b := hx; show _ ≤ 120 + (2663816 - Phi rs) / 16; omega) (by have a := hP.1; have b := hx; show _ ≤ 700000 + (2663816 - Phi rs); omega) ⟨⟨_, rfl⟩, rfl, rfl, rfl, rfl, rfl⟩
          · refine v_iinc (y := (k + 1)) (lv' := [some (.ref (ob t)), some (.int x), some (.int y), some (.int v1), some (.int (k + 1)), none]) hX d_T_isPageEndedBy_41 rfl (by rfl) rfl ?_
            refine v_goto hX d_T_isPageEndedBy_44 (tgt := 20) (by decide) ?_
            exact ih _ (iter_lt (Int32.not_le.mp c26) hk)
    exact loop _ _ (Nat.lt_succ_self _)
  · refine v_iconst (v := 0) hX d_T_isPageEndedBy_13 (by decide) ?_
    exact v_zret hX hE (by first | decide | rfl | exact oneOf_nar | exact blk_nar | exact inl_nar) d_T_isPageEndedBy_14 (by have a := hP.2; have b := hx; show _ ≤ 120 + (2663816 - Phi rs) / 16; omega) (by have a := hP.1; have b := hx; show _ ≤ 700000 + (2663816 - Phi rs); omega) ⟨⟨_, rfl⟩, rfl, rfl, rfl, rfl, rfl⟩
end
section
set_option maxHeartbeats 4000000 in
set_option maxRecDepth 100000 in
theorem c_T_addLine {l : Launch} {D : va_G} {A : Nat → Prop} {cI cB cZ cJ cN : ClassId} {ob : Nat → Nat} {td : Nat} {rs : RS} {sh : Nat → Int32 × Int32 × Int32} {dom : Nat → Prop} {loc : Nat → Nat} {val : Nat → va_E} (hI : LayI cI ob td rs sh dom loc val) {t : Nat} (ht : t = 5 ∨ t = 30) (x : Int32) {nl : Nat} (hD : DC rs t nl) (h22 : (rs 22).1 ≤ 144) (h28 : (rs 28).1 ≤ 60) : kM l y_T_addLine (Cond.code y_T_addLine b_T_addLine 6 none :: TT) (rmP 2 (Phi rs)) D CL (TY cI cB cZ cJ cN) A [.ref (ob t), .ref (ob 22), .ref (ob 28), .int x] dom loc val (fun rv d lo va kc ns => rv = none ∧ dom = d ∧ (∃ rs2 sh2 nl2, LayI cI ob td rs2 sh2 dom lo va ∧ DC rs2 t nl2 ∧ nl ≤ nl2 ∧ (∀ j, ¬ (t < j ∧ j ≤ t + 11) → rs2 j = rs j) ∧ pay rs rs2 kc ns) ∧ frL loc val lo va) := by
  refine kM_of (lv0 := [some (.ref (ob t)), some (.ref (ob 22)), some (.ref (ob 28)), some (.int x), none, none]) (own := "ProsePages$Sheet") (by decide) rfl (List.forall_mem_cons.mpr ⟨rfl, List.forall_mem_cons.mpr ⟨rfl, List.forall_mem_cons.mpr ⟨rfl, List.forall_mem_cons.mpr ⟨rfl, fun _ h => nomatch h⟩⟩⟩⟩) (Nat.le_of_ble_eq_true rfl) rfl (Nat.le_of_ble_eq_true rfl) (fun X hl hX hE hin0 => ?_)
  have hP : pay rs rs 0 0 := pay.rf
  have hx : Phi rs ≤ 2663816 := hI.1.phi
  obtain ⟨d1, d2, d3, d4, d5, d6, d7⟩ := hD
  refine v_aload_n hX d_T_addLine_0 rfl rfl ?_
  refine v_get hX t (v := .ref (ob (t + 3))) inT3 (hI.sheet ht).1 (hI.sheet ht).2.1 (hI.sheet ht).2.2 rfl 1 (by decide) fl_T_18 rfl rfl d_T_addLine_1 ?_
  refine c_V hX (t + 3) (rest := []) hl (L_size hI (t + 3) (shRK ht 1 (by decide))) ml_T_39 im_R_size se_R_size in_R cd_R_size rfl q_R_size ⟨(Nat.le_of_ble_eq_true rfl), (Nat.le_of_ble_eq_true rfl)⟩ (hI.1.1 (t + 3) (shRK ht 1 (by decide))).1 (hI.1.1 (t + 3) (shRK ht 1 (by decide))).2.2.1 (hI.1.1 (t + 3) (shRK ht 1 (by decide))).2.2.2.1.v rfl rfl rfl rfl (Nat.le_of_ble_eq_true rfl) d_T_addLine_4 ⟨by have a := hP.2; have b := hx; show _ + 100 ≤ 120 + (2663816 - Phi rs) / 16; omega, by have a := hP.1; have b := hx; show _ + 200000 ≤ 700000 + (2663816 - Phi rs); omega⟩ (fun rv d2 lo2 va2 kc ns hp => ?_)
  obtain ⟨rfl, rfl, rfl, rfl, rfl, rfl⟩ := hp
  show V X D CL A _ _ _ _ _ _ _ (.int (nI (rs (t + 3)).1) :: [])
  refine v_sipush (v := 1500) hX d_T_addLine_7 (by decide) ?_
  refine v_icmp_lt hX d_T_addLine_10 (tgt := 19) (by decide) (fun c10 => ?_) (fun c10 => ?_)
  · have hnl : nl < 1500 := (nI_ltI (by omega) (by decide)).mp (by rw [← d1]; exact c10)
    refine v_aload_n hX d_T_addLine_19 rfl rfl ?_
    refine v_get hX t (v := .ref (ob (t + 1))) inT3 (hI.sheet ht).1 (hI.sheet ht).2.1 (hI.sheet ht).2.2 rfl 0 (by decide) fl_T_12 rfl rfl d_T_addLine_20 ?_
    refine c_V hX (t + 1) (rest := []) hl (L_size hI (t + 1) (shRK ht 0 (by decide))) ml_T_39 im_R_size se_R_size in_R cd_R_size rfl q_R_size ⟨(Nat.le_of_ble_eq_true rfl), (Nat.le_of_ble_eq_true rfl)⟩ (hI.1.1 (t + 1) (shRK ht 0 (by decide))).1 (hI.1.1 (t + 1) (shRK ht 0 (by decide))).2.2.1 (hI.1.1 (t + 1) (shRK ht 0 (by decide))).2.2.2.1.v rfl rfl rfl rfl (Nat.le_of_ble_eq_true rfl) d_T_addLine_23 ⟨by have a := hP.2; have b := hx; show _ + 100 ≤ 120 + (2663816 - Phi rs) / 16; omega, by have a := hP.1; have b := hx; show _ + 200000 ≤ 700000 + (2663816 - Phi rs); omega⟩ (fun rv d2 lo2 va2 kc ns hp => ?_)
    obtain ⟨rfl, rfl, rfl, rfl, rfl, rfl⟩ := hp
    show V X D CL A _ _ _ _ _ _ _ (.int (nI (rs (t + 1)).1) :: [])
    refine v_istore (lv' := [some (.ref (ob t)), some (.ref (ob 22)), some (.ref (ob 28)), some (.int x), some (.int (nI (rs (t + 1)).1)), none]) hX d_T_addLine_26 (Nat.le_of_ble_eq_true rfl) rfl ?_
    refine v_aload_n hX d_T_addLine_28 rfl rfl ?_
    refine v_get hX t (v := .ref (ob (t + 1))) inT3 (hI.sheet ht).1 (hI.sheet ht).2.1 (hI.sheet ht).2.2 rfl 0 (by decide) fl_T_12 rfl rfl d_T_addLine_29 ?_
    refine v_aload_n hX d_T_addLine_32 rfl rfl ?_
    refine c_V hX (t + 1) (rest := []) hl (L_addAll hI (t + 1) (shRK ht 0 (by decide)) 22 (by decide) (by omega) (by have a : (rs (t + 1)).1 = (rs (t + 1)).1 := rfl; have a2 : (rs 22).1 = (rs 22).1 := rfl; have b : mxOf (t + 1) = 320000 := mxS0 ht; omega)) ml_T_58 im_R_addAll se_R_addAll in_R cd_R_addAll rfl q_R_addAll ⟨(Nat.le_of_ble_eq_true rfl), (Nat.le_of_ble_eq_true rfl)⟩ (hI.1.1 (t + 1) (shRK ht 0 (by decide))).1 (hI.1.1 (t + 1) (shRK ht 0 (by decide))).2.2.1 (hI.1.1 (t + 1) (shRK ht 0 (by decide))).2.2.2.1.v rfl rfl rfl rfl (Nat.le_of_ble_eq_true rfl) d_T_addLine_33 ⟨by have a := hP.2; have b := hx; show _ + 20 ≤ 120 + (2663816 - Phi rs) / 16; omega, by have a := hP.1; have b := hx; show _ + 700000 ≤ 700000 + (2663816 - Phi rs); omega⟩ (fun rv d2 lo1 va1 kc1 ns1 hp => ?_)
    obtain ⟨rfl, rfl, ⟨rs1, hI1, hs1, ho1, hp1⟩, hf1⟩ := hp
    show V X D CL A _ _ _ _ _ _ _ []
    have hP1 : pay rs rs1 (0 + kc1) (0 + ns1) := ⟨by have a := hP.1; have b := hp1.1; omega, by have a := hP.2; have b := hp1.2; omega⟩
    have hx1 : Phi rs1 ≤ 2663816 := hI1.1.phi
    refine v_aload_n hX d_T_addLine_36 rfl rfl ?_
    refine v_get hX t (v := .ref (ob (t + 1))) inT3 (hI1.sheet ht).1 (hI1.sheet ht).2.1 (hI1.sheet ht).2.2 rfl 0 (by decide) fl_T_12 rfl rfl d_T_addLine_37 ?_
    refine v_aload_n hX d_T_addLine_40 rfl rfl ?_
    refine c_V hX (t + 1) (rest := []) hl (L_addAll hI1 (t + 1) (shRK ht 0 (by decide)) 28 (by decide) (by omega) (by have a : (rs1 (t + 1)).1 = ((rs (t + 1)).1 + (rs 22).1) := (eq_add hs1 rfl rfl); have a2 : (rs1 28).1 = (rs 28).1 := ((congrArg Prod.fst (ho1 28 (by omega))).trans rfl); have b : mxOf (t + 1) = 320000 := mxS0 ht; omega)) ml_T_58 im_R_addAll se_R_addAll in_R cd_R_addAll rfl q_R_addAll ⟨(Nat.le_of_ble_eq_true rfl), (Nat.le_of_ble_eq_true rfl)⟩ (hI1.1.1 (t + 1) (shRK ht 0 (by decide))).1 (hI1.1.1 (t + 1) (shRK ht 0 (by decide))).2.2.1 (hI1.1.1 (t + 1) (shRK ht 0 (by decide))).2.2.2.1.v rfl rfl rfl rfl (Nat.le_of_ble_eq_true rfl) d_T_addLine_41 ⟨by have a := hP1.2; have b := hx1; show _ + 20 ≤ 120 + (2663816 - Phi rs) / 16; omega, by have a := hP1.1; have b := hx1; show _ + 700000 ≤ 700000 + (2663816 - Phi rs); omega⟩ (fun rv d2 lo2 va2 kc2 ns2 hp => ?_)
    obtain ⟨rfl, rfl, ⟨rs2, hI2, hs2, ho2, hp2⟩, hf2⟩ := hp
    show V X D CL A _ _ _ _ _ _ _ []
    have hP2 : pay rs rs2 (0 + kc1 + kc2) (0 + ns1 + ns2) := ⟨by have a := hP1.1; have b := hp2.1; omega, by have a := hP1.2; have b := hp2.2; omega⟩
    have hx2 : Phi rs2 ≤ 2663816 := hI2.1.phi
    refine v_aload_n hX d_T_addLine_44 rfl rfl ?_
    refine v_get hX t (v := .ref (ob (t + 1))) inT3 (hI2.sheet ht).1 (hI2.sheet ht).2.1 (hI2.sheet ht).2.2 rfl 0 (by decide) fl_T_12 rfl rfl d_T_addLine_45 ?_
    refine c_V hX (t + 1) (rest := []) hl (L_size hI2 (t + 1) (shRK ht 0 (by decide))) ml_T_39 im_R_size se_R_size in_R cd_R_size rfl q_R_size ⟨(Nat.le_of_ble_eq_true rfl), (Nat.le_of_ble_eq_true rfl)⟩ (hI2.1.1 (t + 1) (shRK ht 0 (by decide))).1 (hI2.1.1 (t + 1) (shRK ht 0 (by decide))).2.2.1 (hI2.1.1 (t + 1) (shRK ht 0 (by decide))).2.2.2.1.v rfl rfl rfl rfl (Nat.le_of_ble_eq_true rfl) d_T_addLine_48 ⟨by have a := hP2.2; have b := hx2; show _ + 100 ≤ 120 + (2663816 - Phi rs) / 16; omega, by have a := hP2.1; have b := hx2; show _ + 200000 ≤ 700000 + (2663816 - Phi rs); omega⟩ (fun rv d2 lo2 va2 kc ns hp => ?_)
    obtain ⟨rfl, rfl, rfl, rfl, rfl, rfl⟩ := hp
    show V X D CL A _ _ _ _ _ _ _ (.int (nI (rs2 (t + 1)).1) :: [])
    refine v_istore (lv' := [some (.ref (ob t)), some (.ref (ob 22)), some (.ref (ob 28)), some (.int x), some (.int (nI (rs (t + 1)).1)), some (.int (nI (rs2 (t + 1)).1))]) hX d_T_addLine_51 (Nat.le_of_ble_eq_true rfl) rfl ?_
    have hsz : (rs2 (t + 1)).1 = (((rs (t + 1)).1 + (rs 22).1) + (rs 28).1) := (eq_add hs2 (eq_add hs1 rfl rfl) ((congrArg Prod.fst (ho1 28 (by omega))).trans rfl))
    have loop : ∀ (m9 : Nat) (e : Nat), e < m9 → e ≤ (rs (t + 1)).1 + (rs 22).1 + (rs 28).1 → V X D CL A dom lo2 va2 (0 + kc1 + kc2) (0 + ns1 + ns2) 53 [some (.ref (ob t)), some (.ref (ob 22)), some (.ref (ob 28)), some (.int x), some (.int (nI (rs (t + 1)).1)), some (.int (nI e))] [] := by
      intro m9
      induction m9 with
      | zero => intro e hk hle; exact absurd hk (Nat.not_lt_zero _)
      | succ m9 ih =>
        intro e hk hle
        refine v_iload hX d_T_addLine_53 rfl ?_
        refine v_iload hX d_T_addLine_55 rfl ?_
        refine v_icmp_le hX d_T_addLine_57 (tgt := 82) (by decide) (fun c57 => ?_) (fun c57 => ?_)
        · refine v_aload_n hX d_T_addLine_82 rfl rfl ?_
          refine v_get hX t (v := .ref (ob (t + 1))) inT3 (hI2.sheet ht).1 (hI2.sheet ht).2.1 (hI2.sheet ht).2.2 rfl 0 (by decide) fl_T_12 rfl rfl d_T_addLine_83 ?_
          refine v_iload hX d_T_addLine_86 rfl ?_
          refine c_V hX (t + 1) (rest := []) hl (L_cut hI2 (t + 1) (shRK ht 0 (by decide)) e (by omega)) ml_T_43 im_R_cut se_R_cut in_R cd_R_cut rfl q_R_cut ⟨(Nat.le_of_ble_eq_true rfl), (Nat.le_of_ble_eq_true rfl)⟩ (hI2.1.1 (t + 1) (shRK ht 0 (by decide))).1 (hI2.1.1 (t + 1) (shRK ht 0 (by decide))).2.2.1 (hI2.1.1 (t + 1) (shRK ht 0 (by decide))).2.2.2.1.v rfl rfl rfl rfl (Nat.le_of_ble_eq_true rfl) d_T_addLine_88 ⟨by have a := hP2.2; have b := hx2; show _ + 100 ≤ 120 + (2663816 - Phi rs) / 16; omega, by have a := hP2.1; have b := hx2; show _ + 200000 ≤ 700000 + (2663816 - Phi rs); omega⟩ (fun rv d2 lo3 va3 kc3 ns3 hp => ?_)
          obtain ⟨rfl, rfl, ⟨rs3, hI3, hs3, ho3, hp3⟩, hf3⟩ := hp
          show V X D CL A _ _ _ _ _ _ _ []
          have hP3 : pay rs rs3 (0 + kc1 + kc2 + kc3) (0 + ns1 + ns2 + ns3) := ⟨by have a := hP2.1; have b := hp3.1; omega, by have a := hP2.2; have b := hp3.2; omega⟩
          have hx3 : Phi rs3 ≤ 2663816 := hI3.1.phi
          refine v_aload_n hX d_T_addLine_91 rfl rfl ?_
          refine v_get hX t (v := .ref (ob (t + 3))) inT3 (hI3.sheet ht).1 (hI3.sheet ht).2.1 (hI3.sheet ht).2.2 rfl 1 (by decide) fl_T_18 rfl rfl d_T_addLine_92 ?_
          refine v_iload hX d_T_addLine_95 rfl ?_
          refine c_V hX (t + 3) (rest := []) hl (L_add hI3 (t + 3) (shRK ht 1 (by decide)) (nI (rs (t + 1)).1) (by have a : (rs3 (t + 3)).1 = nl := ((congrArg Prod.fst (ho3 (t + 3) (by omega))).trans ((congrArg Prod.fst (ho2 (t + 3) (by omega))).trans ((congrArg Prod.fst (ho1 (t + 3) (by omega))).trans d1))); have b : mxOf (t + 3) = 1501 := mxS1 ht 1 (by decide); omega)) ml_T_66 im_R_add se_R_add in_R cd_R_add rfl q_R_add ⟨(Nat.le_of_ble_eq_true rfl), (Nat.le_of_ble_eq_true rfl)⟩ (hI3.1.1 (t + 3) (shRK ht 1 (by decide))).1 (hI3.1.1 (t + 3) (shRK ht 1 (by decide))).2.2.1 (hI3.1.1 (t + 3) (shRK ht 1 (by decide))).2.2.2.1.v rfl rfl rfl rfl (Nat.le_of_ble_eq_true rfl) d_T_addLine_97 ⟨by have a := hP3.2; have b := hx3; show _ + 20 ≤ 120 + (2663816 - Phi rs) / 16; omega, by have a := hP3.1; have b := hx3; show _ + 700000 ≤ 700000 + (2663816 - Phi rs); omega⟩ (fun rv d2 lo4 va4 kc4 ns4 hp => ?_)
          obtain ⟨rfl, rfl, ⟨rs4, hI4, hs4, ho4, hp4⟩, hf4⟩ := hp
          show V X D CL A _ _ _ _ _ _ _ []
          have hP4 : pay rs rs4 (0 + kc1 + kc2 + kc3 + kc4) (0 + ns1 + ns2 + ns3 + ns4) := ⟨by have a := hP3.1; have b := hp4.1; omega, by have a := hP3.2; have b := hp4.2; omega⟩
          have hx4 : Phi rs4 ≤ 2663816 := hI4.1.phi
          refine v_aload_n hX d_T_addLine_100 rfl rfl ?_
          refine v_get hX t (v := .ref (ob (t + 5))) inT3 (hI4.sheet ht).1 (hI4.sheet ht).2.1 (hI4.sheet ht).2.2 rfl 2 (by decide) fl_T_21 rfl rfl d_T_addLine_101 ?_
          refine v_iload hX d_T_addLine_104 rfl ?_
          refine v_iload hX d_T_addLine_106 rfl ?_
          refine v_isub hX d_T_addLine_108 ?_
          refine c_V hX (t + 5) (rest := []) hl (L_add hI4 (t + 5) (shRK ht 2 (by decide)) ((nI e) - (nI (rs (t + 1)).1)) (by have a : (rs4 (t + 5)).1 = nl := ((congrArg Prod.fst (ho4 (t + 5) (by omega))).trans ((congrArg Prod.fst (ho3 (t + 5) (by omega))).trans ((congrArg Prod.fst (ho2 (t + 5) (by omega))).trans ((congrArg Prod.fst (ho1 (t + 5) (by omega))).trans d2)))); have b : mxOf (t + 5) = 1501 := mxS1 ht 2 (by decide); omega)) ml_T_66 im_R_add se_R_add in_R cd_R_add rfl q_R_add ⟨(Nat.le_of_ble_eq_true rfl), (Nat.le_of_ble_eq_true rfl)⟩ (hI4.1.1 (t + 5) (shRK ht 2 (by decide))).1 (hI4.1.1 (t + 5) (shRK ht 2 (by decide))).2.2.1 (hI4.1.1 (t + 5) (shRK ht 2 (by decide))).2.2.2.1.v rfl rfl rfl rfl (Nat.le_of_ble_eq_true rfl) d_T_addLine_109 ⟨by have a := hP4.2; have b := hx4; show _ + 20 ≤ 120 + (2663816 - Phi rs) / 16; omega, by have a := hP4.1; have b := hx4; show _ + 700000 ≤ 700000 + (2663816 - Phi rs); omega⟩ (fun rv d2 lo5 va5 kc5 ns5 hp => ?_)
          obtain ⟨rfl, rfl, ⟨rs5, hI5, hs5, ho5, hp5⟩, hf5⟩ := hp
          show V X D CL A _ _ _ _ _ _ _ []
          have hP5 : pay rs rs5 (0 + kc1 + kc2 + kc3 + kc4 + kc5) (0 + ns1 + ns2 + ns3 + ns4 + ns5) := ⟨by have a := hP4.1; have b := hp5.1; omega, by have a := hP4.2; have b := hp5.2; omega⟩
          have hx5 : Phi rs5 ≤ 2663816 := hI5.1.phi
          refine v_aload_n hX d_T_addLine_112 rfl rfl ?_
          refine v_get hX t (v := .ref (ob (t + 7))) inT3 (hI5.sheet ht).1 (hI5.sheet ht).2.1 (hI5.sheet ht).2.2 rfl 3 (by decide) fl_T_24 rfl rfl d_T_addLine_113 ?_
          refine v_iconst (v := (-1)) hX d_T_addLine_116 (by decide) ?_
          refine c_V hX (t + 7) (rest := []) hl (L_add hI5 (t + 7) (shRK ht 3 (by decide)) (-1) (by have a : (rs5 (t + 7)).1 = nl := ((congrArg Prod.fst (ho5 (t + 7) (by omega))).trans ((congrArg Prod.fst (ho4 (t + 7) (by omega))).trans ((congrArg Prod.fst (ho3 (t + 7) (by omega))).trans ((congrArg Prod.fst (ho2 (t + 7) (by omega))).trans ((congrArg Prod.fst (ho1 (t + 7) (by omega))).trans d3))))); have b : mxOf (t + 7) = 1501 := mxS1 ht 3 (by decide); omega)) ml_T_66 im_R_add se_R_add in_R cd_R_add rfl q_R_add ⟨(Nat.le_of_ble_eq_true rfl), (Nat.le_of_ble_eq_true rfl)⟩ (hI5.1.1 (t + 7) (shRK ht 3 (by decide))).1 (hI5.1.1 (t + 7) (shRK ht 3 (by decide))).2.2.1 (hI5.1.1 (t + 7) (shRK ht 3 (by decide))).2.2.2.1.v rfl rfl rfl rfl (Nat.le_of_ble_eq_true rfl) d_T_addLine_117 ⟨by have a := hP5.2; have b := hx5; show _ + 20 ≤ 120 + (2663816 - Phi rs) / 16; omega, by have a := hP5.1; have b := hx5; show _ + 700000 ≤ 700000 + (2663816 - Phi rs); omega⟩ (fun rv d2 lo6 va6 kc6 ns6 hp => ?_)
          obtain ⟨rfl, rfl, ⟨rs6, hI6, hs6, ho6, hp6⟩, hf6⟩ := hp
          show V X D CL A _ _ _ _ _ _ _ []
          have hP6 : pay rs rs6 (0 + kc1 + kc2 + kc3 + kc4 + kc5 + kc6) (0 + ns1 + ns2 + ns3 + ns4 + ns5 + ns6) := ⟨by have a := hP5.1; have b := hp6.1; omega, by have a := hP5.2; have b := hp6.2; omega⟩
          have hx6 : Phi rs6 ≤ 2663816 := hI6.1.phi
          refine v_aload_n hX d_T_addLine_120 rfl rfl ?_
          refine v_get hX t (v := .ref (ob (t + 9))) inT3 (hI6.sheet ht).1 (hI6.sheet ht).2.1 (hI6.sheet ht).2.2 rfl 4 (by decide) fl_T_27 rfl rfl d_T_addLine_121 ?_
          refine v_iconst (v := 0) hX d_T_addLine_124 (by decide) ?_
          refine c_V hX (t + 9) (rest := []) hl (L_add hI6 (t + 9) (shRK ht 4 (by decide)) 0 (by have a : (rs6 (t + 9)).1 = nl := ((congrArg Prod.fst (ho6 (t + 9) (by omega))).trans ((congrArg Prod.fst (ho5 (t + 9) (by omega))).trans ((congrArg Prod.fst (ho4 (t + 9) (by omega))).trans ((congrArg Prod.fst (ho3 (t + 9) (by omega))).trans ((congrArg Prod.fst (ho2 (t + 9) (by omega))).trans ((congrArg Prod.fst (ho1 (t + 9) (by omega))).trans d4)))))); have b : mxOf (t + 9) = 1501 := mxS1 ht 4 (by decide); omega)) ml_T_66 im_R_add se_R_add in_R cd_R_add rfl q_R_add ⟨(Nat.le_of_ble_eq_true rfl), (Nat.le_of_ble_eq_true rfl)⟩ (hI6.1.1 (t + 9) (shRK ht 4 (by decide))).1 (hI6.1.1 (t + 9) (shRK ht 4 (by decide))).2.2.1 (hI6.1.1 (t + 9) (shRK ht 4 (by decide))).2.2.2.1.v rfl rfl rfl rfl (Nat.le_of_ble_eq_true rfl) d_T_addLine_125 ⟨by have a := hP6.2; have b := hx6; show _ + 20 ≤ 120 + (2663816 - Phi rs) / 16; omega, by have a := hP6.1; have b := hx6; show _ + 700000 ≤ 700000 + (2663816 - Phi rs); omega⟩ (fun rv d2 lo7 va7 kc7 ns7 hp => ?_)
          obtain ⟨rfl, rfl, ⟨rs7, hI7, hs7, ho7, hp7⟩, hf7⟩ := hp
          show V X D CL A _ _ _ _ _ _ _ []
          have hP7 : pay rs rs7 (0 + kc1 + kc2 + kc3 + kc4 + kc5 + kc6 + kc7) (0 + ns1 + ns2 + ns3 + ns4 + ns5 + ns6 + ns7) := ⟨by have a := hP6.1; have b := hp7.1; omega, by have a := hP6.2; have b := hp7.2; omega⟩
          have hx7 : Phi rs7 ≤ 2663816 := hI7.1.phi
          refine v_aload_n hX d_T_addLine_128 rfl rfl ?_
          refine v_get hX t (v := .ref (ob (t + 11))) inT3 (hI7.sheet ht).1 (hI7.sheet ht).2.1 (hI7.sheet ht).2.2 rfl 5 (by decide) fl_T_30 rfl rfl d_T_addLine_129 ?_
          refine v_iload_n hX d_T_addLine_132 rfl rfl ?_
          refine c_V hX (t + 11) (rest := []) hl (L_add hI7 (t + 11) (shRK ht 5 (by decide)) x (by have a : (rs7 (t + 11)).1 = nl := ((congrArg Prod.fst (ho7 (t + 11) (by omega))).trans ((congrArg Prod.fst (ho6 (t + 11) (by omega))).trans ((congrArg Prod.fst (ho5 (t + 11) (by omega))).trans ((congrArg Prod.fst (ho4 (t + 11) (by omega))).trans ((congrArg Prod.fst (ho3 (t + 11) (by omega))).trans ((congrArg Prod.fst (ho2 (t + 11) (by omega))).trans ((congrArg Prod.fst (ho1 (t + 11) (by omega))).trans d5))))))); have b : mxOf (t + 11) = 1501 := mxS1 ht 5 (by decide); omega)) ml_T_66 im_R_add se_R_add in_R cd_R_add rfl q_R_add ⟨(Nat.le_of_ble_eq_true rfl), (Nat.le_of_ble_eq_true rfl)⟩ (hI7.1.1 (t + 11) (shRK ht 5 (by decide))).1 (hI7.1.1 (t + 11) (shRK ht 5 (by decide))).2.2.1 (hI7.1.1 (t + 11) (shRK ht 5 (by decide))).2.2.2.1.v rfl rfl rfl rfl (Nat.le_of_ble_eq_true rfl) d_T_addLine_133 ⟨by have a := hP7.2; have b := hx7; show _ + 20 ≤ 120 + (2663816 - Phi rs) / 16; omega, by have a := hP7.1; have b := hx7; show _ + 700000 ≤ 700000 + (2663816 - Phi rs); omega⟩ (fun rv d2 lo8 va8 kc8 ns8 hp => ?_)
          obtain ⟨rfl, rfl, ⟨rs8, hI8, hs8, ho8, hp8⟩, hf8⟩ := hp
          show V X D CL A _ _ _ _ _ _ _ []
          have hP8 : pay rs rs8 (0 + kc1 + kc2 + kc3 + kc4 + kc5 + kc6 + kc7 + kc8) (0 + ns1 + ns2 + ns3 + ns4 + ns5 + ns6 + ns7 + ns8) := ⟨by have a := hP7.1; have b := hp8.1; omega, by have a := hP7.2; have b := hp8.2; omega⟩
          have hx8 : Phi rs8 ≤ 2663816 := hI8.1.phi
          exact v_vret hX hE d_T_addLine_136 (by have a := hP8.2; have b := hx8; show _ ≤ 120 + (2663816 - Phi rs) / 16; omega) (by have a := hP8.1; have b := hx8; show _ ≤ 700000 + (2663816 - Phi rs); omega) ⟨rfl, rfl, ⟨rs8, sh, nl + 1, hI8, ⟨((congrArg Prod.fst (ho8 (t + 3) (by omega))).trans ((congrArg Prod.fst (ho7 (t + 3) (by omega))).trans ((congrArg Prod.fst (ho6 (t + 3) (by omega))).trans ((congrArg Prod.fst (ho5 (t + 3) (by omega))).trans (eq_add1 hs4 ((congrArg Prod.fst (ho3 (t + 3) (by omega))).trans ((congrArg Prod.fst (ho2 (t + 3) (by omega))).trans ((congrArg Prod.fst (ho1 (t + 3) (by omega))).trans d1)))))))), ((congrArg Prod.fst (ho8 (t + 5) (by omega))).trans ((congrArg Prod.fst (ho7 (t + 5) (by omega))).trans ((congrArg Prod.fst (ho6 (t + 5) (by omega))).trans (eq_add1 hs5 ((congrArg Prod.fst (ho4 (t + 5) (by omega))).trans ((congrArg Prod.fst (ho3 (t + 5) (by omega))).trans ((congrArg Prod.fst (ho2 (t + 5) (by omega))).trans ((congrArg Prod.fst (ho1 (t + 5) (by omega))).trans d2)))))))), ((congrArg Prod.fst (ho8 (t + 7) (by omega))).trans ((congrArg Prod.fst (ho7 (t + 7) (by omega))).trans (eq_add1 hs6 ((congrArg Prod.fst (ho5 (t + 7) (by omega))).trans ((congrArg Prod.fst (ho4 (t + 7) (by omega))).trans ((congrArg Prod.fst (ho3 (t + 7) (by omega))).trans ((congrArg Prod.fst (ho2 (t + 7) (by omega))).trans ((congrArg Prod.fst (ho1 (t + 7) (by omega))).trans d3)))))))), ((congrArg Prod.fst (ho8 (t + 9) (by omega))).trans (eq_add1 hs7 ((congrArg Prod.fst (ho6 (t + 9) (by omega))).trans ((congrArg Prod.fst (ho5 (t + 9) (by omega))).trans ((congrArg Prod.fst (ho4 (t + 9) (by omega))).trans ((congrArg Prod.fst (ho3 (t + 9) (by omega))).trans ((congrArg Prod.fst (ho2 (t + 9) (by omega))).trans ((congrArg Prod.fst (ho1 (t + 9) (by omega))).trans d4)))))))), (eq_add1 hs8 ((congrArg Prod.fst (ho7 (t + 11) (by omega))).trans ((congrArg Prod.fst (ho6 (t + 11) (by omega))).trans ((congrArg Prod.fst (ho5 (t + 11) (by omega))).trans ((congrArg Prod.fst (ho4 (t + 11) (by omega))).trans ((congrArg Prod.fst (ho3 (t + 11) (by omega))).trans ((congrArg Prod.fst (ho2 (t + 11) (by omega))).trans ((congrArg Prod.fst (ho1 (t + 11) (by omega))).trans d5)))))))), by omega, by have a : (rs8 (t + 1)).1 = (min e (((rs (t + 1)).1 + (rs 22).1) + (rs 28).1)) := ((congrArg Prod.fst (ho8 (t + 1) (by omega))).trans ((congrArg Prod.fst (ho7 (t + 1) (by omega))).trans ((congrArg Prod.fst (ho6 (t + 1) (by omega))).trans ((congrArg Prod.fst (ho5 (t + 1) (by omega))).trans ((congrArg Prod.fst (ho4 (t + 1) (by omega))).trans (eq_min hs3 (eq_add hs2 (eq_add hs1 rfl rfl) ((congrArg Prod.fst (ho1 28 (by omega))).trans rfl)))))))); omega⟩, by omega, fun j hj => ((ho8 j (by omega)).trans ((ho7 j (by omega)).trans ((ho6 j (by omega)).trans ((ho5 j (by omega)).trans ((ho4 j (by omega)).trans ((ho3 j (by omega)).trans ((ho2 j (by omega)).trans ((ho1 j (by omega)).trans rfl)))))))), ⟨by have a := hP8.1; omega, by have a := hP8.2; omega⟩⟩, ((((((((frL.rf.trans hf1).trans hf2).trans hf3).trans hf4).trans hf5).trans hf6).trans hf7).trans hf8)⟩
        · refine v_aload_n hX d_T_addLine_60 rfl rfl ?_
          refine v_get hX t (v := .ref (ob (t + 1))) inT3 (hI2.sheet ht).1 (hI2.sheet ht).2.1 (hI2.sheet ht).2.2 rfl 0 (by decide) fl_T_12 rfl rfl d_T_addLine_61 ?_
          refine v_iload hX d_T_addLine_64 rfl ?_
          refine v_iconst (v := 1) hX d_T_addLine_66 (by decide) ?_
          refine v_isub hX d_T_addLine_67 ?_
          refine c_V hX (t + 1) (rest := []) hl (L_get hI2 (t + 1) (shRK ht 0 (by decide)) ((nI e) - 1)) ml_T_62 im_R_get se_R_get in_R cd_R_get rfl q_R_get ⟨(Nat.le_of_ble_eq_true rfl), (Nat.le_of_ble_eq_true rfl)⟩ (hI2.1.1 (t + 1) (shRK ht 0 (by decide))).1 (hI2.1.1 (t + 1) (shRK ht 0 (by decide))).2.2.1 (hI2.1.1 (t + 1) (shRK ht 0 (by decide))).2.2.2.1.v rfl rfl rfl rfl (Nat.le_of_ble_eq_true rfl) d_T_addLine_68 ⟨by have a := hP2.2; have b := hx2; show _ + 100 ≤ 120 + (2663816 - Phi rs) / 16; omega, by have a := hP2.1; have b := hx2; show _ + 200000 ≤ 700000 + (2663816 - Phi rs); omega⟩ (fun rv d2 lo2 va2 kc ns hp => ?_)
          obtain ⟨⟨v9, rfl⟩, rfl, rfl, rfl, rfl, rfl⟩ := hp
          show V X D CL A _ _ _ _ _ _ _ (.int v9 :: [])
          refine v_bipush (v := 32) hX d_T_addLine_71 (by decide) ?_
          refine v_icmp_ne hX d_T_addLine_73 (tgt := 82) (by decide) (fun c73 => ?_) (fun c73 => ?_)
          · refine v_aload_n hX d_T_addLine_82 rfl rfl ?_
            refine v_get hX t (v := .ref (ob (t + 1))) inT3 (hI2.sheet ht).1 (hI2.sheet ht).2.1 (hI2.sheet ht).2.2 rfl 0 (by decide) fl_T_12 rfl rfl d_T_addLine_83 ?_
            refine v_iload hX d_T_addLine_86 rfl ?_
            refine c_V hX (t + 1) (rest := []) hl (L_cut hI2 (t + 1) (shRK ht 0 (by decide)) e (by omega)) ml_T_43 im_R_cut se_R_cut in_R cd_R_cut rfl q_R_cut ⟨(Nat.le_of_ble_eq_true rfl), (Nat.le_of_ble_eq_true rfl)⟩ (hI2.1.1 (t + 1) (shRK ht 0 (by decide))).1 (hI2.1.1 (t + 1) (shRK ht 0 (by decide))).2.2.1 (hI2.1.1 (t + 1) (shRK ht 0 (by decide))).2.2.2.1.v rfl rfl rfl rfl (Nat.le_of_ble_eq_true rfl) d_T_addLine_88 ⟨by have a := hP2.2; have b := hx2; show _ + 100 ≤ 120 + (2663816 - Phi rs) / 16; omega, by have a := hP2.1; have b := hx2; show _ + 200000 ≤ 700000 + (2663816 - Phi rs); omega⟩ (fun rv d2 lo10 va10 kc10 ns10 hp => ?_)
            obtain ⟨rfl, rfl, ⟨rs10, hI10, hs10, ho10, hp10⟩, hf10⟩ := hp
            show V X D CL A _ _ _ _ _ _ _ []
            have hP10 : pay rs rs10 (0 + kc1 + kc2 + kc10) (0 + ns1 + ns2 + ns10) := ⟨by have a := hP2.1; have b := hp10.1; omega, by have a := hP2.2; have b := hp10.2; omega⟩
            have hx10 : Phi rs10 ≤ 2663816 := hI10.1.phi
            refine v_aload_n hX d_T_addLine_91 rfl rfl ?_
            refine v_get hX t (v := .ref (ob (t + 3))) inT3 (hI10.sheet ht).1 (hI10.sheet ht).2.1 (hI10.sheet ht).2.2 rfl 1 (by decide) fl_T_18 rfl rfl d_T_addLine_92 ?_
            refine v_iload hX d_T_addLine_95 rfl ?_
            refine c_V hX (t + 3) (rest := []) hl (L_add hI10 (t + 3) (shRK ht 1 (by decide)) (nI (rs (t + 1)).1) (by have a : (rs10 (t + 3)).1 = nl := ((congrArg Prod.fst (ho10 (t + 3) (by omega))).trans ((congrArg Prod.fst (ho2 (t + 3) (by omega))).trans ((congrArg Prod.fst (ho1 (t + 3) (by omega))).trans d1))); have b : mxOf (t + 3) = 1501 := mxS1 ht 1 (by decide); omega)) ml_T_66 im_R_add se_R_add in_R cd_R_add rfl q_R_add ⟨(Nat.le_of_ble_eq_true rfl), (Nat.le_of_ble_eq_true rfl)⟩ (hI10.1.1 (t + 3) (shRK ht 1 (by decide))).1 (hI10.1.1 (t + 3) (shRK ht 1 (by decide))).2.2.1 (hI10.1.1 (t + 3) (shRK ht 1 (by decide))).2.2.2.1.v rfl rfl rfl rfl (Nat.le_of_ble_eq_true rfl) d_T_addLine_97 ⟨by have a := hP10.2; have b := hx10; show _ + 20 ≤ 120 + (2663816 - Phi rs) / 16; omega, by have a := hP10.1; have b := hx10; show _ + 700000 ≤ 700000 + (2663816 - Phi rs); omega⟩ (fun rv d2 lo11 va11 kc11 ns11 hp => ?_)
            obtain ⟨rfl, rfl, ⟨rs11, hI11, hs11, ho11, hp11⟩, hf11⟩ := hp
            show V X D CL A _ _ _ _ _ _ _ []
            have hP11 : pay rs rs11 (0 + kc1 + kc2 + kc10 + kc11) (0 + ns1 + ns2 + ns10 + ns11) := ⟨by have a := hP10.1; have b := hp11.1; omega, by have a := hP10.2; have b := hp11.2; omega⟩
            have hx11 : Phi rs11 ≤ 2663816 := hI11.1.phi
            refine v_aload_n hX d_T_addLine_100 rfl rfl ?_
            refine v_get hX t (v := .ref (ob (t + 5))) inT3 (hI11.sheet ht).1 (hI11.sheet ht).2.1 (hI11.sheet ht).2.2 rfl 2 (by decide) fl_T_21 rfl rfl d_T_addLine_101 ?_
            refine v_iload hX d_T_addLine_104 rfl ?_
            refine v_iload hX d_T_addLine_106 rfl ?_
            refine v_isub hX d_T_addLine_108 ?_
            refine c_V hX (t + 5) (rest := []) hl (L_add hI11 (t + 5) (shRK ht 2 (by decide)) ((nI e) - (nI (rs (t + 1)).1)) (by have a : (rs11 (t + 5)).1 = nl := ((congrArg Prod.fst (ho11 (t + 5) (by omega))).trans ((congrArg Prod.fst (ho10 (t + 5) (by omega))).trans ((congrArg Prod.fst (ho2 (t + 5) (by omega))).trans ((congrArg Prod.fst (ho1 (t + 5) (by omega))).trans d2)))); have b : mxOf (t + 5) = 1501 := mxS1 ht 2 (by decide); omega)) ml_T_66 im_R_add se_R_add in_R cd_R_add rfl q_R_add ⟨(Nat.le_of_ble_eq_true rfl), (Nat.le_of_ble_eq_true rfl)⟩ (hI11.1.1 (t + 5) (shRK ht 2 (by decide))).1 (hI11.1.1 (t + 5) (shRK ht 2 (by decide))).2.2.1 (hI11.1.1 (t + 5) (shRK ht 2 (by decide))).2.2.2.1.v rfl rfl rfl rfl (Nat.le_of_ble_eq_true rfl) d_T_addLine_109 ⟨by have a := hP11.2; have b := hx11; show _ + 20 ≤ 120 + (2663816 - Phi rs) / 16; omega, by have a := hP11.1; have b := hx11; show _ + 700000 ≤ 700000 + (2663816 - Phi rs); omega⟩ (fun rv d2 lo12 va12 kc12 ns12 hp => ?_)
            obtain ⟨rfl, rfl, ⟨rs12, hI12, hs12, ho12, hp12⟩, hf12⟩ := hp
            show V X D CL A _ _ _ _ _ _ _ []
            have hP12 : pay rs rs12 (0 + kc1 + kc2 + kc10 + kc11 + kc12) (0 + ns1 + ns2 + ns10 + ns11 + ns12) := ⟨by have a := hP11.1; have b := hp12.1; omega, by have a := hP11.2; have b := hp12.2; omega⟩
            have hx12 : Phi rs12 ≤ 2663816 := hI12.1.phi
            refine v_aload_n hX d_T_addLine_112 rfl rfl ?_
            refine v_get hX t (v := .ref (ob (t + 7))) inT3 (hI12.sheet ht).1 (hI12.sheet ht).2.1 (hI12.sheet ht).2.2 rfl 3 (by decide) fl_T_24 rfl rfl d_T_addLine_113 ?_
            refine v_iconst (v := (-1)) hX d_T_addLine_116 (by decide) ?_
            refine c_V hX (t + 7) (rest := []) hl (L_add hI12 (t + 7) (shRK ht 3 (by decide)) (-1) (by have a : (rs12 (t + 7)).1 = nl := ((congrArg Prod.fst (ho12 (t + 7) (by omega))).trans ((congrArg Prod.fst (ho11 (t + 7) (by omega))).trans ((congrArg Prod.fst (ho10 (t + 7) (by omega))).trans ((congrArg Prod.fst (ho2 (t + 7) (by omega))).trans ((congrArg Prod.fst (ho1 (t + 7) (by omega))).trans d3))))); have b : mxOf (t + 7) = 1501 := mxS1 ht 3 (by decide); omega)) ml_T_66 im_R_add se_R_add in_R cd_R_add rfl q_R_add ⟨(Nat.le_of_ble_eq_true rfl), (Nat.le_of_ble_eq_true rfl)⟩ (hI12.1.1 (t + 7) (shRK ht 3 (by decide))).1 (hI12.1.1 (t + 7) (shRK ht 3 (by decide))).2.2.1 (hI12.1.1 (t + 7) (shRK ht 3 (by decide))).2.2.2.1.v rfl rfl rfl rfl (Nat.le_of_ble_eq_true rfl) d_T_addLine_117 ⟨by have a := hP12.2; have b := hx12; show _ + 20 ≤ 120 + (2663816 - Phi rs) / 16; omega, by have a := hP12.1; have b := hx12; show _ + 700000 ≤ 700000 + (2663816 - Phi rs); omega⟩ (fun rv d2 lo13 va13 kc13 ns13 hp => ?_)
            obtain ⟨rfl, rfl, ⟨rs13, hI13, hs13, ho13, hp13⟩, hf13⟩ := hp
            show V X D CL A _ _ _ _ _ _ _ []
            have hP13 : pay rs rs13 (0 + kc1 + kc2 + kc10 + kc11 + kc12 + kc13) (0 + ns1 + ns2 + ns10 + ns11 + ns12 + ns13) := ⟨by have a := hP12.1; have b := hp13.1; omega, by have a := hP12.2; have b := hp13.2; omega⟩
            have hx13 : Phi rs13 ≤ 2663816 := hI13.1.phi
            refine v_aload_n hX d_T_addLine_120 rfl rfl ?_
            refine v_get hX t (v := .ref (ob (t + 9))) inT3 (hI13.sheet ht).1 (hI13.sheet ht).2.1 (hI13.sheet ht).2.2 rfl 4 (by decide) fl_T_27 rfl rfl d_T_addLine_121 ?_
            refine v_iconst (v := 0) hX d_T_addLine_124 (by decide) ?_
            refine c_V hX (t + 9) (rest := []) hl (L_add hI13 (t + 9) (shRK ht 4 (by decide)) 0 (by have a : (rs13 (t + 9)).1 = nl := ((congrArg Prod.fst (ho13 (t + 9) (by omega))).trans ((congrArg Prod.fst (ho12 (t + 9) (by omega))).trans ((congrArg Prod.fst (ho11 (t + 9) (by omega))).trans ((congrArg Prod.fst (ho10 (t + 9) (by omega))).trans ((congrArg Prod.fst (ho2 (t + 9) (by omega))).trans ((congrArg Prod.fst (ho1 (t + 9) (by omega))).trans d4)))))); have b : mxOf (t + 9) = 1501 := mxS1 ht 4 (by decide); omega)) ml_T_66 im_R_add se_R_add in_R cd_R_add rfl q_R_add ⟨(Nat.le_of_ble_eq_true rfl), (Nat.le_of_ble_eq_true rfl)⟩ (hI13.1.1 (t + 9) (shRK ht 4 (by decide))).1 (hI13.1.1 (t + 9) (shRK ht 4 (by decide))).2.2.1 (hI13.1.1 (t + 9) (shRK ht 4 (by decide))).2.2.2.1.v rfl rfl rfl rfl (Nat.le_of_ble_eq_true rfl) d_T_addLine_125 ⟨by have a := hP13.2; have b := hx13; show _ + 20 ≤ 120 + (2663816 - Phi rs) / 16; omega, by have a := hP13.1; have b := hx13; show _ + 700000 ≤ 700000 + (2663816 - Phi rs); omega⟩ (fun rv d2 lo14 va14 kc14 ns14 hp => ?_)
            obtain ⟨rfl, rfl, ⟨rs14, hI14, hs14, ho14, hp14⟩, hf14⟩ := hp
            show V X D CL A _ _ _ _ _ _ _ []
            have hP14 : pay rs rs14 (0 + kc1 + kc2 + kc10 + kc11 + kc12 + kc13 + kc14) (0 + ns1 + ns2 + ns10 + ns11 + ns12 + ns13 + ns14) := ⟨by have a := hP13.1; have b := hp14.1; omega, by have a := hP13.2; have b := hp14.2; omega⟩
            have hx14 : Phi rs14 ≤ 2663816 := hI14.1.phi
            refine v_aload_n hX d_T_addLine_128 rfl rfl ?_
            refine v_get hX t (v := .ref (ob (t + 11))) inT3 (hI14.sheet ht).1 (hI14.sheet ht).2.1 (hI14.sheet ht).2.2 rfl 5 (by decide) fl_T_30 rfl rfl d_T_addLine_129 ?_
            refine v_iload_n hX d_T_addLine_132 rfl rfl ?_
            refine c_V hX (t + 11) (rest := []) hl (L_add hI14 (t + 11) (shRK ht 5 (by decide)) x (by have a : (rs14 (t + 11)).1 = nl := ((congrArg Prod.fst (ho14 (t + 11) (by omega))).trans ((congrArg Prod.fst (ho13 (t + 11) (by omega))).trans ((congrArg Prod.fst (ho12 (t + 11) (by omega))).trans ((congrArg Prod.fst (ho11 (t + 11) (by omega))).trans ((congrArg Prod.fst (ho10 (t + 11) (by omega))).trans ((congrArg Prod.fst (ho2 (t + 11) (by omega))).trans ((congrArg Prod.fst (ho1 (t + 11) (by omega))).trans d5))))))); have b : mxOf (t + 11) = 1501 := mxS1 ht 5 (by decide); omega)) ml_T_66 im_R_add se_R_add in_R cd_R_add rfl q_R_add ⟨(Nat.le_of_ble_eq_true rfl), (Nat.le_of_ble_eq_true rfl)⟩ (hI14.1.1 (t + 11) (shRK ht 5 (by decide))).1 (hI14.1.1 (t + 11) (shRK ht 5 (by decide))).2.2.1 (hI14.1.1 (t + 11) (shRK ht 5 (by decide))).2.2.2.1.v rfl rfl rfl rfl (Nat.le_of_ble_eq_true rfl) d_T_addLine_133 ⟨by have a := hP14.2; have b := hx14; show _ + 20 ≤ 120 + (2663816 - Phi rs) / 16; omega, by have a := hP14.1; have b := hx14; show _ + 700000 ≤ 700000 + (2663816 - Phi rs); omega⟩ (fun rv d2 lo15 va15 kc15 ns15 hp => ?_)
            obtain ⟨rfl, rfl, ⟨rs15, hI15, hs15, ho15, hp15⟩, hf15⟩ := hp
            show V X D CL A _ _ _ _ _ _ _ []
            have hP15 : pay rs rs15 (0 + kc1 + kc2 + kc10 + kc11 + kc12 + kc13 + kc14 + kc15) (0 + ns1 + ns2 + ns10 + ns11 + ns12 + ns13 + ns14 + ns15) := ⟨by have a := hP14.1; have b := hp15.1; omega, by have a := hP14.2; have b := hp15.2; omega⟩
            have hx15 : Phi rs15 ≤ 2663816 := hI15.1.phi
            exact v_vret hX hE d_T_addLine_136 (by have a := hP15.2; have b := hx15; show _ ≤ 120 + (2663816 - Phi rs) / 16; omega) (by have a := hP15.1; have b := hx15; show _ ≤ 700000 + (2663816 - Phi rs); omega) ⟨rfl, rfl, ⟨rs15, sh, nl + 1, hI15, ⟨((congrArg Prod.fst (ho15 (t + 3) (by omega))).trans ((congrArg Prod.fst (ho14 (t + 3) (by omega))).trans ((congrArg Prod.fst (ho13 (t + 3) (by omega))).trans ((congrArg Prod.fst (ho12 (t + 3) (by omega))).trans (eq_add1 hs11 ((congrArg Prod.fst (ho10 (t + 3) (by omega))).trans ((congrArg Prod.fst (ho2 (t + 3) (by omega))).trans ((congrArg Prod.fst (ho1 (t + 3) (by omega))).trans d1)))))))), ((congrArg Prod.fst (ho15 (t + 5) (by omega))).trans ((congrArg Prod.fst (ho14 (t + 5) (by omega))).trans ((congrArg Prod.fst (ho13 (t + 5) (by omega))).trans (eq_add1 hs12 ((congrArg Prod.fst (ho11 (t + 5) (by omega))).trans ((congrArg Prod.fst (ho10 (t + 5) (by omega))).trans ((congrArg Prod.fst (ho2 (t + 5) (by omega))).trans ((congrArg Prod.fst (ho1 (t + 5) (by omega))).trans d2)))))))), ((congrArg Prod.fst (ho15 (t + 7) (by omega))).trans ((congrArg Prod.fst (ho14 (t + 7) (by omega))).trans (eq_add1 hs13 ((congrArg Prod.fst (ho12 (t + 7) (by omega))).trans ((congrArg Prod.fst (ho11 (t + 7) (by omega))).trans ((congrArg Prod.fst (ho10 (t + 7) (by omega))).trans ((congrArg Prod.fst (ho2 (t + 7) (by omega))).trans ((congrArg Prod.fst (ho1 (t + 7) (by omega))).trans d3)))))))), ((congrArg Prod.fst (ho15 (t + 9) (by omega))).trans (eq_add1 hs14 ((congrArg Prod.fst (ho13 (t + 9) (by omega))).trans ((congrArg Prod.fst (ho12 (t + 9) (by omega))).trans ((congrArg Prod.fst (ho11 (t + 9) (by omega))).trans ((congrArg Prod.fst (ho10 (t + 9) (by omega))).trans ((congrArg Prod.fst (ho2 (t + 9) (by omega))).trans ((congrArg Prod.fst (ho1 (t + 9) (by omega))).trans d4)))))))), (eq_add1 hs15 ((congrArg Prod.fst (ho14 (t + 11) (by omega))).trans ((congrArg Prod.fst (ho13 (t + 11) (by omega))).trans ((congrArg Prod.fst (ho12 (t + 11) (by omega))).trans ((congrArg Prod.fst (ho11 (t + 11) (by omega))).trans ((congrArg Prod.fst (ho10 (t + 11) (by omega))).trans ((congrArg Prod.fst (ho2 (t + 11) (by omega))).trans ((congrArg Prod.fst (ho1 (t + 11) (by omega))).trans d5)))))))), by omega, by have a : (rs15 (t + 1)).1 = (min e (((rs (t + 1)).1 + (rs 22).1) + (rs 28).1)) := ((congrArg Prod.fst (ho15 (t + 1) (by omega))).trans ((congrArg Prod.fst (ho14 (t + 1) (by omega))).trans ((congrArg Prod.fst (ho13 (t + 1) (by omega))).trans ((congrArg Prod.fst (ho12 (t + 1) (by omega))).trans ((congrArg Prod.fst (ho11 (t + 1) (by omega))).trans (eq_min hs10 (eq_add hs2 (eq_add hs1 rfl rfl) ((congrArg Prod.fst (ho1 28 (by omega))).trans rfl)))))))); omega⟩, by omega, fun j hj => ((ho15 j (by omega)).trans ((ho14 j (by omega)).trans ((ho13 j (by omega)).trans ((ho12 j (by omega)).trans ((ho11 j (by omega)).trans ((ho10 j (by omega)).trans ((ho2 j (by omega)).trans ((ho1 j (by omega)).trans rfl)))))))), ⟨by have a := hP15.1; omega, by have a := hP15.2; omega⟩⟩, ((((((((frL.rf.trans hf1).trans hf2).trans hf10).trans hf11).trans hf12).trans hf13).trans hf14).trans hf15)⟩
          · refine v_iinc (y := ((nI e) + (-1))) (lv' := [some (.ref (ob t)), some (.ref (ob 22)), some (.ref (ob 28)), some (.int x), some (.int (nI (rs (t + 1)).1)), some (.int ((nI e) + (-1)))]) hX d_T_addLine_76 rfl (by rfl) rfl ?_
            refine v_goto hX d_T_addLine_79 (tgt := 53) (by decide) ?_
            have h0e : 0 < e := Nat.pos_of_ne_zero (fun z => c57 (by rw [z]; exact nI_le (Nat.zero_le _) (by omega)))
            rw [nI_dec h0e]
            exact ih (e - 1) (by omega) (by omega)
    exact loop _ _ (Nat.lt_succ_self _) (by omega)
  · refine v_aload_n hX d_T_addLine_13 rfl rfl ?_
    refine v_iconst (v := 1) hX d_T_addLine_14 (by decide) ?_
    refine v_putOvf hX hI ht (by decide) (by decide) fl_T_54 d_T_addLine_15 (fun va16 hI16 hf16 => ?_)
    exact v_vret hX hE d_T_addLine_18 (by have a := hP.2; have b := hx; show _ ≤ 120 + (2663816 - Phi rs) / 16; omega) (by have a := hP.1; have b := hx; show _ ≤ 700000 + (2663816 - Phi rs); omega) ⟨rfl, rfl, ⟨rs, _, nl, hI16, ⟨d1, d2, d3, d4, d5, d6, d7⟩, Nat.le_refl _, fun _ _ => rfl, pay.rf⟩, (frL.rf.trans hf16)⟩
end
section
section KS0
variable {l : Launch} {D : va_G} {A : Nat → Prop} {cI cB cZ cJ cN : ClassId} {ob : Nat → Nat} {td w c a al nl pf tl ph : Nat} {dom : Nat → Prop} {loc : Nat → Nat} {val : Nat → va_E}
/-- the setter's state in numbers: the lengths of word, content, ahead, aheadLater, the draft's lines and pages, what is told, and the account -/
def LayS (cI : ClassId) (ob : Nat → Nat) (td w c a al nl pf tl ph : Nat) (dom : Nat → Prop) (loc : Nat → Nat) (val : Nat → va_E) : Prop := ∃ rs sh, LayI cI ob td rs sh dom loc val ∧ (rs 26).1 = w ∧ (rs 28).1 = c ∧ (rs 22).1 = a ∧ (rs 24).1 = al ∧ DC rs td nl ∧ ((rs (td + 13)).1 = pf ∧ (rs (td + 15)).1 = pf) ∧ (rs 3).1 = tl ∧ Phi rs = ph
abbrev PSt (cI : ClassId) (ob : Nat → Nat) (td w c a al nl pf tl ph : Nat) (dom : Nat → Prop) (loc : Nat → Nat) (val : Nat → va_E) : kT := fun rv d lo va kc ns => rv = none ∧ dom = d ∧ (∃ nl2 ph2, LayS cI ob td w c a al nl2 pf tl ph2 dom lo va ∧ nl ≤ nl2 ∧ (ns + ph ≤ ph2 ∧ 16 * kc + ph ≤ ph2)) ∧ frL loc val lo va
/-- .. where word and content come out no longer than wd -/
abbrev PSw (cI : ClassId) (ob : Nat → Nat) (td wd a al nl pf tl ph : Nat) (dom : Nat → Prop) (loc : Nat → Nat) (val : Nat → va_E) : kT := fun rv d lo va kc ns => rv = none ∧ dom = d ∧ (∃ w2 c2 nl2 ph2, (w2 ≤ wd ∧ c2 ≤ wd) ∧ LayS cI ob td w2 c2 a al nl2 pf tl ph2 dom lo va ∧ nl ≤ nl2 ∧ (ns + ph ≤ ph2 ∧ 16 * kc + ph ≤ ph2)) ∧ frL loc val lo va
theorem LayS.phi (h : LayS cI ob td w c a al nl pf tl ph dom loc val) : ph ≤ 2663816 := by
  obtain ⟨rs, sh, hI, -, -, -, -, -, -, -, e⟩ := h
  rw [← e]; exact hI.1.phi
theorem LayS.set (h : LayS cI ob td w c a al nl pf tl ph dom loc val) : SetI ob td dom loc val := by
  obtain ⟨rs, sh, hI, -⟩ := h
  exact hI.2.2.2.1
theorem LayS.htd (h : LayS cI ob td w c a al nl pf tl ph dom loc val) : td = 5 ∨ td = 30 := by
  obtain ⟨rs, sh, hI, -⟩ := h
  exact hI.2.2.2.2
theorem LayS.sheet (h : LayS cI ob td w c a al nl pf tl ph dom loc val) : ∃ sh, SheetI ob sh dom loc val td := by
  obtain ⟨rs, sh, hI, -⟩ := h
  exact ⟨sh, hI.sheet hI.2.2.2.2⟩
theorem LayS.row (h : LayS cI ob td w c a al nl pf tl ph dom loc val) (j : Nat) (hj : j ∈ RK) : dom j ∧ loc j = ob j ∧ ∃ fs, val j = .inr (1, fs) := by
  obtain ⟨rs, sh, hI, -⟩ := h
  obtain ⟨g1, g2, g3, g4, g5⟩ := hI.1.1 j hj
  exact ⟨g1, g3, _, g4.v⟩
theorem LayS.hnl (h : LayS cI ob td w c a al nl pf tl ph dom loc val) : nl ≤ 1500 := by
  obtain ⟨rs, sh, hI, -, -, -, -, hD, -⟩ := h
  exact hD.2.2.2.2.2.1
theorem DC.kept {rs rs2 : RS} {t nl : Nat} (h : DC rs t nl) (ho : ∀ k, t < k → k ≤ t + 15 → rs2 k = rs k) : DC rs2 t nl := by
  obtain ⟨h1, h2, h3, h4, h5, h6, h7⟩ := h
  exact ⟨by rw [ho _ (by omega) (by omega)]; exact h1, by rw [ho _ (by omega) (by omega)]; exact h2, by rw [ho _ (by omega) (by omega)]; exact h3, by rw [ho _ (by omega) (by omega)]; exact h4, by rw [ho _ (by omega) (by omega)]; exact h5, h6, by rw [ho _ (by omega) (by omega)]; exact h7⟩
/-- a change of one of the four Rows -/
theorem S_lift {y : MethodName} {ws : List Cond} {rm : Room} {av : List Value} {rs : RS} {sh : Nat → Int32 × Int32 × Int32} {j s : Nat} (hD : DC rs td nl) (hpf : (rs (td + 13)).1 = pf ∧ (rs (td + 15)).1 = pf) (htl : (rs 3).1 = tl) (hph : Phi rs = ph) (htd : td = 5 ∨ td = 30) (hj : j = 22 ∨ j = 24 ∨ j = 26 ∨ j = 28)
    (h : kM l y ws rm D CL (TY cI cB cZ cJ cN) A av dom loc val (PRow cI ob td rs sh dom loc val j s)) {w c a al : Nat} (e1 : (if j = 26 then s else (rs 26).1) = w) (e2 : (if j = 28 then s else (rs 28).1) = c) (e3 : (if j = 22 then s else (rs 22).1) = a) (e4 : (if j = 24 then s else (rs 24).1) = al) :
    kM l y ws rm D CL (TY cI cB cZ cJ cN) A av dom loc val (PSt cI ob td w c a al nl pf tl ph dom loc val) := by
  refine kM.to h (fun rv d lo va kc ns ⟨a1, a2, ⟨rs2, hI2, hs, ho, hp⟩, hf⟩ => ⟨a1, a2, ⟨nl, Phi rs2, ⟨rs2, sh, hI2, ?_, ?_, ?_, ?_, hD.kept (fun k x y => ho k (by omega)), ⟨by rw [ho _ (by omega)]; exact hpf.1, by rw [ho _ (by omega)]; exact hpf.2⟩, by rw [ho _ (by omega)]; exact htl, rfl⟩, Nat.le_refl _, by rw [← hph]; exact hp⟩, hf⟩)
  · by_cases z : j = 26
    · rw [if_pos z] at e1; rw [← z, hs]; exact e1
    · rw [if_neg z] at e1; rw [ho 26 (fun q => z q.symm)]; exact e1
  · by_cases z : j = 28
    · rw [if_pos z] at e2; rw [← z, hs]; exact e2
    · rw [if_neg z] at e2; rw [ho 28 (fun q => z q.symm)]; exact e2
  · by_cases z : j = 22
    · rw [if_pos z] at e3; rw [← z, hs]; exact e3
    · rw [if_neg z] at e3; rw [ho 22 (fun q => z q.symm)]; exact e3
  · by_cases z : j = 24
    · rw [if_pos z] at e4; rw [← z, hs]; exact e4
    · rw [if_neg z] at e4; rw [ho 24 (fun q => z q.symm)]; exact e4
abbrev KAdd (l : Launch) (D : va_G) (A : Nat → Prop) (cI cB cZ cJ cN : ClassId) (ob : Nat → Nat) (j : Nat) (x : Int32) (dom : Nat → Prop) (loc : Nat → Nat) (val : Nat → va_E) (Post : kT) : Prop := kM l y_R_add (Cond.code y_R_add b_R_add 2 none :: TT) rmR D CL (TY cI cB cZ cJ cN) A [.ref (ob j), .int x] dom loc val Post
abbrev KCut (l : Launch) (D : va_G) (A : Nat → Prop) (cI cB cZ cJ cN : ClassId) (ob : Nat → Nat) (j m : Nat) (dom : Nat → Prop) (loc : Nat → Nat) (val : Nat → va_E) (Post : kT) : Prop := kM l y_R_cut (Cond.code y_R_cut b_R_cut 2 none :: TT) (rmL 1) D CL (TY cI cB cZ cJ cN) A [.ref (ob j), .int (nI m)] dom loc val Post
theorem S_add26 (h : LayS cI ob td w c a al nl pf tl ph dom loc val) (x : Int32) (hm : w + 1 ≤ 70) : KAdd l D A cI cB cZ cJ cN ob 26 x dom loc val (PSt cI ob td (w + 1) c a al nl pf tl ph dom loc val) := by
  obtain ⟨rs, sh, hI, h1, h2, h3, h4, h5, h6, h7, h8⟩ := h
  exact S_lift h5 h6 h7 h8 hI.2.2.2.2 (by omega) (L_add hI 26 (by decide) x (by rw [h1]; exact hm)) (by rw [if_pos rfl, h1]) (by rw [if_neg (by decide)]; exact h2) (by rw [if_neg (by decide)]; exact h3) (by rw [if_neg (by decide)]; exact h4)
theorem S_add28 (h : LayS cI ob td w c a al nl pf tl ph dom loc val) (x : Int32) (hm : c + 1 ≤ 70) : KAdd l D A cI cB cZ cJ cN ob 28 x dom loc val (PSt cI ob td w (c + 1) a al nl pf tl ph dom loc val) := by
  obtain ⟨rs, sh, hI, h1, h2, h3, h4, h5, h6, h7, h8⟩ := h
  exact S_lift h5 h6 h7 h8 hI.2.2.2.2 (by omega) (L_add hI 28 (by decide) x (by rw [h2]; exact hm)) (by rw [if_neg (by decide)]; exact h1) (by rw [if_pos rfl, h2]) (by rw [if_neg (by decide)]; exact h3) (by rw [if_neg (by decide)]; exact h4)
theorem S_add22 (h : LayS cI ob td w c a al nl pf tl ph dom loc val) (x : Int32) (hm : a + 1 ≤ 200) : KAdd l D A cI cB cZ cJ cN ob 22 x dom loc val (PSt cI ob td w c (a + 1) al nl pf tl ph dom loc val) := by
  obtain ⟨rs, sh, hI, h1, h2, h3, h4, h5, h6, h7, h8⟩ := h
  exact S_lift h5 h6 h7 h8 hI.2.2.2.2 (by omega) (L_add hI 22 (by decide) x (by rw [h3]; exact hm)) (by rw [if_neg (by decide)]; exact h1) (by rw [if_neg (by decide)]; exact h2) (by rw [if_pos rfl, h3]) (by rw [if_neg (by decide)]; exact h4)
theorem S_add24 (h : LayS cI ob td w c a al nl pf tl ph dom loc val) (x : Int32) (hm : al + 1 ≤ 200) : KAdd l D A cI cB cZ cJ cN ob 24 x dom loc val (PSt cI ob td w c a (al + 1) nl pf tl ph dom loc val) := by
  obtain ⟨rs, sh, hI, h1, h2, h3, h4, h5, h6, h7, h8⟩ := h
  exact S_lift h5 h6 h7 h8 hI.2.2.2.2 (by omega) (L_add hI 24 (by decide) x (by rw [h4]; exact hm)) (by rw [if_neg (by decide)]; exact h1) (by rw [if_neg (by decide)]; exact h2) (by rw [if_neg (by decide)]; exact h3) (by rw [if_pos rfl, h4])
theorem S_cut26 (h : LayS cI ob td w c a al nl pf tl ph dom loc val) : KCut l D A cI cB cZ cJ cN ob 26 0 dom loc val (PSt cI ob td 0 c a al nl pf tl ph dom loc val) := by
  obtain ⟨rs, sh, hI, h1, h2, h3, h4, h5, h6, h7, h8⟩ := h
  exact S_lift h5 h6 h7 h8 hI.2.2.2.2 (by omega) (L_cut hI 26 (by decide) 0 (by decide)) (by rw [if_pos rfl, Nat.zero_min]) (by rw [if_neg (by decide)]; exact h2) (by rw [if_neg (by decide)]; exact h3) (by rw [if_neg (by decide)]; exact h4)
theorem S_cut28 (h : LayS cI ob td w c a al nl pf tl ph dom loc val) : KCut l D A cI cB cZ cJ cN ob 28 0 dom loc val (PSt cI ob td w 0 a al nl pf tl ph dom loc val) := by
  obtain ⟨rs, sh, hI, h1, h2, h3, h4, h5, h6, h7, h8⟩ := h
  exact S_lift h5 h6 h7 h8 hI.2.2.2.2 (by omega) (L_cut hI 28 (by decide) 0 (by decide)) (by rw [if_neg (by decide)]; exact h1) (by rw [if_pos rfl, Nat.zero_min]) (by rw [if_neg (by decide)]; exact h3) (by rw [if_neg (by decide)]; exact h4)
theorem S_cut22 (h : LayS cI ob td w c a al nl pf tl ph dom loc val) (m : Nat) (hm : m < 2 ^ 31) : KCut l D A cI cB cZ cJ cN ob 22 m dom loc val (PSt cI ob td w c (min m a) al nl pf tl ph dom loc val) := by
  obtain ⟨rs, sh, hI, h1, h2, h3, h4, h5, h6, h7, h8⟩ := h
  exact S_lift h5 h6 h7 h8 hI.2.2.2.2 (by omega) (L_cut hI 22 (by decide) m hm) (by rw [if_neg (by decide)]; exact h1) (by rw [if_neg (by decide)]; exact h2) (by rw [if_pos rfl, h3]) (by rw [if_neg (by decide)]; exact h4)
theorem S_cut24 (h : LayS cI ob td w c a al nl pf tl ph dom loc val) (m : Nat) (hm : m < 2 ^ 31) : KCut l D A cI cB cZ cJ cN ob 24 m dom loc val (PSt cI ob td w c a (min m al) nl pf tl ph dom loc val) := by
  obtain ⟨rs, sh, hI, h1, h2, h3, h4, h5, h6, h7, h8⟩ := h
  exact S_lift h5 h6 h7 h8 hI.2.2.2.2 (by omega) (L_cut hI 24 (by decide) m hm) (by rw [if_neg (by decide)]; exact h1) (by rw [if_neg (by decide)]; exact h2) (by rw [if_neg (by decide)]; exact h3) (by rw [if_pos rfl, h4])
theorem S_set22 (h : LayS cI ob td w c a al nl pf tl ph dom loc val) (x y : Int32) : kM l y_R_set (Cond.code y_R_set b_R_set 3 none :: TT) (rmL 1) D CL (TY cI cB cZ cJ cN) A [.ref (ob 22), .int x, .int y] dom loc val (PSt cI ob td w c a al nl pf tl ph dom loc val) := by
  obtain ⟨rs, sh, hI, h1, h2, h3, h4, h5, h6, h7, h8⟩ := h
  exact S_lift h5 h6 h7 h8 hI.2.2.2.2 (by omega) (L_set hI 22 (by decide) x y) (by rw [if_neg (by decide)]; exact h1) (by rw [if_neg (by decide)]; exact h2) (by rw [if_pos rfl, h3]) (by rw [if_neg (by decide)]; exact h4)
theorem S_all (h : LayS cI ob td w c a al nl pf tl ph dom loc val) (hm : c + w ≤ 70) : kM l y_R_addAll (Cond.code y_R_addAll b_R_addAll 3 none :: TT) rmR D CL (TY cI cB cZ cJ cN) A [.ref (ob 28), .ref (ob 26)] dom loc val (PSt cI ob td w (c + w) a al nl pf tl ph dom loc val) := by
  obtain ⟨rs, sh, hI, h1, h2, h3, h4, h5, h6, h7, h8⟩ := h
  exact S_lift h5 h6 h7 h8 hI.2.2.2.2 (by omega) (L_addAll hI 28 (by decide) 26 (by decide) (by decide) (by rw [h1, h2]; exact hm)) (by rw [if_neg (by decide)]; exact h1) (by rw [if_pos rfl, h1, h2]) (by rw [if_neg (by decide)]; exact h3) (by rw [if_neg (by decide)]; exact h4)
abbrev KSz (l : Launch) (D : va_G) (A : Nat → Prop) (cI cB cZ cJ cN : ClassId) (ob : Nat → Nat) (j n : Nat) (dom : Nat → Prop) (loc : Nat → Nat) (val : Nat → va_E) : Prop := kM l y_R_size (Cond.code y_R_size b_R_size 1 (some FieldType.int) :: TT) (rmL 1) D CL (TY cI cB cZ cJ cN) A [.ref (ob j)] dom loc val (fun rv d lo va kc ns => rv = some (.int (nI n)) ∧ dom = d ∧ loc = lo ∧ val = va ∧ kc = 0 ∧ ns = 0)
theorem S_size26 (h : LayS cI ob td w c a al nl pf tl ph dom loc val) : KSz l D A cI cB cZ cJ cN ob 26 w dom loc val := by
  obtain ⟨rs, sh, hI, h1, -⟩ := h
  subst h1
  exact L_size hI 26 (by decide)
theorem S_size28 (h : LayS cI ob td w c a al nl pf tl ph dom loc val) : KSz l D A cI cB cZ cJ cN ob 28 c dom loc val := by
  obtain ⟨rs, sh, hI, -, h1, -⟩ := h
  subst h1
  exact L_size hI 28 (by decide)
theorem S_size22 (h : LayS cI ob td w c a al nl pf tl ph dom loc val) : KSz l D A cI cB cZ cJ cN ob 22 a dom loc val := by
  obtain ⟨rs, sh, hI, -, -, h1, -⟩ := h
  subst h1
  exact L_size hI 22 (by decide)
theorem S_get (h : LayS cI ob td w c a al nl pf tl ph dom loc val) (j : Nat) (hj : j ∈ RK) (x : Int32) : kM l y_R_get (Cond.code y_R_get b_R_get 2 (some FieldType.int) :: TT) (rmL 1) D CL (TY cI cB cZ cJ cN) A [.ref (ob j), .int x] dom loc val (fun rv d lo va kc ns => (∃ v, rv = some (.int v)) ∧ dom = d ∧ loc = lo ∧ val = va ∧ kc = 0 ∧ ns = 0) := by
  obtain ⟨rs, sh, hI, -⟩ := h
  exact L_get hI j hj x
theorem S_addLine (h : LayS cI ob td w c a al nl pf tl ph dom loc val) (x : Int32) (ha : a ≤ 144) (hc : c ≤ 60) : kM l y_T_addLine (Cond.code y_T_addLine b_T_addLine 6 none :: TT) (rmP 2 ph) D CL (TY cI cB cZ cJ cN) A [.ref (ob td), .ref (ob 22), .ref (ob 28), .int x] dom loc val (PSt cI ob td w c a al nl pf tl ph dom loc val) := by
  obtain ⟨rs, sh, hI, h1, h2, h3, h4, h5, h6, h7, h8⟩ := h
  have ht := hI.2.2.2.2
  subst h8
  refine kM.to (c_T_addLine hI ht x h5 (by rw [h3]; exact ha) (by rw [h2]; exact hc)) (fun rv d lo va kc ns ⟨a1, a2, ⟨rs2, sh2, nl2, hI2, hD2, hn, ho, hp⟩, hf⟩ => ⟨a1, a2, ⟨nl2, Phi rs2, ⟨rs2, sh2, hI2, by rw [ho _ (by omega)]; exact h1, by rw [ho _ (by omega)]; exact h2, by rw [ho _ (by omega)]; exact h3, by rw [ho _ (by omega)]; exact h4, hD2, ⟨by rw [ho _ (by omega)]; exact h6.1, by rw [ho _ (by omega)]; exact h6.2⟩, by rw [ho _ (by omega)]; exact h7, rfl⟩, hn, hp⟩, hf⟩)
theorem S_lines (h : LayS cI ob td w c a al nl pf tl ph dom loc val) : kM l y_T_lineCount (Cond.code y_T_lineCount b_T_lineCount 1 (some FieldType.int) :: TT) (rmP 1 ph) D CL (TY cI cB cZ cJ cN) A [.ref (ob td)] dom loc val (fun rv d lo va kc ns => rv = some (.int (nI nl)) ∧ dom = d ∧ loc = lo ∧ val = va ∧ kc = 0 ∧ ns = 0) := by
  obtain ⟨rs, sh, hI, h1, h2, h3, h4, h5, h6, h7, h8⟩ := h
  have ht := hI.2.2.2.2
  subst h8
  have := c_T_lineCount (l := l) (D := D) (A := A) (cB := cB) (cZ := cZ) (cJ := cJ) (cN := cN) hI ht
  rw [h5.1] at this
  exact this
theorem S_head (h : LayS cI ob td w c a al nl pf tl ph dom loc val) (x y : Int32) : kM l y_R_set (Cond.code y_R_set b_R_set 3 none :: TT) (rmL 1) D CL (TY cI cB cZ cJ cN) A [.ref (ob (td + 9)), .int x, .int y] dom loc val (PSt cI ob td w c a al nl pf tl ph dom loc val) := by
  obtain ⟨rs, sh, hI, h1, h2, h3, h4, h5, h6, h7, h8⟩ := h
  have ht := hI.2.2.2.2
  refine kM.to (L_set hI (td + 9) (shRK ht 4 (by decide)) x y) (fun rv d lo va kc ns ⟨a1, a2, ⟨rs2, hI2, hs, ho, hp⟩, hf⟩ => ?_)
  obtain ⟨g1, g2, g3, g4, g5, g6, g7⟩ := h5
  exact ⟨a1, a2, ⟨nl, Phi rs2, ⟨rs2, sh, hI2, by rw [ho _ (by omega)]; exact h1, by rw [ho _ (by omega)]; exact h2, by rw [ho _ (by omega)]; exact h3, by rw [ho _ (by omega)]; exact h4, ⟨by rw [ho _ (by omega)]; exact g1, by rw [ho _ (by omega)]; exact g2, by rw [ho _ (by omega)]; exact g3, by rw [hs]; exact g4, by rw [ho _ (by omega)]; exact g5, g6, by rw [ho _ (by omega)]; exact g7⟩, ⟨by rw [ho _ (by omega)]; exact h6.1, by rw [ho _ (by omega)]; exact h6.2⟩, by rw [ho _ (by omega)]; exact h7, rfl⟩, Nat.le_refl _, by rw [← h8]; exact hp⟩, hf⟩
end KS0
end
section
set_option maxHeartbeats 4000000 in
set_option maxRecDepth 100000 in
theorem c_S_putBetween {l : Launch} {D : va_G} {A : Nat → Prop} {cI cB cZ cJ cN : ClassId} {ob : Nat → Nat} {td w c a al nl pf tl ph : Nat} {dom : Nat → Prop} {loc : Nat → Nat} {val : Nat → va_E} (hS : LayS cI ob td w c a al nl pf tl ph dom loc val) (ha : a ≤ 144) (hc : c ≤ 60) : kM l y_S_putBetween (Cond.code y_S_putBetween b_S_putBetween 1 none :: TT) (rmP 3 ph) D CL (TY cI cB cZ cJ cN) A [.ref (ob 2)] dom loc val (PSt cI ob td w c a al nl pf tl ph dom loc val) := by
  refine kM_of (lv0 := [some (.ref (ob 2))]) (own := "ProsePages$Setter") (by decide) rfl (List.forall_mem_cons.mpr ⟨rfl, fun _ h => nomatch h⟩) (Nat.le_of_ble_eq_true rfl) rfl (Nat.le_of_ble_eq_true rfl) (fun X hl hX hE hin0 => ?_)
  have hP : 0 + ph ≤ ph ∧ 16 * 0 + ph ≤ ph := ⟨by omega, by omega⟩
  have hx : ph ≤ 2663816 := hS.phi
  refine v_aload_n hX d_S_putBetween_0 rfl rfl ?_
  refine v_get hX 2 (v := .ref (ob td)) inT2 hS.set.1 hS.set.2.1 hS.set.2.2 rfl 1 (by decide) fl_S_21 rfl rfl d_S_putBetween_1 ?_
  refine v_aload_n hX d_S_putBetween_4 rfl rfl ?_
  refine v_get hX 2 (v := .ref (ob 22)) inT2 hS.set.1 hS.set.2.1 hS.set.2.2 rfl 2 (by decide) fl_S_25 rfl rfl d_S_putBetween_5 ?_
  refine v_aload_n hX d_S_putBetween_8 rfl rfl ?_
  refine v_get hX 2 (v := .ref (ob 28)) inT2 hS.set.1 hS.set.2.1 hS.set.2.2 rfl 5 (by decide) fl_S_34 rfl rfl d_S_putBetween_9 ?_
  refine v_iconst (v := 1) hX d_S_putBetween_12 (by decide) ?_
  refine c_V hX td (rest := []) hl (S_addLine hS 1 (by omega) (by omega)) ml_S_159 im_T_addLine se_T_addLine in_T cd_T_addLine rfl q_T_addLine ⟨(Nat.le_of_ble_eq_true rfl), (Nat.le_of_ble_eq_true rfl)⟩ (hS.sheet).choose_spec.1 (hS.sheet).choose_spec.2.1 (hS.sheet).choose_spec.2.2 rfl rfl rfl rfl (Nat.le_of_ble_eq_true rfl) d_S_putBetween_13 ⟨by have a := hP.2; have b := hx; show _ + (120 + (2663816 - ph) / 16) ≤ 120 + (2663816 - ph) / 16; omega, by have a := hP.1; have b := hx; show _ + (700000 + (2663816 - ph)) ≤ 700000 + (2663816 - ph); omega⟩ (fun rv d2 lo1 va1 kc1 ns1 hp => ?_)
  obtain ⟨rfl, rfl, ⟨nl1, ph1, hS1, hm1, hp1⟩, hf1⟩ := hp
  show V X D CL A _ _ _ _ _ _ _ []
  have hP1 : (0 + ns1) + ph ≤ ph1 ∧ 16 * (0 + kc1) + ph ≤ ph1 := ⟨by have a := hP.1; have b := hp1.1; omega, by have a := hP.2; have b := hp1.2; omega⟩
  have hx1 : ph1 ≤ 2663816 := hS1.phi
  have hn1 : nl ≤ nl1 := Nat.le_trans (Nat.le_refl nl) hm1
  exact v_vret hX hE d_S_putBetween_16 (by have a := hP1.2; have b := hx1; show _ ≤ 120 + (2663816 - ph) / 16; omega) (by have a := hP1.1; have b := hx1; show _ ≤ 700000 + (2663816 - ph); omega) ⟨rfl, rfl, ⟨nl1, ph1, hS1, hn1, by have a := hP1.1; have b := hP1.2; exact ⟨by omega, by omega⟩⟩, (frL.rf.trans hf1)⟩
set_option maxHeartbeats 4000000 in
set_option maxRecDepth 100000 in
theorem c_S_putLine {l : Launch} {D : va_G} {A : Nat → Prop} {cI cB cZ cJ cN : ClassId} {ob : Nat → Nat} {td w c a al nl pf tl ph : Nat} {dom : Nat → Prop} {loc : Nat → Nat} {val : Nat → va_E} (hS : LayS cI ob td w c a al nl pf tl ph dom loc val) (ha : a ≤ 144) (hc : c ≤ 60) : kM l y_S_putLine (Cond.code y_S_putLine b_S_putLine 2 none :: TT) (rmP 3 ph) D CL (TY cI cB cZ cJ cN) A [.ref (ob 2)] dom loc val (PSt cI ob td w 0 a al nl pf tl ph dom loc val) := by
  refine kM_of (lv0 := [some (.ref (ob 2)), none]) (own := "ProsePages$Setter") (by decide) rfl (List.forall_mem_cons.mpr ⟨rfl, fun _ h => nomatch h⟩) (Nat.le_of_ble_eq_true rfl) rfl (Nat.le_of_ble_eq_true rfl) (fun X hl hX hE hin0 => ?_)
  have hP : 0 + ph ≤ ph ∧ 16 * 0 + ph ≤ ph := ⟨by omega, by omega⟩
  have hx : ph ≤ 2663816 := hS.phi
  refine v_aload_n hX d_S_putLine_0 rfl rfl ?_
  refine v_get hX 2 (v := .ref (ob td)) inT2 hS.set.1 hS.set.2.1 hS.set.2.2 rfl 1 (by decide) fl_S_21 rfl rfl d_S_putLine_1 ?_
  refine v_aload_n hX d_S_putLine_4 rfl rfl ?_
  refine v_get hX 2 (v := .ref (ob 22)) inT2 hS.set.1 hS.set.2.1 hS.set.2.2 rfl 2 (by decide) fl_S_25 rfl rfl d_S_putLine_5 ?_
  refine v_aload_n hX d_S_putLine_8 rfl rfl ?_
  refine v_get hX 2 (v := .ref (ob 28)) inT2 hS.set.1 hS.set.2.1 hS.set.2.2 rfl 5 (by decide) fl_S_34 rfl rfl d_S_putLine_9 ?_
  refine v_iconst (v := 0) hX d_S_putLine_12 (by decide) ?_
  refine c_V hX td (rest := []) hl (S_addLine hS 0 (by omega) (by omega)) ml_S_159 im_T_addLine se_T_addLine in_T cd_T_addLine rfl q_T_addLine ⟨(Nat.le_of_ble_eq_true rfl), (Nat.le_of_ble_eq_true rfl)⟩ (hS.sheet).choose_spec.1 (hS.sheet).choose_spec.2.1 (hS.sheet).choose_spec.2.2 rfl rfl rfl rfl (Nat.le_of_ble_eq_true rfl) d_S_putLine_13 ⟨by have a := hP.2; have b := hx; show _ + (120 + (2663816 - ph) / 16) ≤ 120 + (2663816 - ph) / 16; omega, by have a := hP.1; have b := hx; show _ + (700000 + (2663816 - ph)) ≤ 700000 + (2663816 - ph); omega⟩ (fun rv d2 lo1 va1 kc1 ns1 hp => ?_)
  obtain ⟨rfl, rfl, ⟨nl1, ph1, hS1, hm1, hp1⟩, hf1⟩ := hp
  show V X D CL A _ _ _ _ _ _ _ []
  have hP1 : (0 + ns1) + ph ≤ ph1 ∧ 16 * (0 + kc1) + ph ≤ ph1 := ⟨by have a := hP.1; have b := hp1.1; omega, by have a := hP.2; have b := hp1.2; omega⟩
  have hx1 : ph1 ≤ 2663816 := hS1.phi
  have hn1 : nl ≤ nl1 := Nat.le_trans (Nat.le_refl nl) hm1
  refine v_aload_n hX d_S_putLine_16 rfl rfl ?_
  refine v_get hX 2 (v := .ref (ob 28)) inT2 hS1.set.1 hS1.set.2.1 hS1.set.2.2 rfl 5 (by decide) fl_S_34 rfl rfl d_S_putLine_17 ?_
  refine v_iconst (v := 0) hX d_S_putLine_20 (by decide) ?_
  refine c_V hX 28 (rest := []) hl (S_cut28 hS1) ml_S_156 im_R_cut se_R_cut in_R cd_R_cut rfl q_R_cut ⟨(Nat.le_of_ble_eq_true rfl), (Nat.le_of_ble_eq_true rfl)⟩ (hS1.row 28 (by decide)).1 (hS1.row 28 (by decide)).2.1 (hS1.row 28 (by decide)).2.2.choose_spec rfl rfl rfl rfl (Nat.le_of_ble_eq_true rfl) d_S_putLine_21 ⟨by have a := hP1.2; have b := hx1; show _ + 100 ≤ 120 + (2663816 - ph) / 16; omega, by have a := hP1.1; have b := hx1; show _ + 200000 ≤ 700000 + (2663816 - ph); omega⟩ (fun rv d2 lo2 va2 kc2 ns2 hp => ?_)
  obtain ⟨rfl, rfl, ⟨nl2, ph2, hS2, hm2, hp2⟩, hf2⟩ := hp
  show V X D CL A _ _ _ _ _ _ _ []
  have hP2 : (0 + ns1 + ns2) + ph ≤ ph2 ∧ 16 * (0 + kc1 + kc2) + ph ≤ ph2 := ⟨by have a := hP1.1; have b := hp2.1; omega, by have a := hP1.2; have b := hp2.2; omega⟩
  have hx2 : ph2 ≤ 2663816 := hS2.phi
  have hn2 : nl ≤ nl2 := Nat.le_trans hn1 hm2
  refine v_iconst (v := 0) hX d_S_putLine_24 (by decide) ?_
  refine v_istore_n (lv' := [some (.ref (ob 2)), some (.int 0)]) hX d_S_putLine_25 rfl (Nat.le_of_ble_eq_true rfl) rfl ?_
  have loop : ∀ (m9 : Nat) (k : Int32) (loL : Nat → Nat) (vaL : Nat → va_E) (csL ssL  nlL phL : Nat), ((nI a).toInt - k.toInt).toNat < m9 → LayS cI ob td w 0 a al nlL pf tl phL dom loL vaL → (True) → nl ≤ nlL → (ssL + ph ≤ phL ∧ 16 * csL + ph ≤ phL) → frL loc val loL vaL → V X D CL A dom loL vaL csL ssL 26 [some (.ref (ob 2)), some (.int k)] [] := by
    intro m9
    induction m9 with
    | zero => intro k loL vaL csL ssL  nlL phL hk hSL hcL hnL hPL hfL; exact absurd hk (Nat.not_lt_zero _)
    | succ m9 ih =>
      intro k loL vaL csL ssL  nlL phL hk hSL hcL hnL hPL hfL
      have hxL : phL ≤ 2663816 := hSL.phi
      refine v_iload_n hX d_S_putLine_26 rfl rfl ?_
      refine v_aload_n hX d_S_putLine_27 rfl rfl ?_
      refine v_get hX 2 (v := .ref (ob 22)) inT2 hSL.set.1 hSL.set.2.1 hSL.set.2.2 rfl 2 (by decide) fl_S_25 rfl rfl d_S_putLine_28 ?_
      refine c_V hX 22 (rest := [.int k]) hl (S_size22 hSL) ml_S_129 im_R_size se_R_size in_R cd_R_size rfl q_R_size ⟨(Nat.le_of_ble_eq_true rfl), (Nat.le_of_ble_eq_true rfl)⟩ (hSL.row 22 (by decide)).1 (hSL.row 22 (by decide)).2.1 (hSL.row 22 (by decide)).2.2.choose_spec rfl rfl rfl rfl (Nat.le_of_ble_eq_true rfl) d_S_putLine_31 ⟨by have a := hPL.2; have b := hxL; show _ + 100 ≤ 120 + (2663816 - ph) / 16; omega, by have a := hPL.1; have b := hxL; show _ + 200000 ≤ 700000 + (2663816 - ph); omega⟩ (fun rv d2 lo2 va2 kc ns hp => ?_)
      obtain ⟨rfl, rfl, rfl, rfl, rfl, rfl⟩ := hp
      show V X D CL A _ _ _ _ _ _ _ (.int (nI a) :: [.int k])
      refine v_icmp_ge hX d_S_putLine_34 (tgt := 59) (by decide) (fun c34 => ?_) (fun c34 => ?_)
      · exact v_vret hX hE d_S_putLine_59 (by have a := hPL.2; have b := hxL; show _ ≤ 120 + (2663816 - ph) / 16; omega) (by have a := hPL.1; have b := hxL; show _ ≤ 700000 + (2663816 - ph); omega) ⟨rfl, rfl, ⟨nlL, phL, hSL, hnL, by have a := hPL.1; have b := hPL.2; exact ⟨by omega, by omega⟩⟩, hfL⟩
      · refine v_aload_n hX d_S_putLine_37 rfl rfl ?_
        refine v_get hX 2 (v := .ref (ob 22)) inT2 hSL.set.1 hSL.set.2.1 hSL.set.2.2 rfl 2 (by decide) fl_S_25 rfl rfl d_S_putLine_38 ?_
        refine v_iload_n hX d_S_putLine_41 rfl rfl ?_
        refine v_aload_n hX d_S_putLine_42 rfl rfl ?_
        refine v_get hX 2 (v := .ref (ob 24)) inT2 hSL.set.1 hSL.set.2.1 hSL.set.2.2 rfl 3 (by decide) fl_S_28 rfl rfl d_S_putLine_43 ?_
        refine v_iload_n hX d_S_putLine_46 rfl rfl ?_
        refine c_V hX 24 (rest := [.int k, .ref (ob 22)]) hl (S_get hSL 24 (by decide) k) ml_S_125 im_R_get se_R_get in_R cd_R_get rfl q_R_get ⟨(Nat.le_of_ble_eq_true rfl), (Nat.le_of_ble_eq_true rfl)⟩ (hSL.row 24 (by decide)).1 (hSL.row 24 (by decide)).2.1 (hSL.row 24 (by decide)).2.2.choose_spec rfl rfl rfl rfl (Nat.le_of_ble_eq_true rfl) d_S_putLine_47 ⟨by have a := hPL.2; have b := hxL; show _ + 100 ≤ 120 + (2663816 - ph) / 16; omega, by have a := hPL.1; have b := hxL; show _ + 200000 ≤ 700000 + (2663816 - ph); omega⟩ (fun rv d2 lo2 va2 kc ns hp => ?_)
        obtain ⟨⟨v3, rfl⟩, rfl, rfl, rfl, rfl, rfl⟩ := hp
        show V X D CL A _ _ _ _ _ _ _ (.int v3 :: [.int k, .ref (ob 22)])
        refine c_V hX 22 (rest := []) hl (S_set22 hSL k v3) ml_S_96 im_R_set se_R_set in_R cd_R_set rfl q_R_set ⟨(Nat.le_of_ble_eq_true rfl), (Nat.le_of_ble_eq_true rfl)⟩ (hSL.row 22 (by decide)).1 (hSL.row 22 (by decide)).2.1 (hSL.row 22 (by decide)).2.2.choose_spec rfl rfl rfl rfl (Nat.le_of_ble_eq_true rfl) d_S_putLine_50 ⟨by have a := hPL.2; have b := hxL; show _ + 100 ≤ 120 + (2663816 - ph) / 16; omega, by have a := hPL.1; have b := hxL; show _ + 200000 ≤ 700000 + (2663816 - ph); omega⟩ (fun rv d2 lo4 va4 kc4 ns4 hp => ?_)
        obtain ⟨rfl, rfl, ⟨nl4, ph4, hS4, hm4, hp4⟩, hf4⟩ := hp
        show V X D CL A _ _ _ _ _ _ _ []
        have hP4 : (ssL + ns4) + ph ≤ ph4 ∧ 16 * (csL + kc4) + ph ≤ ph4 := ⟨by have a := hPL.1; have b := hp4.1; omega, by have a := hPL.2; have b := hp4.2; omega⟩
        have hx4 : ph4 ≤ 2663816 := hS4.phi
        have hn4 : nl ≤ nl4 := Nat.le_trans hnL hm4
        refine v_iinc (y := (k + 1)) (lv' := [some (.ref (ob 2)), some (.int (k + 1))]) hX d_S_putLine_53 rfl (by rfl) rfl ?_
        refine v_goto hX d_S_putLine_56 (tgt := 26) (by decide) ?_
        exact ih (k + 1) lo4 va4 (csL + kc4) (ssL + ns4)  nl4 ph4 (iter_lt (Int32.not_le.mp c34) hk) hS4 (trivial) hn4 hP4 (hfL.trans hf4)
  exact loop _ _ lo2 va2 (0 + kc1 + kc2) (0 + ns1 + ns2)  nl2 ph2 (Nat.lt_succ_self _) hS2 (trivial) hn2 hP2 ((frL.rf.trans hf1).trans hf2)
end
section
set_option maxHeartbeats 4000000 in
set_option maxRecDepth 100000 in
theorem c_S_addLetter {l : Launch} {D : va_G} {A : Nat → Prop} {cI cB cZ cJ cN : ClassId} {ob : Nat → Nat} {td w c a al nl pf tl ph : Nat} {dom : Nat → Prop} {loc : Nat → Nat} {val : Nat → va_E} (hS : LayS cI ob td w c a al nl pf tl ph dom loc val) (x : Int32) {wd : Nat} (hwd : 4 ≤ wd ∧ wd ≤ 60) (ha : a ≤ 144) (hw : w ≤ wd) (hc : c ≤ wd) : kM l y_S_addLetter (Cond.code y_S_addLetter b_S_addLetter 3 none :: TT) (rmP 4 ph) D CL (TY cI cB cZ cJ cN) A [.ref (ob 2), .int x, .int (nI wd)] dom loc val (PSw cI ob td wd a al nl pf tl ph dom loc val) := by
  refine kM_of (lv0 := [some (.ref (ob 2)), some (.int x), some (.int (nI wd))]) (own := "ProsePages$Setter") (by decide) rfl (List.forall_mem_cons.mpr ⟨rfl, List.forall_mem_cons.mpr ⟨rfl, List.forall_mem_cons.mpr ⟨rfl, fun _ h => nomatch h⟩⟩⟩) (Nat.le_of_ble_eq_true rfl) rfl (Nat.le_of_ble_eq_true rfl) (fun X hl hX hE hin0 => ?_)
  have hP : 0 + ph ≤ ph ∧ 16 * 0 + ph ≤ ph := ⟨by omega, by omega⟩
  have hx : ph ≤ 2663816 := hS.phi
  refine v_aload_n hX d_S_addLetter_0 rfl rfl ?_
  refine v_get hX 2 (v := .ref (ob 26)) inT2 hS.set.1 hS.set.2.1 hS.set.2.2 rfl 4 (by decide) fl_S_31 rfl rfl d_S_addLetter_1 ?_
  refine c_V hX 26 (rest := []) hl (S_size26 hS) ml_S_129 im_R_size se_R_size in_R cd_R_size rfl q_R_size ⟨(Nat.le_of_ble_eq_true rfl), (Nat.le_of_ble_eq_true rfl)⟩ (hS.row 26 (by decide)).1 (hS.row 26 (by decide)).2.1 (hS.row 26 (by decide)).2.2.choose_spec rfl rfl rfl rfl (Nat.le_of_ble_eq_true rfl) d_S_addLetter_4 ⟨by have a := hP.2; have b := hx; show _ + 100 ≤ 120 + (2663816 - ph) / 16; omega, by have a := hP.1; have b := hx; show _ + 200000 ≤ 700000 + (2663816 - ph); omega⟩ (fun rv d2 lo2 va2 kc ns hp => ?_)
  obtain ⟨rfl, rfl, rfl, rfl, rfl, rfl⟩ := hp
  show V X D CL A _ _ _ _ _ _ _ (.int (nI w) :: [])
  refine v_iload_n hX d_S_addLetter_7 rfl rfl ?_
  refine v_icmp_lt hX d_S_addLetter_8 (tgt := 44) (by decide) (fun c8 => ?_) (fun c8 => ?_)
  · have f8 : w < wd := (nI_ltI (a := w) (b := wd) (by omega) (by omega)).mp c8
    refine v_aload_n hX d_S_addLetter_44 rfl rfl ?_
    refine v_get hX 2 (v := .ref (ob 26)) inT2 hS.set.1 hS.set.2.1 hS.set.2.2 rfl 4 (by decide) fl_S_31 rfl rfl d_S_addLetter_45 ?_
    refine v_iload_n hX d_S_addLetter_48 rfl rfl ?_
    refine c_V hX 26 (rest := []) hl (S_add26 hS x (by omega)) ml_S_119 im_R_add se_R_add in_R cd_R_add rfl q_R_add ⟨(Nat.le_of_ble_eq_true rfl), (Nat.le_of_ble_eq_true rfl)⟩ (hS.row 26 (by decide)).1 (hS.row 26 (by decide)).2.1 (hS.row 26 (by decide)).2.2.choose_spec rfl rfl rfl rfl (Nat.le_of_ble_eq_true rfl) d_S_addLetter_49 ⟨by have a := hP.2; have b := hx; show _ + 20 ≤ 120 + (2663816 - ph) / 16; omega, by have a := hP.1; have b := hx; show _ + 700000 ≤ 700000 + (2663816 - ph); omega⟩ (fun rv d2 lo1 va1 kc1 ns1 hp => ?_)
    obtain ⟨rfl, rfl, ⟨nl1, ph1, hS1, hm1, hp1⟩, hf1⟩ := hp
    show V X D CL A _ _ _ _ _ _ _ []
    have hP1 : (0 + ns1) + ph ≤ ph1 ∧ 16 * (0 + kc1) + ph ≤ ph1 := ⟨by have a := hP.1; have b := hp1.1; omega, by have a := hP.2; have b := hp1.2; omega⟩
    have hx1 : ph1 ≤ 2663816 := hS1.phi
    have hn1 : nl ≤ nl1 := Nat.le_trans (Nat.le_refl nl) hm1
    exact v_vret hX hE d_S_addLetter_52 (by have a := hP1.2; have b := hx1; show _ ≤ 120 + (2663816 - ph) / 16; omega) (by have a := hP1.1; have b := hx1; show _ ≤ 700000 + (2663816 - ph); omega) ⟨rfl, rfl, ⟨(w + 1), c, nl1, ph1, ⟨by omega, by omega⟩, hS1, hn1, by have a := hP1.1; have b := hP1.2; exact ⟨by omega, by omega⟩⟩, (frL.rf.trans hf1)⟩
  · have f8 : ¬ w < wd := fun z => c8 ((nI_ltI (a := w) (b := wd) (by omega) (by omega)).mpr z)
    refine v_aload_n hX d_S_addLetter_11 rfl rfl ?_
    refine v_get hX 2 (v := .ref (ob 28)) inT2 hS.set.1 hS.set.2.1 hS.set.2.2 rfl 5 (by decide) fl_S_34 rfl rfl d_S_addLetter_12 ?_
    refine c_V hX 28 (rest := []) hl (S_size28 hS) ml_S_129 im_R_size se_R_size in_R cd_R_size rfl q_R_size ⟨(Nat.le_of_ble_eq_true rfl), (Nat.le_of_ble_eq_true rfl)⟩ (hS.row 28 (by decide)).1 (hS.row 28 (by decide)).2.1 (hS.row 28 (by decide)).2.2.choose_spec rfl rfl rfl rfl (Nat.le_of_ble_eq_true rfl) d_S_addLetter_15 ⟨by have a := hP.2; have b := hx; show _ + 100 ≤ 120 + (2663816 - ph) / 16; omega, by have a := hP.1; have b := hx; show _ + 200000 ≤ 700000 + (2663816 - ph); omega⟩ (fun rv d2 lo2 va2 kc ns hp => ?_)
    obtain ⟨rfl, rfl, rfl, rfl, rfl, rfl⟩ := hp
    show V X D CL A _ _ _ _ _ _ _ (.int (nI c) :: [])
    refine v_if_le hX d_S_addLetter_18 (tgt := 25) (by decide) (fun c18 => ?_) (fun c18 => ?_)
    · have f18 : c ≤ 0 := (nI_leI (a := c) (b := 0) (by omega) (by omega)).mp c18
      refine v_aload_n hX d_S_addLetter_25 rfl rfl ?_
      refine v_get hX 2 (v := .ref (ob 28)) inT2 hS.set.1 hS.set.2.1 hS.set.2.2 rfl 5 (by decide) fl_S_34 rfl rfl d_S_addLetter_26 ?_
      refine v_aload_n hX d_S_addLetter_29 rfl rfl ?_
      refine v_get hX 2 (v := .ref (ob 26)) inT2 hS.set.1 hS.set.2.1 hS.set.2.2 rfl 4 (by decide) fl_S_31 rfl rfl d_S_addLetter_30 ?_
      refine c_V hX 28 (rest := []) hl (S_all hS (by omega)) ml_S_152 im_R_addAll se_R_addAll in_R cd_R_addAll rfl q_R_addAll ⟨(Nat.le_of_ble_eq_true rfl), (Nat.le_of_ble_eq_true rfl)⟩ (hS.row 28 (by decide)).1 (hS.row 28 (by decide)).2.1 (hS.row 28 (by decide)).2.2.choose_spec rfl rfl rfl rfl (Nat.le_of_ble_eq_true rfl) d_S_addLetter_33 ⟨by have a := hP.2; have b := hx; show _ + 20 ≤ 120 + (2663816 - ph) / 16; omega, by have a := hP.1; have b := hx; show _ + 700000 ≤ 700000 + (2663816 - ph); omega⟩ (fun rv d2 lo2 va2 kc2 ns2 hp => ?_)
      obtain ⟨rfl, rfl, ⟨nl2, ph2, hS2, hm2, hp2⟩, hf2⟩ := hp
      show V X D CL A _ _ _ _ _ _ _ []
      have hP2 : (0 + ns2) + ph ≤ ph2 ∧ 16 * (0 + kc2) + ph ≤ ph2 := ⟨by have a := hP.1; have b := hp2.1; omega, by have a := hP.2; have b := hp2.2; omega⟩
      have hx2 : ph2 ≤ 2663816 := hS2.phi
      have hn2 : nl ≤ nl2 := Nat.le_trans (Nat.le_refl nl) hm2
      refine v_aload_n hX d_S_addLetter_36 rfl rfl ?_
      refine v_get hX 2 (v := .ref (ob 26)) inT2 hS2.set.1 hS2.set.2.1 hS2.set.2.2 rfl 4 (by decide) fl_S_31 rfl rfl d_S_addLetter_37 ?_
      refine v_iconst (v := 0) hX d_S_addLetter_40 (by decide) ?_
      refine c_V hX 26 (rest := []) hl (S_cut26 hS2) ml_S_156 im_R_cut se_R_cut in_R cd_R_cut rfl q_R_cut ⟨(Nat.le_of_ble_eq_true rfl), (Nat.le_of_ble_eq_true rfl)⟩ (hS2.row 26 (by decide)).1 (hS2.row 26 (by decide)).2.1 (hS2.row 26 (by decide)).2.2.choose_spec rfl rfl rfl rfl (Nat.le_of_ble_eq_true rfl) d_S_addLetter_41 ⟨by have a := hP2.2; have b := hx2; show _ + 100 ≤ 120 + (2663816 - ph) / 16; omega, by have a := hP2.1; have b := hx2; show _ + 200000 ≤ 700000 + (2663816 - ph); omega⟩ (fun rv d2 lo3 va3 kc3 ns3 hp => ?_)
      obtain ⟨rfl, rfl, ⟨nl3, ph3, hS3, hm3, hp3⟩, hf3⟩ := hp
      show V X D CL A _ _ _ _ _ _ _ []
      have hP3 : (0 + ns2 + ns3) + ph ≤ ph3 ∧ 16 * (0 + kc2 + kc3) + ph ≤ ph3 := ⟨by have a := hP2.1; have b := hp3.1; omega, by have a := hP2.2; have b := hp3.2; omega⟩
      have hx3 : ph3 ≤ 2663816 := hS3.phi
      have hn3 : nl ≤ nl3 := Nat.le_trans hn2 hm3
      refine v_aload_n hX d_S_addLetter_44 rfl rfl ?_
      refine v_get hX 2 (v := .ref (ob 26)) inT2 hS3.set.1 hS3.set.2.1 hS3.set.2.2 rfl 4 (by decide) fl_S_31 rfl rfl d_S_addLetter_45 ?_
      refine v_iload_n hX d_S_addLetter_48 rfl rfl ?_
      refine c_V hX 26 (rest := []) hl (S_add26 hS3 x (by omega)) ml_S_119 im_R_add se_R_add in_R cd_R_add rfl q_R_add ⟨(Nat.le_of_ble_eq_true rfl), (Nat.le_of_ble_eq_true rfl)⟩ (hS3.row 26 (by decide)).1 (hS3.row 26 (by decide)).2.1 (hS3.row 26 (by decide)).2.2.choose_spec rfl rfl rfl rfl (Nat.le_of_ble_eq_true rfl) d_S_addLetter_49 ⟨by have a := hP3.2; have b := hx3; show _ + 20 ≤ 120 + (2663816 - ph) / 16; omega, by have a := hP3.1; have b := hx3; show _ + 700000 ≤ 700000 + (2663816 - ph); omega⟩ (fun rv d2 lo4 va4 kc4 ns4 hp => ?_)
      obtain ⟨rfl, rfl, ⟨nl4, ph4, hS4, hm4, hp4⟩, hf4⟩ := hp
      show V X D CL A _ _ _ _ _ _ _ []
      have hP4 : (0 + ns2 + ns3 + ns4) + ph ≤ ph4 ∧ 16 * (0 + kc2 + kc3 + kc4) + ph ≤ ph4 := ⟨by have a := hP3.1; have b := hp4.1; omega, by have a := hP3.2; have b := hp4.2; omega⟩
      have hx4 : ph4 ≤ 2663816 := hS4.phi
      have hn4 : nl ≤ nl4 := Nat.le_trans hn3 hm4
      exact v_vret hX hE d_S_addLetter_52 (by have a := hP4.2; have b := hx4; show _ ≤ 120 + (2663816 - ph) / 16; omega) (by have a := hP4.1; have b := hx4; show _ ≤ 700000 + (2663816 - ph); omega) ⟨rfl, rfl, ⟨(0 + 1), (c + w), nl4, ph4, ⟨by omega, by omega⟩, hS4, hn4, by have a := hP4.1; have b := hP4.2; exact ⟨by omega, by omega⟩⟩, (((frL.rf.trans hf2).trans hf3).trans hf4)⟩
    · have f18 : ¬ c ≤ 0 := fun z => c18 ((nI_leI (a := c) (b := 0) (by omega) (by omega)).mpr z)
      refine v_aload_n hX d_S_addLetter_21 rfl rfl ?_
      refine c_V hX 2 (rest := []) hl (c_S_putLine hS (by omega) (by omega)) ml_S_122 im_S_putLine se_S_putLine in_S cd_S_putLine rfl q_S_putLine ⟨(Nat.le_of_ble_eq_true rfl), (Nat.le_of_ble_eq_true rfl)⟩ hS.set.1 hS.set.2.1 hS.set.2.2 rfl rfl rfl rfl (Nat.le_of_ble_eq_true rfl) d_S_addLetter_22 ⟨by have a := hP.2; have b := hx; show _ + (120 + (2663816 - ph) / 16) ≤ 120 + (2663816 - ph) / 16; omega, by have a := hP.1; have b := hx; show _ + (700000 + (2663816 - ph)) ≤ 700000 + (2663816 - ph); omega⟩ (fun rv d2 lo5 va5 kc5 ns5 hp => ?_)
      obtain ⟨rfl, rfl, ⟨nl5, ph5, hS5, hm5, hp5⟩, hf5⟩ := hp
      show V X D CL A _ _ _ _ _ _ _ []
      have hP5 : (0 + ns5) + ph ≤ ph5 ∧ 16 * (0 + kc5) + ph ≤ ph5 := ⟨by have a := hP.1; have b := hp5.1; omega, by have a := hP.2; have b := hp5.2; omega⟩
      have hx5 : ph5 ≤ 2663816 := hS5.phi
      have hn5 : nl ≤ nl5 := Nat.le_trans (Nat.le_refl nl) hm5
      refine v_aload_n hX d_S_addLetter_25 rfl rfl ?_
      refine v_get hX 2 (v := .ref (ob 28)) inT2 hS5.set.1 hS5.set.2.1 hS5.set.2.2 rfl 5 (by decide) fl_S_34 rfl rfl d_S_addLetter_26 ?_
      refine v_aload_n hX d_S_addLetter_29 rfl rfl ?_
      refine v_get hX 2 (v := .ref (ob 26)) inT2 hS5.set.1 hS5.set.2.1 hS5.set.2.2 rfl 4 (by decide) fl_S_31 rfl rfl d_S_addLetter_30 ?_
      refine c_V hX 28 (rest := []) hl (S_all hS5 (by omega)) ml_S_152 im_R_addAll se_R_addAll in_R cd_R_addAll rfl q_R_addAll ⟨(Nat.le_of_ble_eq_true rfl), (Nat.le_of_ble_eq_true rfl)⟩ (hS5.row 28 (by decide)).1 (hS5.row 28 (by decide)).2.1 (hS5.row 28 (by decide)).2.2.choose_spec rfl rfl rfl rfl (Nat.le_of_ble_eq_true rfl) d_S_addLetter_33 ⟨by have a := hP5.2; have b := hx5; show _ + 20 ≤ 120 + (2663816 - ph) / 16; omega, by have a := hP5.1; have b := hx5; show _ + 700000 ≤ 700000 + (2663816 - ph); omega⟩ (fun rv d2 lo6 va6 kc6 ns6 hp => ?_)
      obtain ⟨rfl, rfl, ⟨nl6, ph6, hS6, hm6, hp6⟩, hf6⟩ := hp
      show V X D CL A _ _ _ _ _ _ _ []
      have hP6 : (0 + ns5 + ns6) + ph ≤ ph6 ∧ 16 * (0 + kc5 + kc6) + ph ≤ ph6 := ⟨by have a := hP5.1; have b := hp6.1; omega, by have a := hP5.2; have b := hp6.2; omega⟩
      have hx6 : ph6 ≤ 2663816 := hS6.phi
      have hn6 : nl ≤ nl6 := Nat.le_trans hn5 hm6
      refine v_aload_n hX d_S_addLetter_36 rfl rfl ?_
      refine v_get hX 2 (v := .ref (ob 26)) inT2 hS6.set.1 hS6.set.2.1 hS6.set.2.2 rfl 4 (by decide) fl_S_31 rfl rfl d_S_addLetter_37 ?_
      refine v_iconst (v := 0) hX d_S_addLetter_40 (by decide) ?_
      refine c_V hX 26 (rest := []) hl (S_cut26 hS6) ml_S_156 im_R_cut se_R_cut in_R cd_R_cut rfl q_R_cut ⟨(Nat.le_of_ble_eq_true rfl), (Nat.le_of_ble_eq_true rfl)⟩ (hS6.row 26 (by decide)).1 (hS6.row 26 (by decide)).2.1 (hS6.row 26 (by decide)).2.2.choose_spec rfl rfl rfl rfl (Nat.le_of_ble_eq_true rfl) d_S_addLetter_41 ⟨by have a := hP6.2; have b := hx6; show _ + 100 ≤ 120 + (2663816 - ph) / 16; omega, by have a := hP6.1; have b := hx6; show _ + 200000 ≤ 700000 + (2663816 - ph); omega⟩ (fun rv d2 lo7 va7 kc7 ns7 hp => ?_)
      obtain ⟨rfl, rfl, ⟨nl7, ph7, hS7, hm7, hp7⟩, hf7⟩ := hp
      show V X D CL A _ _ _ _ _ _ _ []
      have hP7 : (0 + ns5 + ns6 + ns7) + ph ≤ ph7 ∧ 16 * (0 + kc5 + kc6 + kc7) + ph ≤ ph7 := ⟨by have a := hP6.1; have b := hp7.1; omega, by have a := hP6.2; have b := hp7.2; omega⟩
      have hx7 : ph7 ≤ 2663816 := hS7.phi
      have hn7 : nl ≤ nl7 := Nat.le_trans hn6 hm7
      refine v_aload_n hX d_S_addLetter_44 rfl rfl ?_
      refine v_get hX 2 (v := .ref (ob 26)) inT2 hS7.set.1 hS7.set.2.1 hS7.set.2.2 rfl 4 (by decide) fl_S_31 rfl rfl d_S_addLetter_45 ?_
      refine v_iload_n hX d_S_addLetter_48 rfl rfl ?_
      refine c_V hX 26 (rest := []) hl (S_add26 hS7 x (by omega)) ml_S_119 im_R_add se_R_add in_R cd_R_add rfl q_R_add ⟨(Nat.le_of_ble_eq_true rfl), (Nat.le_of_ble_eq_true rfl)⟩ (hS7.row 26 (by decide)).1 (hS7.row 26 (by decide)).2.1 (hS7.row 26 (by decide)).2.2.choose_spec rfl rfl rfl rfl (Nat.le_of_ble_eq_true rfl) d_S_addLetter_49 ⟨by have a := hP7.2; have b := hx7; show _ + 20 ≤ 120 + (2663816 - ph) / 16; omega, by have a := hP7.1; have b := hx7; show _ + 700000 ≤ 700000 + (2663816 - ph); omega⟩ (fun rv d2 lo8 va8 kc8 ns8 hp => ?_)
      obtain ⟨rfl, rfl, ⟨nl8, ph8, hS8, hm8, hp8⟩, hf8⟩ := hp
      show V X D CL A _ _ _ _ _ _ _ []
      have hP8 : (0 + ns5 + ns6 + ns7 + ns8) + ph ≤ ph8 ∧ 16 * (0 + kc5 + kc6 + kc7 + kc8) + ph ≤ ph8 := ⟨by have a := hP7.1; have b := hp8.1; omega, by have a := hP7.2; have b := hp8.2; omega⟩
      have hx8 : ph8 ≤ 2663816 := hS8.phi
      have hn8 : nl ≤ nl8 := Nat.le_trans hn7 hm8
      exact v_vret hX hE d_S_addLetter_52 (by have a := hP8.2; have b := hx8; show _ ≤ 120 + (2663816 - ph) / 16; omega) (by have a := hP8.1; have b := hx8; show _ ≤ 700000 + (2663816 - ph); omega) ⟨rfl, rfl, ⟨(0 + 1), (0 + w), nl8, ph8, ⟨by omega, by omega⟩, hS8, hn8, by have a := hP8.1; have b := hP8.2; exact ⟨by omega, by omega⟩⟩, ((((frL.rf.trans hf5).trans hf6).trans hf7).trans hf8)⟩
set_option maxHeartbeats 4000000 in
set_option maxRecDepth 100000 in
theorem c_S_endWord {l : Launch} {D : va_G} {A : Nat → Prop} {cI cB cZ cJ cN : ClassId} {ob : Nat → Nat} {td w c a al nl pf tl ph : Nat} {dom : Nat → Prop} {loc : Nat → Nat} {val : Nat → va_E} (hS : LayS cI ob td w c a al nl pf tl ph dom loc val) {wd : Nat} (hwd : 4 ≤ wd ∧ wd ≤ 60) (ha : a ≤ 144) (hw : w ≤ wd) (hc : c ≤ wd) : kM l y_S_endWord (Cond.code y_S_endWord b_S_endWord 2 none :: TT) (rmP 4 ph) D CL (TY cI cB cZ cJ cN) A [.ref (ob 2), .int (nI wd)] dom loc val (fun rv d lo va kc ns => rv = none ∧ dom = d ∧ (∃ c2 nl2 ph2, c2 ≤ wd ∧ LayS cI ob td 0 c2 a al nl2 pf tl ph2 dom lo va ∧ nl ≤ nl2 ∧ (ns + ph ≤ ph2 ∧ 16 * kc + ph ≤ ph2)) ∧ frL loc val lo va) := by
  refine kM_of (lv0 := [some (.ref (ob 2)), some (.int (nI wd))]) (own := "ProsePages$Setter") (by decide) rfl (List.forall_mem_cons.mpr ⟨rfl, List.forall_mem_cons.mpr ⟨rfl, fun _ h => nomatch h⟩⟩) (Nat.le_of_ble_eq_true rfl) rfl (Nat.le_of_ble_eq_true rfl) (fun X hl hX hE hin0 => ?_)
  have hP : 0 + ph ≤ ph ∧ 16 * 0 + ph ≤ ph := ⟨by omega, by omega⟩
  have hx : ph ≤ 2663816 := hS.phi
  refine v_aload_n hX d_S_endWord_0 rfl rfl ?_
  refine v_get hX 2 (v := .ref (ob 26)) inT2 hS.set.1 hS.set.2.1 hS.set.2.2 rfl 4 (by decide) fl_S_31 rfl rfl d_S_endWord_1 ?_
  refine c_V hX 26 (rest := []) hl (S_size26 hS) ml_S_129 im_R_size se_R_size in_R cd_R_size rfl q_R_size ⟨(Nat.le_of_ble_eq_true rfl), (Nat.le_of_ble_eq_true rfl)⟩ (hS.row 26 (by decide)).1 (hS.row 26 (by decide)).2.1 (hS.row 26 (by decide)).2.2.choose_spec rfl rfl rfl rfl (Nat.le_of_ble_eq_true rfl) d_S_endWord_4 ⟨by have a := hP.2; have b := hx; show _ + 100 ≤ 120 + (2663816 - ph) / 16; omega, by have a := hP.1; have b := hx; show _ + 200000 ≤ 700000 + (2663816 - ph); omega⟩ (fun rv d2 lo2 va2 kc ns hp => ?_)
  obtain ⟨rfl, rfl, rfl, rfl, rfl, rfl⟩ := hp
  show V X D CL A _ _ _ _ _ _ _ (.int (nI w) :: [])
  refine v_if_ne hX d_S_endWord_7 (tgt := 11) (by decide) (fun c7 => ?_) (fun c7 => ?_)
  · have f7 : ¬ w = 0 := fun z => c7 ((nI_eq (a := w) (b := 0) (by omega) (by omega)).mpr z)
    refine v_aload_n hX d_S_endWord_11 rfl rfl ?_
    refine v_get hX 2 (v := .ref (ob 28)) inT2 hS.set.1 hS.set.2.1 hS.set.2.2 rfl 5 (by decide) fl_S_34 rfl rfl d_S_endWord_12 ?_
    refine c_V hX 28 (rest := []) hl (S_size28 hS) ml_S_129 im_R_size se_R_size in_R cd_R_size rfl q_R_size ⟨(Nat.le_of_ble_eq_true rfl), (Nat.le_of_ble_eq_true rfl)⟩ (hS.row 28 (by decide)).1 (hS.row 28 (by decide)).2.1 (hS.row 28 (by decide)).2.2.choose_spec rfl rfl rfl rfl (Nat.le_of_ble_eq_true rfl) d_S_endWord_15 ⟨by have a := hP.2; have b := hx; show _ + 100 ≤ 120 + (2663816 - ph) / 16; omega, by have a := hP.1; have b := hx; show _ + 200000 ≤ 700000 + (2663816 - ph); omega⟩ (fun rv d2 lo2 va2 kc ns hp => ?_)
    obtain ⟨rfl, rfl, rfl, rfl, rfl, rfl⟩ := hp
    show V X D CL A _ _ _ _ _ _ _ (.int (nI c) :: [])
    refine v_if_le hX d_S_endWord_18 (tgt := 46) (by decide) (fun c18 => ?_) (fun c18 => ?_)
    · have f18 : c ≤ 0 := (nI_leI (a := c) (b := 0) (by omega) (by omega)).mp c18
      refine v_aload_n hX d_S_endWord_46 rfl rfl ?_
      refine v_get hX 2 (v := .ref (ob 28)) inT2 hS.set.1 hS.set.2.1 hS.set.2.2 rfl 5 (by decide) fl_S_34 rfl rfl d_S_endWord_47 ?_
      refine c_V hX 28 (rest := []) hl (S_size28 hS) ml_S_129 im_R_size se_R_size in_R cd_R_size rfl q_R_size ⟨(Nat.le_of_ble_eq_true rfl), (Nat.le_of_ble_eq_true rfl)⟩ (hS.row 28 (by decide)).1 (hS.row 28 (by decide)).2.1 (hS.row 28 (by decide)).2.2.choose_spec rfl rfl rfl rfl (Nat.le_of_ble_eq_true rfl) d_S_endWord_50 ⟨by have a := hP.2; have b := hx; show _ + 100 ≤ 120 + (2663816 - ph) / 16; omega, by have a := hP.1; have b := hx; show _ + 200000 ≤ 700000 + (2663816 - ph); omega⟩ (fun rv d2 lo2 va2 kc ns hp => ?_)
      obtain ⟨rfl, rfl, rfl, rfl, rfl, rfl⟩ := hp
      show V X D CL A _ _ _ _ _ _ _ (.int (nI c) :: [])
      refine v_if_le hX d_S_endWord_53 (tgt := 65) (by decide) (fun c53 => ?_) (fun c53 => ?_)
      · have f53 : c ≤ 0 := (nI_leI (a := c) (b := 0) (by omega) (by omega)).mp c53
        refine v_aload_n hX d_S_endWord_65 rfl rfl ?_
        refine v_get hX 2 (v := .ref (ob 28)) inT2 hS.set.1 hS.set.2.1 hS.set.2.2 rfl 5 (by decide) fl_S_34 rfl rfl d_S_endWord_66 ?_
        refine v_aload_n hX d_S_endWord_69 rfl rfl ?_
        refine v_get hX 2 (v := .ref (ob 26)) inT2 hS.set.1 hS.set.2.1 hS.set.2.2 rfl 4 (by decide) fl_S_31 rfl rfl d_S_endWord_70 ?_
        refine c_V hX 28 (rest := []) hl (S_all hS (by omega)) ml_S_152 im_R_addAll se_R_addAll in_R cd_R_addAll rfl q_R_addAll ⟨(Nat.le_of_ble_eq_true rfl), (Nat.le_of_ble_eq_true rfl)⟩ (hS.row 28 (by decide)).1 (hS.row 28 (by decide)).2.1 (hS.row 28 (by decide)).2.2.choose_spec rfl rfl rfl rfl (Nat.le_of_ble_eq_true rfl) d_S_endWord_73 ⟨by have a := hP.2; have b := hx; show _ + 20 ≤ 120 + (2663816 - ph) / 16; omega, by have a := hP.1; have b := hx; show _ + 700000 ≤ 700000 + (2663816 - ph); omega⟩ (fun rv d2 lo1 va1 kc1 ns1 hp => ?_)
        obtain ⟨rfl, rfl, ⟨nl1, ph1, hS1, hm1, hp1⟩, hf1⟩ := hp
        show V X D CL A _ _ _ _ _ _ _ []
        have hP1 : (0 + ns1) + ph ≤ ph1 ∧ 16 * (0 + kc1) + ph ≤ ph1 := ⟨by have a := hP.1; have b := hp1.1; omega, by have a := hP.2; have b := hp1.2; omega⟩
        have hx1 : ph1 ≤ 2663816 := hS1.phi
        have hn1 : nl ≤ nl1 := Nat.le_trans (Nat.le_refl nl) hm1
        refine v_aload_n hX d_S_endWord_76 rfl rfl ?_
        refine v_get hX 2 (v := .ref (ob 26)) inT2 hS1.set.1 hS1.set.2.1 hS1.set.2.2 rfl 4 (by decide) fl_S_31 rfl rfl d_S_endWord_77 ?_
        refine v_iconst (v := 0) hX d_S_endWord_80 (by decide) ?_
        refine c_V hX 26 (rest := []) hl (S_cut26 hS1) ml_S_156 im_R_cut se_R_cut in_R cd_R_cut rfl q_R_cut ⟨(Nat.le_of_ble_eq_true rfl), (Nat.le_of_ble_eq_true rfl)⟩ (hS1.row 26 (by decide)).1 (hS1.row 26 (by decide)).2.1 (hS1.row 26 (by decide)).2.2.choose_spec rfl rfl rfl rfl (Nat.le_of_ble_eq_true rfl) d_S_endWord_81 ⟨by have a := hP1.2; have b := hx1; show _ + 100 ≤ 120 + (2663816 - ph) / 16; omega, by have a := hP1.1; have b := hx1; show _ + 200000 ≤ 700000 + (2663816 - ph); omega⟩ (fun rv d2 lo2 va2 kc2 ns2 hp => ?_)
        obtain ⟨rfl, rfl, ⟨nl2, ph2, hS2, hm2, hp2⟩, hf2⟩ := hp
        show V X D CL A _ _ _ _ _ _ _ []
        have hP2 : (0 + ns1 + ns2) + ph ≤ ph2 ∧ 16 * (0 + kc1 + kc2) + ph ≤ ph2 := ⟨by have a := hP1.1; have b := hp2.1; omega, by have a := hP1.2; have b := hp2.2; omega⟩
        have hx2 : ph2 ≤ 2663816 := hS2.phi
        have hn2 : nl ≤ nl2 := Nat.le_trans hn1 hm2
        exact v_vret hX hE d_S_endWord_84 (by have a := hP2.2; have b := hx2; show _ ≤ 120 + (2663816 - ph) / 16; omega) (by have a := hP2.1; have b := hx2; show _ ≤ 700000 + (2663816 - ph); omega) ⟨rfl, rfl, ⟨(c + w), nl2, ph2, by omega, hS2, hn2, by have a := hP2.1; have b := hP2.2; exact ⟨by omega, by omega⟩⟩, ((frL.rf.trans hf1).trans hf2)⟩
      · have f53 : ¬ c ≤ 0 := fun z => c53 ((nI_leI (a := c) (b := 0) (by omega) (by omega)).mpr z)
        refine v_aload_n hX d_S_endWord_56 rfl rfl ?_
        refine v_get hX 2 (v := .ref (ob 28)) inT2 hS.set.1 hS.set.2.1 hS.set.2.2 rfl 5 (by decide) fl_S_34 rfl rfl d_S_endWord_57 ?_
        refine v_bipush (v := 32) hX d_S_endWord_60 (by decide) ?_
        refine c_V hX 28 (rest := []) hl (S_add28 hS 32 (by omega)) ml_S_119 im_R_add se_R_add in_R cd_R_add rfl q_R_add ⟨(Nat.le_of_ble_eq_true rfl), (Nat.le_of_ble_eq_true rfl)⟩ (hS.row 28 (by decide)).1 (hS.row 28 (by decide)).2.1 (hS.row 28 (by decide)).2.2.choose_spec rfl rfl rfl rfl (Nat.le_of_ble_eq_true rfl) d_S_endWord_62 ⟨by have a := hP.2; have b := hx; show _ + 20 ≤ 120 + (2663816 - ph) / 16; omega, by have a := hP.1; have b := hx; show _ + 700000 ≤ 700000 + (2663816 - ph); omega⟩ (fun rv d2 lo3 va3 kc3 ns3 hp => ?_)
        obtain ⟨rfl, rfl, ⟨nl3, ph3, hS3, hm3, hp3⟩, hf3⟩ := hp
        show V X D CL A _ _ _ _ _ _ _ []
        have hP3 : (0 + ns3) + ph ≤ ph3 ∧ 16 * (0 + kc3) + ph ≤ ph3 := ⟨by have a := hP.1; have b := hp3.1; omega, by have a := hP.2; have b := hp3.2; omega⟩
        have hx3 : ph3 ≤ 2663816 := hS3.phi
        have hn3 : nl ≤ nl3 := Nat.le_trans (Nat.le_refl nl) hm3
        refine v_aload_n hX d_S_endWord_65 rfl rfl ?_
        refine v_get hX 2 (v := .ref (ob 28)) inT2 hS3.set.1 hS3.set.2.1 hS3.set.2.2 rfl 5 (by decide) fl_S_34 rfl rfl d_S_endWord_66 ?_
        refine v_aload_n hX d_S_endWord_69 rfl rfl ?_
        refine v_get hX 2 (v := .ref (ob 26)) inT2 hS3.set.1 hS3.set.2.1 hS3.set.2.2 rfl 4 (by decide) fl_S_31 rfl rfl d_S_endWord_70 ?_
        refine c_V hX 28 (rest := []) hl (S_all hS3 (by omega)) ml_S_152 im_R_addAll se_R_addAll in_R cd_R_addAll rfl q_R_addAll ⟨(Nat.le_of_ble_eq_true rfl), (Nat.le_of_ble_eq_true rfl)⟩ (hS3.row 28 (by decide)).1 (hS3.row 28 (by decide)).2.1 (hS3.row 28 (by decide)).2.2.choose_spec rfl rfl rfl rfl (Nat.le_of_ble_eq_true rfl) d_S_endWord_73 ⟨by have a := hP3.2; have b := hx3; show _ + 20 ≤ 120 + (2663816 - ph) / 16; omega, by have a := hP3.1; have b := hx3; show _ + 700000 ≤ 700000 + (2663816 - ph); omega⟩ (fun rv d2 lo4 va4 kc4 ns4 hp => ?_)
        obtain ⟨rfl, rfl, ⟨nl4, ph4, hS4, hm4, hp4⟩, hf4⟩ := hp
        show V X D CL A _ _ _ _ _ _ _ []
        have hP4 : (0 + ns3 + ns4) + ph ≤ ph4 ∧ 16 * (0 + kc3 + kc4) + ph ≤ ph4 := ⟨by have a := hP3.1; have b := hp4.1; omega, by have a := hP3.2; have b := hp4.2; omega⟩
        have hx4 : ph4 ≤ 2663816 := hS4.phi
        have hn4 : nl ≤ nl4 := Nat.le_trans hn3 hm4
        refine v_aload_n hX d_S_endWord_76 rfl rfl ?_
        refine v_get hX 2 (v := .ref (ob 26)) inT2 hS4.set.1 hS4.set.2.1 hS4.set.2.2 rfl 4 (by decide) fl_S_31 rfl rfl d_S_endWord_77 ?_
        refine v_iconst (v := 0) hX d_S_endWord_80 (by decide) ?_
        refine c_V hX 26 (rest := []) hl (S_cut26 hS4) ml_S_156 im_R_cut se_R_cut in_R cd_R_cut rfl q_R_cut ⟨(Nat.le_of_ble_eq_true rfl), (Nat.le_of_ble_eq_true rfl)⟩ (hS4.row 26 (by decide)).1 (hS4.row 26 (by decide)).2.1 (hS4.row 26 (by decide)).2.2.choose_spec rfl rfl rfl rfl (Nat.le_of_ble_eq_true rfl) d_S_endWord_81 ⟨by have a := hP4.2; have b := hx4; show _ + 100 ≤ 120 + (2663816 - ph) / 16; omega, by have a := hP4.1; have b := hx4; show _ + 200000 ≤ 700000 + (2663816 - ph); omega⟩ (fun rv d2 lo5 va5 kc5 ns5 hp => ?_)
        obtain ⟨rfl, rfl, ⟨nl5, ph5, hS5, hm5, hp5⟩, hf5⟩ := hp
        show V X D CL A _ _ _ _ _ _ _ []
        have hP5 : (0 + ns3 + ns4 + ns5) + ph ≤ ph5 ∧ 16 * (0 + kc3 + kc4 + kc5) + ph ≤ ph5 := ⟨by have a := hP4.1; have b := hp5.1; omega, by have a := hP4.2; have b := hp5.2; omega⟩
        have hx5 : ph5 ≤ 2663816 := hS5.phi
        have hn5 : nl ≤ nl5 := Nat.le_trans hn4 hm5
        exact v_vret hX hE d_S_endWord_84 (by have a := hP5.2; have b := hx5; show _ ≤ 120 + (2663816 - ph) / 16; omega) (by have a := hP5.1; have b := hx5; show _ ≤ 700000 + (2663816 - ph); omega) ⟨rfl, rfl, ⟨((c + 1) + w), nl5, ph5, by omega, hS5, hn5, by have a := hP5.1; have b := hP5.2; exact ⟨by omega, by omega⟩⟩, (((frL.rf.trans hf3).trans hf4).trans hf5)⟩
    · have f18 : ¬ c ≤ 0 := fun z => c18 ((nI_leI (a := c) (b := 0) (by omega) (by omega)).mpr z)
      refine v_aload_n hX d_S_endWord_21 rfl rfl ?_
      refine v_get hX 2 (v := .ref (ob 28)) inT2 hS.set.1 hS.set.2.1 hS.set.2.2 rfl 5 (by decide) fl_S_34 rfl rfl d_S_endWord_22 ?_
      refine c_V hX 28 (rest := []) hl (S_size28 hS) ml_S_129 im_R_size se_R_size in_R cd_R_size rfl q_R_size ⟨(Nat.le_of_ble_eq_true rfl), (Nat.le_of_ble_eq_true rfl)⟩ (hS.row 28 (by decide)).1 (hS.row 28 (by decide)).2.1 (hS.row 28 (by decide)).2.2.choose_spec rfl rfl rfl rfl (Nat.le_of_ble_eq_true rfl) d_S_endWord_25 ⟨by have a := hP.2; have b := hx; show _ + 100 ≤ 120 + (2663816 - ph) / 16; omega, by have a := hP.1; have b := hx; show _ + 200000 ≤ 700000 + (2663816 - ph); omega⟩ (fun rv d2 lo2 va2 kc ns hp => ?_)
      obtain ⟨rfl, rfl, rfl, rfl, rfl, rfl⟩ := hp
      show V X D CL A _ _ _ _ _ _ _ (.int (nI c) :: [])
      refine v_iconst (v := 1) hX d_S_endWord_28 (by decide) ?_
      refine v_iaddE (v := nI (c + 1)) hX d_S_endWord_29 (nI_add c 1) ?_
      refine v_aload_n hX d_S_endWord_30 rfl rfl ?_
      refine v_get hX 2 (v := .ref (ob 26)) inT2 hS.set.1 hS.set.2.1 hS.set.2.2 rfl 4 (by decide) fl_S_31 rfl rfl d_S_endWord_31 ?_
      refine c_V hX 26 (rest := [.int (nI (c + 1))]) hl (S_size26 hS) ml_S_129 im_R_size se_R_size in_R cd_R_size rfl q_R_size ⟨(Nat.le_of_ble_eq_true rfl), (Nat.le_of_ble_eq_true rfl)⟩ (hS.row 26 (by decide)).1 (hS.row 26 (by decide)).2.1 (hS.row 26 (by decide)).2.2.choose_spec rfl rfl rfl rfl (Nat.le_of_ble_eq_true rfl) d_S_endWord_34 ⟨by have a := hP.2; have b := hx; show _ + 100 ≤ 120 + (2663816 - ph) / 16; omega, by have a := hP.1; have b := hx; show _ + 200000 ≤ 700000 + (2663816 - ph); omega⟩ (fun rv d2 lo2 va2 kc ns hp => ?_)
      obtain ⟨rfl, rfl, rfl, rfl, rfl, rfl⟩ := hp
      show V X D CL A _ _ _ _ _ _ _ (.int (nI w) :: [.int (nI (c + 1))])
      refine v_iaddE (v := nI ((c + 1) + w)) hX d_S_endWord_37 (nI_add (c + 1) w) ?_
      refine v_iload_n hX d_S_endWord_38 rfl rfl ?_
      refine v_icmp_le hX d_S_endWord_39 (tgt := 46) (by decide) (fun c39 => ?_) (fun c39 => ?_)
      · have f39 : ((c + 1) + w) ≤ wd := (nI_leI (a := ((c + 1) + w)) (b := wd) (by omega) (by omega)).mp c39
        refine v_aload_n hX d_S_endWord_46 rfl rfl ?_
        refine v_get hX 2 (v := .ref (ob 28)) inT2 hS.set.1 hS.set.2.1 hS.set.2.2 rfl 5 (by decide) fl_S_34 rfl rfl d_S_endWord_47 ?_
        refine c_V hX 28 (rest := []) hl (S_size28 hS) ml_S_129 im_R_size se_R_size in_R cd_R_size rfl q_R_size ⟨(Nat.le_of_ble_eq_true rfl), (Nat.le_of_ble_eq_true rfl)⟩ (hS.row 28 (by decide)).1 (hS.row 28 (by decide)).2.1 (hS.row 28 (by decide)).2.2.choose_spec rfl rfl rfl rfl (Nat.le_of_ble_eq_true rfl) d_S_endWord_50 ⟨by have a := hP.2; have b := hx; show _ + 100 ≤ 120 + (2663816 - ph) / 16; omega, by have a := hP.1; have b := hx; show _ + 200000 ≤ 700000 + (2663816 - ph); omega⟩ (fun rv d2 lo2 va2 kc ns hp => ?_)
        obtain ⟨rfl, rfl, rfl, rfl, rfl, rfl⟩ := hp
        show V X D CL A _ _ _ _ _ _ _ (.int (nI c) :: [])
        refine v_if_le hX d_S_endWord_53 (tgt := 65) (by decide) (fun c53 => ?_) (fun c53 => ?_)
        · have f53 : c ≤ 0 := (nI_leI (a := c) (b := 0) (by omega) (by omega)).mp c53
          refine v_aload_n hX d_S_endWord_65 rfl rfl ?_
          refine v_get hX 2 (v := .ref (ob 28)) inT2 hS.set.1 hS.set.2.1 hS.set.2.2 rfl 5 (by decide) fl_S_34 rfl rfl d_S_endWord_66 ?_
          refine v_aload_n hX d_S_endWord_69 rfl rfl ?_
          refine v_get hX 2 (v := .ref (ob 26)) inT2 hS.set.1 hS.set.2.1 hS.set.2.2 rfl 4 (by decide) fl_S_31 rfl rfl d_S_endWord_70 ?_
          refine c_V hX 28 (rest := []) hl (S_all hS (by omega)) ml_S_152 im_R_addAll se_R_addAll in_R cd_R_addAll rfl q_R_addAll ⟨(Nat.le_of_ble_eq_true rfl), (Nat.le_of_ble_eq_true rfl)⟩ (hS.row 28 (by decide)).1 (hS.row 28 (by decide)).2.1 (hS.row 28 (by decide)).2.2.choose_spec rfl rfl rfl rfl (Nat.le_of_ble_eq_true rfl) d_S_endWord_73 ⟨by have a := hP.2; have b := hx; show _ + 20 ≤ 120 + (2663816 - ph) / 16; omega, by have a := hP.1; have b := hx; show _ + 700000 ≤ 700000 + (2663816 - ph); omega⟩ (fun rv d2 lo6 va6 kc6 ns6 hp => ?_)
          obtain ⟨rfl, rfl, ⟨nl6, ph6, hS6, hm6, hp6⟩, hf6⟩ := hp
          show V X D CL A _ _ _ _ _ _ _ []
          have hP6 : (0 + ns6) + ph ≤ ph6 ∧ 16 * (0 + kc6) + ph ≤ ph6 := ⟨by have a := hP.1; have b := hp6.1; omega, by have a := hP.2; have b := hp6.2; omega⟩
          have hx6 : ph6 ≤ 2663816 := hS6.phi
          have hn6 : nl ≤ nl6 := Nat.le_trans (Nat.le_refl nl) hm6
          refine v_aload_n hX d_S_endWord_76 rfl rfl ?_
          refine v_get hX 2 (v := .ref (ob 26)) inT2 hS6.set.1 hS6.set.2.1 hS6.set.2.2 rfl 4 (by decide) fl_S_31 rfl rfl d_S_endWord_77 ?_
          refine v_iconst (v := 0) hX d_S_endWord_80 (by decide) ?_
          refine c_V hX 26 (rest := []) hl (S_cut26 hS6) ml_S_156 im_R_cut se_R_cut in_R cd_R_cut rfl q_R_cut ⟨(Nat.le_of_ble_eq_true rfl), (Nat.le_of_ble_eq_true rfl)⟩ (hS6.row 26 (by decide)).1 (hS6.row 26 (by decide)).2.1 (hS6.row 26 (by decide)).2.2.choose_spec rfl rfl rfl rfl (Nat.le_of_ble_eq_true rfl) d_S_endWord_81 ⟨by have a := hP6.2; have b := hx6; show _ + 100 ≤ 120 + (2663816 - ph) / 16; omega, by have a := hP6.1; have b := hx6; show _ + 200000 ≤ 700000 + (2663816 - ph); omega⟩ (fun rv d2 lo7 va7 kc7 ns7 hp => ?_)
          obtain ⟨rfl, rfl, ⟨nl7, ph7, hS7, hm7, hp7⟩, hf7⟩ := hp
          show V X D CL A _ _ _ _ _ _ _ []
          have hP7 : (0 + ns6 + ns7) + ph ≤ ph7 ∧ 16 * (0 + kc6 + kc7) + ph ≤ ph7 := ⟨by have a := hP6.1; have b := hp7.1; omega, by have a := hP6.2; have b := hp7.2; omega⟩
          have hx7 : ph7 ≤ 2663816 := hS7.phi
          have hn7 : nl ≤ nl7 := Nat.le_trans hn6 hm7
          exact v_vret hX hE d_S_endWord_84 (by have a := hP7.2; have b := hx7; show _ ≤ 120 + (2663816 - ph) / 16; omega) (by have a := hP7.1; have b := hx7; show _ ≤ 700000 + (2663816 - ph); omega) ⟨rfl, rfl, ⟨(c + w), nl7, ph7, by omega, hS7, hn7, by have a := hP7.1; have b := hP7.2; exact ⟨by omega, by omega⟩⟩, ((frL.rf.trans hf6).trans hf7)⟩
        · have f53 : ¬ c ≤ 0 := fun z => c53 ((nI_leI (a := c) (b := 0) (by omega) (by omega)).mpr z)
          refine v_aload_n hX d_S_endWord_56 rfl rfl ?_
          refine v_get hX 2 (v := .ref (ob 28)) inT2 hS.set.1 hS.set.2.1 hS.set.2.2 rfl 5 (by decide) fl_S_34 rfl rfl d_S_endWord_57 ?_
          refine v_bipush (v := 32) hX d_S_endWord_60 (by decide) ?_
          refine c_V hX 28 (rest := []) hl (S_add28 hS 32 (by omega)) ml_S_119 im_R_add se_R_add in_R cd_R_add rfl q_R_add ⟨(Nat.le_of_ble_eq_true rfl), (Nat.le_of_ble_eq_true rfl)⟩ (hS.row 28 (by decide)).1 (hS.row 28 (by decide)).2.1 (hS.row 28 (by decide)).2.2.choose_spec rfl rfl rfl rfl (Nat.le_of_ble_eq_true rfl) d_S_endWord_62 ⟨by have a := hP.2; have b := hx; show _ + 20 ≤ 120 + (2663816 - ph) / 16; omega, by have a := hP.1; have b := hx; show _ + 700000 ≤ 700000 + (2663816 - ph); omega⟩ (fun rv d2 lo8 va8 kc8 ns8 hp => ?_)
          obtain ⟨rfl, rfl, ⟨nl8, ph8, hS8, hm8, hp8⟩, hf8⟩ := hp
          show V X D CL A _ _ _ _ _ _ _ []
          have hP8 : (0 + ns8) + ph ≤ ph8 ∧ 16 * (0 + kc8) + ph ≤ ph8 := ⟨by have a := hP.1; have b := hp8.1; omega, by have a := hP.2; have b := hp8.2; omega⟩
          have hx8 : ph8 ≤ 2663816 := hS8.phi
          have hn8 : nl ≤ nl8 := Nat.le_trans (Nat.le_refl nl) hm8
          refine v_aload_n hX d_S_endWord_65 rfl rfl ?_
          refine v_get hX 2 (v := .ref (ob 28)) inT2 hS8.set.1 hS8.set.2.1 hS8.set.2.2 rfl 5 (by decide) fl_S_34 rfl rfl d_S_endWord_66 ?_
          refine v_aload_n hX d_S_endWord_69 rfl rfl ?_
          refine v_get hX 2 (v := .ref (ob 26)) inT2 hS8.set.1 hS8.set.2.1 hS8.set.2.2 rfl 4 (by decide) fl_S_31 rfl rfl d_S_endWord_70 ?_
          refine c_V hX 28 (rest := []) hl (S_all hS8 (by omega)) ml_S_152 im_R_addAll se_R_addAll in_R cd_R_addAll rfl q_R_addAll ⟨(Nat.le_of_ble_eq_true rfl), (Nat.le_of_ble_eq_true rfl)⟩ (hS8.row 28 (by decide)).1 (hS8.row 28 (by decide)).2.1 (hS8.row 28 (by decide)).2.2.choose_spec rfl rfl rfl rfl (Nat.le_of_ble_eq_true rfl) d_S_endWord_73 ⟨by have a := hP8.2; have b := hx8; show _ + 20 ≤ 120 + (2663816 - ph) / 16; omega, by have a := hP8.1; have b := hx8; show _ + 700000 ≤ 700000 + (2663816 - ph); omega⟩ (fun rv d2 lo9 va9 kc9 ns9 hp => ?_)
          obtain ⟨rfl, rfl, ⟨nl9, ph9, hS9, hm9, hp9⟩, hf9⟩ := hp
          show V X D CL A _ _ _ _ _ _ _ []
          have hP9 : (0 + ns8 + ns9) + ph ≤ ph9 ∧ 16 * (0 + kc8 + kc9) + ph ≤ ph9 := ⟨by have a := hP8.1; have b := hp9.1; omega, by have a := hP8.2; have b := hp9.2; omega⟩
          have hx9 : ph9 ≤ 2663816 := hS9.phi
          have hn9 : nl ≤ nl9 := Nat.le_trans hn8 hm9
          refine v_aload_n hX d_S_endWord_76 rfl rfl ?_
          refine v_get hX 2 (v := .ref (ob 26)) inT2 hS9.set.1 hS9.set.2.1 hS9.set.2.2 rfl 4 (by decide) fl_S_31 rfl rfl d_S_endWord_77 ?_
          refine v_iconst (v := 0) hX d_S_endWord_80 (by decide) ?_
          refine c_V hX 26 (rest := []) hl (S_cut26 hS9) ml_S_156 im_R_cut se_R_cut in_R cd_R_cut rfl q_R_cut ⟨(Nat.le_of_ble_eq_true rfl), (Nat.le_of_ble_eq_true rfl)⟩ (hS9.row 26 (by decide)).1 (hS9.row 26 (by decide)).2.1 (hS9.row 26 (by decide)).2.2.choose_spec rfl rfl rfl rfl (Nat.le_of_ble_eq_true rfl) d_S_endWord_81 ⟨by have a := hP9.2; have b := hx9; show _ + 100 ≤ 120 + (2663816 - ph) / 16; omega, by have a := hP9.1; have b := hx9; show _ + 200000 ≤ 700000 + (2663816 - ph); omega⟩ (fun rv d2 lo10 va10 kc10 ns10 hp => ?_)
          obtain ⟨rfl, rfl, ⟨nl10, ph10, hS10, hm10, hp10⟩, hf10⟩ := hp
          show V X D CL A _ _ _ _ _ _ _ []
          have hP10 : (0 + ns8 + ns9 + ns10) + ph ≤ ph10 ∧ 16 * (0 + kc8 + kc9 + kc10) + ph ≤ ph10 := ⟨by have a := hP9.1; have b := hp10.1; omega, by have a := hP9.2; have b := hp10.2; omega⟩
          have hx10 : ph10 ≤ 2663816 := hS10.phi
          have hn10 : nl ≤ nl10 := Nat.le_trans hn9 hm10
          exact v_vret hX hE d_S_endWord_84 (by have a := hP10.2; have b := hx10; show _ ≤ 120 + (2663816 - ph) / 16; omega) (by have a := hP10.1; have b := hx10; show _ ≤ 700000 + (2663816 - ph); omega) ⟨rfl, rfl, ⟨((c + 1) + w), nl10, ph10, by omega, hS10, hn10, by have a := hP10.1; have b := hP10.2; exact ⟨by omega, by omega⟩⟩, (((frL.rf.trans hf8).trans hf9).trans hf10)⟩
      · have f39 : ¬ ((c + 1) + w) ≤ wd := fun z => c39 ((nI_leI (a := ((c + 1) + w)) (b := wd) (by omega) (by omega)).mpr z)
        refine v_aload_n hX d_S_endWord_42 rfl rfl ?_
        refine c_V hX 2 (rest := []) hl (c_S_putLine hS (by omega) (by omega)) ml_S_122 im_S_putLine se_S_putLine in_S cd_S_putLine rfl q_S_putLine ⟨(Nat.le_of_ble_eq_true rfl), (Nat.le_of_ble_eq_true rfl)⟩ hS.set.1 hS.set.2.1 hS.set.2.2 rfl rfl rfl rfl (Nat.le_of_ble_eq_true rfl) d_S_endWord_43 ⟨by have a := hP.2; have b := hx; show _ + (120 + (2663816 - ph) / 16) ≤ 120 + (2663816 - ph) / 16; omega, by have a := hP.1; have b := hx; show _ + (700000 + (2663816 - ph)) ≤ 700000 + (2663816 - ph); omega⟩ (fun rv d2 lo11 va11 kc11 ns11 hp => ?_)
        obtain ⟨rfl, rfl, ⟨nl11, ph11, hS11, hm11, hp11⟩, hf11⟩ := hp
        show V X D CL A _ _ _ _ _ _ _ []
        have hP11 : (0 + ns11) + ph ≤ ph11 ∧ 16 * (0 + kc11) + ph ≤ ph11 := ⟨by have a := hP.1; have b := hp11.1; omega, by have a := hP.2; have b := hp11.2; omega⟩
        have hx11 : ph11 ≤ 2663816 := hS11.phi
        have hn11 : nl ≤ nl11 := Nat.le_trans (Nat.le_refl nl) hm11
        refine v_aload_n hX d_S_endWord_46 rfl rfl ?_
        refine v_get hX 2 (v := .ref (ob 28)) inT2 hS11.set.1 hS11.set.2.1 hS11.set.2.2 rfl 5 (by decide) fl_S_34 rfl rfl d_S_endWord_47 ?_
        refine c_V hX 28 (rest := []) hl (S_size28 hS11) ml_S_129 im_R_size se_R_size in_R cd_R_size rfl q_R_size ⟨(Nat.le_of_ble_eq_true rfl), (Nat.le_of_ble_eq_true rfl)⟩ (hS11.row 28 (by decide)).1 (hS11.row 28 (by decide)).2.1 (hS11.row 28 (by decide)).2.2.choose_spec rfl rfl rfl rfl (Nat.le_of_ble_eq_true rfl) d_S_endWord_50 ⟨by have a := hP11.2; have b := hx11; show _ + 100 ≤ 120 + (2663816 - ph) / 16; omega, by have a := hP11.1; have b := hx11; show _ + 200000 ≤ 700000 + (2663816 - ph); omega⟩ (fun rv d2 lo2 va2 kc ns hp => ?_)
        obtain ⟨rfl, rfl, rfl, rfl, rfl, rfl⟩ := hp
        show V X D CL A _ _ _ _ _ _ _ (.int (nI 0) :: [])
        refine v_if_le hX d_S_endWord_53 (tgt := 65) (by decide) (fun c53 => ?_) (fun c53 => ?_)
        · have f53 : 0 ≤ 0 := (nI_leI (a := 0) (b := 0) (by omega) (by omega)).mp c53
          refine v_aload_n hX d_S_endWord_65 rfl rfl ?_
          refine v_get hX 2 (v := .ref (ob 28)) inT2 hS11.set.1 hS11.set.2.1 hS11.set.2.2 rfl 5 (by decide) fl_S_34 rfl rfl d_S_endWord_66 ?_
          refine v_aload_n hX d_S_endWord_69 rfl rfl ?_
          refine v_get hX 2 (v := .ref (ob 26)) inT2 hS11.set.1 hS11.set.2.1 hS11.set.2.2 rfl 4 (by decide) fl_S_31 rfl rfl d_S_endWord_70 ?_
          refine c_V hX 28 (rest := []) hl (S_all hS11 (by omega)) ml_S_152 im_R_addAll se_R_addAll in_R cd_R_addAll rfl q_R_addAll ⟨(Nat.le_of_ble_eq_true rfl), (Nat.le_of_ble_eq_true rfl)⟩ (hS11.row 28 (by decide)).1 (hS11.row 28 (by decide)).2.1 (hS11.row 28 (by decide)).2.2.choose_spec rfl rfl rfl rfl (Nat.le_of_ble_eq_true rfl) d_S_endWord_73 ⟨by have a := hP11.2; have b := hx11; show _ + 20 ≤ 120 + (2663816 - ph) / 16; omega, by have a := hP11.1; have b := hx11; show _ + 700000 ≤ 700000 + (2663816 - ph); omega⟩ (fun rv d2 lo12 va12 kc12 ns12 hp => ?_)
          obtain ⟨rfl, rfl, ⟨nl12, ph12, hS12, hm12, hp12⟩, hf12⟩ := hp
          show V X D CL A _ _ _ _ _ _ _ []
          have hP12 : (0 + ns11 + ns12) + ph ≤ ph12 ∧ 16 * (0 + kc11 + kc12) + ph ≤ ph12 := ⟨by have a := hP11.1; have b := hp12.1; omega, by have a := hP11.2; have b := hp12.2; omega⟩
          have hx12 : ph12 ≤ 2663816 := hS12.phi
          have hn12 : nl ≤ nl12 := Nat.le_trans hn11 hm12
          refine v_aload_n hX d_S_endWord_76 rfl rfl ?_
          refine v_get hX 2 (v := .ref (ob 26)) inT2 hS12.set.1 hS12.set.2.1 hS12.set.2.2 rfl 4 (by decide) fl_S_31 rfl rfl d_S_endWord_77 ?_
          refine v_iconst (v := 0) hX d_S_endWord_80 (by decide) ?_
          refine c_V hX 26 (rest := []) hl (S_cut26 hS12) ml_S_156 im_R_cut se_R_cut in_R cd_R_cut rfl q_R_cut ⟨(Nat.le_of_ble_eq_true rfl), (Nat.le_of_ble_eq_true rfl)⟩ (hS12.row 26 (by decide)).1 (hS12.row 26 (by decide)).2.1 (hS12.row 26 (by decide)).2.2.choose_spec rfl rfl rfl rfl (Nat.le_of_ble_eq_true rfl) d_S_endWord_81 ⟨by have a := hP12.2; have b := hx12; show _ + 100 ≤ 120 + (2663816 - ph) / 16; omega, by have a := hP12.1; have b := hx12; show _ + 200000 ≤ 700000 + (2663816 - ph); omega⟩ (fun rv d2 lo13 va13 kc13 ns13 hp => ?_)
          obtain ⟨rfl, rfl, ⟨nl13, ph13, hS13, hm13, hp13⟩, hf13⟩ := hp
          show V X D CL A _ _ _ _ _ _ _ []
          have hP13 : (0 + ns11 + ns12 + ns13) + ph ≤ ph13 ∧ 16 * (0 + kc11 + kc12 + kc13) + ph ≤ ph13 := ⟨by have a := hP12.1; have b := hp13.1; omega, by have a := hP12.2; have b := hp13.2; omega⟩
          have hx13 : ph13 ≤ 2663816 := hS13.phi
          have hn13 : nl ≤ nl13 := Nat.le_trans hn12 hm13
          exact v_vret hX hE d_S_endWord_84 (by have a := hP13.2; have b := hx13; show _ ≤ 120 + (2663816 - ph) / 16; omega) (by have a := hP13.1; have b := hx13; show _ ≤ 700000 + (2663816 - ph); omega) ⟨rfl, rfl, ⟨(0 + w), nl13, ph13, by omega, hS13, hn13, by have a := hP13.1; have b := hP13.2; exact ⟨by omega, by omega⟩⟩, (((frL.rf.trans hf11).trans hf12).trans hf13)⟩
        · have f53 : ¬ 0 ≤ 0 := fun z => c53 ((nI_leI (a := 0) (b := 0) (by omega) (by omega)).mpr z)
          refine v_aload_n hX d_S_endWord_56 rfl rfl ?_
          refine v_get hX 2 (v := .ref (ob 28)) inT2 hS11.set.1 hS11.set.2.1 hS11.set.2.2 rfl 5 (by decide) fl_S_34 rfl rfl d_S_endWord_57 ?_
          refine v_bipush (v := 32) hX d_S_endWord_60 (by decide) ?_
          refine c_V hX 28 (rest := []) hl (S_add28 hS11 32 (by omega)) ml_S_119 im_R_add se_R_add in_R cd_R_add rfl q_R_add ⟨(Nat.le_of_ble_eq_true rfl), (Nat.le_of_ble_eq_true rfl)⟩ (hS11.row 28 (by decide)).1 (hS11.row 28 (by decide)).2.1 (hS11.row 28 (by decide)).2.2.choose_spec rfl rfl rfl rfl (Nat.le_of_ble_eq_true rfl) d_S_endWord_62 ⟨by have a := hP11.2; have b := hx11; show _ + 20 ≤ 120 + (2663816 - ph) / 16; omega, by have a := hP11.1; have b := hx11; show _ + 700000 ≤ 700000 + (2663816 - ph); omega⟩ (fun rv d2 lo14 va14 kc14 ns14 hp => ?_)
          obtain ⟨rfl, rfl, ⟨nl14, ph14, hS14, hm14, hp14⟩, hf14⟩ := hp
          show V X D CL A _ _ _ _ _ _ _ []
          have hP14 : (0 + ns11 + ns14) + ph ≤ ph14 ∧ 16 * (0 + kc11 + kc14) + ph ≤ ph14 := ⟨by have a := hP11.1; have b := hp14.1; omega, by have a := hP11.2; have b := hp14.2; omega⟩
          have hx14 : ph14 ≤ 2663816 := hS14.phi
          have hn14 : nl ≤ nl14 := Nat.le_trans hn11 hm14
          refine v_aload_n hX d_S_endWord_65 rfl rfl ?_
          refine v_get hX 2 (v := .ref (ob 28)) inT2 hS14.set.1 hS14.set.2.1 hS14.set.2.2 rfl 5 (by decide) fl_S_34 rfl rfl d_S_endWord_66 ?_
          refine v_aload_n hX d_S_endWord_69 rfl rfl ?_
          refine v_get hX 2 (v := .ref (ob 26)) inT2 hS14.set.1 hS14.set.2.1 hS14.set.2.2 rfl 4 (by decide) fl_S_31 rfl rfl d_S_endWord_70 ?_
          refine c_V hX 28 (rest := []) hl (S_all hS14 (by omega)) ml_S_152 im_R_addAll se_R_addAll in_R cd_R_addAll rfl q_R_addAll ⟨(Nat.le_of_ble_eq_true rfl), (Nat.le_of_ble_eq_true rfl)⟩ (hS14.row 28 (by decide)).1 (hS14.row 28 (by decide)).2.1 (hS14.row 28 (by decide)).2.2.choose_spec rfl rfl rfl rfl (Nat.le_of_ble_eq_true rfl) d_S_endWord_73 ⟨by have a := hP14.2; have b := hx14; show _ + 20 ≤ 120 + (2663816 - ph) / 16; omega, by have a := hP14.1; have b := hx14; show _ + 700000 ≤ 700000 + (2663816 - ph); omega⟩ (fun rv d2 lo15 va15 kc15 ns15 hp => ?_)
          obtain ⟨rfl, rfl, ⟨nl15, ph15, hS15, hm15, hp15⟩, hf15⟩ := hp
          show V X D CL A _ _ _ _ _ _ _ []
          have hP15 : (0 + ns11 + ns14 + ns15) + ph ≤ ph15 ∧ 16 * (0 + kc11 + kc14 + kc15) + ph ≤ ph15 := ⟨by have a := hP14.1; have b := hp15.1; omega, by have a := hP14.2; have b := hp15.2; omega⟩
          have hx15 : ph15 ≤ 2663816 := hS15.phi
          have hn15 : nl ≤ nl15 := Nat.le_trans hn14 hm15
          refine v_aload_n hX d_S_endWord_76 rfl rfl ?_
          refine v_get hX 2 (v := .ref (ob 26)) inT2 hS15.set.1 hS15.set.2.1 hS15.set.2.2 rfl 4 (by decide) fl_S_31 rfl rfl d_S_endWord_77 ?_
          refine v_iconst (v := 0) hX d_S_endWord_80 (by decide) ?_
          refine c_V hX 26 (rest := []) hl (S_cut26 hS15) ml_S_156 im_R_cut se_R_cut in_R cd_R_cut rfl q_R_cut ⟨(Nat.le_of_ble_eq_true rfl), (Nat.le_of_ble_eq_true rfl)⟩ (hS15.row 26 (by decide)).1 (hS15.row 26 (by decide)).2.1 (hS15.row 26 (by decide)).2.2.choose_spec rfl rfl rfl rfl (Nat.le_of_ble_eq_true rfl) d_S_endWord_81 ⟨by have a := hP15.2; have b := hx15; show _ + 100 ≤ 120 + (2663816 - ph) / 16; omega, by have a := hP15.1; have b := hx15; show _ + 200000 ≤ 700000 + (2663816 - ph); omega⟩ (fun rv d2 lo16 va16 kc16 ns16 hp => ?_)
          obtain ⟨rfl, rfl, ⟨nl16, ph16, hS16, hm16, hp16⟩, hf16⟩ := hp
          show V X D CL A _ _ _ _ _ _ _ []
          have hP16 : (0 + ns11 + ns14 + ns15 + ns16) + ph ≤ ph16 ∧ 16 * (0 + kc11 + kc14 + kc15 + kc16) + ph ≤ ph16 := ⟨by have a := hP15.1; have b := hp16.1; omega, by have a := hP15.2; have b := hp16.2; omega⟩
          have hx16 : ph16 ≤ 2663816 := hS16.phi
          have hn16 : nl ≤ nl16 := Nat.le_trans hn15 hm16
          exact v_vret hX hE d_S_endWord_84 (by have a := hP16.2; have b := hx16; show _ ≤ 120 + (2663816 - ph) / 16; omega) (by have a := hP16.1; have b := hx16; show _ ≤ 700000 + (2663816 - ph); omega) ⟨rfl, rfl, ⟨((0 + 1) + w), nl16, ph16, by omega, hS16, hn16, by have a := hP16.1; have b := hP16.2; exact ⟨by omega, by omega⟩⟩, ((((frL.rf.trans hf11).trans hf14).trans hf15).trans hf16)⟩
  · have f7 : w = 0 := (nI_eq (a := w) (b := 0) (by omega) (by omega)).mp c7
    exact v_vret hX hE d_S_endWord_10 (by have a := hP.2; have b := hx; show _ ≤ 120 + (2663816 - ph) / 16; omega) (by have a := hP.1; have b := hx; show _ ≤ 700000 + (2663816 - ph); omega) ⟨rfl, rfl, ⟨c, nl, ph, by omega, (by have e9 : w = 0 := (by omega); subst e9; exact hS), (Nat.le_refl nl), by have a := hP.1; have b := hP.2; exact ⟨by omega, by omega⟩⟩, frL.rf⟩
end
section
set_option maxHeartbeats 4000000 in
set_option maxRecDepth 100000 in
theorem c_S_headSign {l : Launch} {D : va_G} {A : Nat → Prop} {cI cB cZ cJ cN : ClassId} {ob : Nat → Nat} {td w c a al nl pf tl ph : Nat} {dom : Nat → Prop} {loc : Nat → Nat} {val : Nat → va_E} (hS : LayS cI ob td w c a al nl pf tl ph dom loc val) (x : Int32) {wd : Nat} (hwd : 4 ≤ wd ∧ wd ≤ 60) (ha : a ≤ 144) (hw : w ≤ wd) (hc : c ≤ wd) : kM l y_S_addHeadingSign (Cond.code y_S_addHeadingSign b_S_addHeadingSign 4 none :: TT) (rmP 5 ph) D CL (TY cI cB cZ cJ cN) A [.ref (ob 2), .int x, .int (nI wd)] dom loc val (fun rv d lo va kc ns => rv = none ∧ dom = d ∧ (∃ c2 nl2 ph2, c2 ≤ wd ∧ LayS cI ob td 0 c2 a al nl2 pf tl ph2 dom lo va ∧ nl ≤ nl2 ∧ (ns + ph ≤ ph2 ∧ 16 * kc + ph ≤ ph2)) ∧ frL loc val lo va) := by
  refine kM_of (lv0 := [some (.ref (ob 2)), some (.int x), some (.int (nI wd)), none]) (own := "ProsePages$Setter") (by decide) rfl (List.forall_mem_cons.mpr ⟨rfl, List.forall_mem_cons.mpr ⟨rfl, List.forall_mem_cons.mpr ⟨rfl, fun _ h => nomatch h⟩⟩⟩) (Nat.le_of_ble_eq_true rfl) rfl (Nat.le_of_ble_eq_true rfl) (fun X hl hX hE hin0 => ?_)
  have hP : 0 + ph ≤ ph ∧ 16 * 0 + ph ≤ ph := ⟨by omega, by omega⟩
  have hx : ph ≤ 2663816 := hS.phi
  refine v_iconst (v := 0) hX d_S_addHeadingSign_0 (by decide) ?_
  refine v_istore_n (lv' := [some (.ref (ob 2)), some (.int x), some (.int (nI wd)), some (.int 0)]) hX d_S_addHeadingSign_1 rfl (Nat.le_of_ble_eq_true rfl) rfl ?_
  have loop : ∀ (m9 : Nat) (k : Int32) (loL : Nat → Nat) (vaL : Nat → va_E) (csL ssL wL cL nlL phL : Nat), (x.toInt - k.toInt).toNat < m9 → LayS cI ob td wL cL a al nlL pf tl phL dom loL vaL → (wL ≤ wd ∧ cL ≤ wd) → nl ≤ nlL → (ssL + ph ≤ phL ∧ 16 * csL + ph ≤ phL) → frL loc val loL vaL → V X D CL A dom loL vaL csL ssL 2 [some (.ref (ob 2)), some (.int x), some (.int (nI wd)), some (.int k)] [] := by
    intro m9
    induction m9 with
    | zero => intro k loL vaL csL ssL wL cL nlL phL hk hSL hcL hnL hPL hfL; exact absurd hk (Nat.not_lt_zero _)
    | succ m9 ih =>
      intro k loL vaL csL ssL wL cL nlL phL hk hSL hcL hnL hPL hfL
      have hxL : phL ≤ 2663816 := hSL.phi
      have hcL2 := hcL
      refine v_iload_n hX d_S_addHeadingSign_2 rfl rfl ?_
      refine v_iload_n hX d_S_addHeadingSign_3 rfl rfl ?_
      refine v_icmp_ge hX d_S_addHeadingSign_4 (tgt := 20) (by decide) (fun c4 => ?_) (fun c4 => ?_)
      · refine v_aload_n hX d_S_addHeadingSign_20 rfl rfl ?_
        refine v_iload_n hX d_S_addHeadingSign_21 rfl rfl ?_
        refine c_V hX 2 (rest := []) hl (c_S_endWord hSL hwd (by omega) (by omega) (by omega)) ml_S_116 im_S_endWord se_S_endWord in_S cd_S_endWord rfl q_S_endWord ⟨(Nat.le_of_ble_eq_true rfl), (Nat.le_of_ble_eq_true rfl)⟩ hSL.set.1 hSL.set.2.1 hSL.set.2.2 rfl rfl rfl rfl (Nat.le_of_ble_eq_true rfl) d_S_addHeadingSign_22 ⟨by have a := hPL.2; have b := hxL; show _ + (120 + (2663816 - phL) / 16) ≤ 120 + (2663816 - ph) / 16; omega, by have a := hPL.1; have b := hxL; show _ + (700000 + (2663816 - phL)) ≤ 700000 + (2663816 - ph); omega⟩ (fun rv d2 lo1 va1 kc1 ns1 hp => ?_)
        obtain ⟨rfl, rfl, ⟨cc1, nl1, ph1, hc1, hS1, hm1, hp1⟩, hf1⟩ := hp
        show V X D CL A _ _ _ _ _ _ _ []
        have hP1 : (ssL + ns1) + ph ≤ ph1 ∧ 16 * (csL + kc1) + ph ≤ ph1 := ⟨by have a := hPL.1; have b := hp1.1; omega, by have a := hPL.2; have b := hp1.2; omega⟩
        have hx1 : ph1 ≤ 2663816 := hS1.phi
        have hn1 : nl ≤ nl1 := Nat.le_trans hnL hm1
        exact v_vret hX hE d_S_addHeadingSign_25 (by have a := hP1.2; have b := hx1; show _ ≤ 120 + (2663816 - ph) / 16; omega) (by have a := hP1.1; have b := hx1; show _ ≤ 700000 + (2663816 - ph); omega) ⟨rfl, rfl, ⟨cc1, nl1, ph1, by omega, hS1, hn1, by have a := hP1.1; have b := hP1.2; exact ⟨by omega, by omega⟩⟩, (hfL.trans hf1)⟩
      · refine v_aload_n hX d_S_addHeadingSign_7 rfl rfl ?_
        refine v_bipush (v := 61) hX d_S_addHeadingSign_8 (by decide) ?_
        refine v_iload_n hX d_S_addHeadingSign_10 rfl rfl ?_
        refine c_V hX 2 (rest := []) hl (c_S_addLetter hSL 61 hwd (by omega) (by omega) (by omega)) ml_S_113 im_S_addLetter se_S_addLetter in_S cd_S_addLetter rfl q_S_addLetter ⟨(Nat.le_of_ble_eq_true rfl), (Nat.le_of_ble_eq_true rfl)⟩ hSL.set.1 hSL.set.2.1 hSL.set.2.2 rfl rfl rfl rfl (Nat.le_of_ble_eq_true rfl) d_S_addHeadingSign_11 ⟨by have a := hPL.2; have b := hxL; show _ + (120 + (2663816 - phL) / 16) ≤ 120 + (2663816 - ph) / 16; omega, by have a := hPL.1; have b := hxL; show _ + (700000 + (2663816 - phL)) ≤ 700000 + (2663816 - ph); omega⟩ (fun rv d2 lo2 va2 kc2 ns2 hp => ?_)
        obtain ⟨rfl, rfl, ⟨ww2, cc2, nl2, ph2, ⟨hw2, hc2⟩, hS2, hm2, hp2⟩, hf2⟩ := hp
        show V X D CL A _ _ _ _ _ _ _ []
        have hP2 : (ssL + ns2) + ph ≤ ph2 ∧ 16 * (csL + kc2) + ph ≤ ph2 := ⟨by have a := hPL.1; have b := hp2.1; omega, by have a := hPL.2; have b := hp2.2; omega⟩
        have hx2 : ph2 ≤ 2663816 := hS2.phi
        have hn2 : nl ≤ nl2 := Nat.le_trans hnL hm2
        refine v_iinc (y := (k + 1)) (lv' := [some (.ref (ob 2)), some (.int x), some (.int (nI wd)), some (.int (k + 1))]) hX d_S_addHeadingSign_14 rfl (by rfl) rfl ?_
        refine v_goto hX d_S_addHeadingSign_17 (tgt := 2) (by decide) ?_
        exact ih (k + 1) lo2 va2 (csL + kc2) (ssL + ns2) ww2 cc2 nl2 ph2 (iter_lt (Int32.not_le.mp c4) hk) hS2 (⟨by omega, by omega⟩) hn2 hP2 (hfL.trans hf2)
  exact loop _ _ loc val (0) (0) w c nl ph (Nat.lt_succ_self _) hS (⟨by omega, by omega⟩) (Nat.le_refl nl) hP frL.rf
set_option maxHeartbeats 4000000 in
set_option maxRecDepth 100000 in
theorem c_S_layRule {l : Launch} {D : va_G} {A : Nat → Prop} {cI cB cZ cJ cN : ClassId} {ob : Nat → Nat} {td w c a al nl pf tl ph : Nat} {dom : Nat → Prop} {loc : Nat → Nat} {val : Nat → va_E} (hS : LayS cI ob td w 0 a al nl pf tl ph dom loc val) {wd : Nat} (hwd : 4 ≤ wd ∧ wd ≤ 60) (ha : a ≤ 144) : kM l y_S_layRule (Cond.code y_S_layRule b_S_layRule 3 none :: TT) (rmP 4 ph) D CL (TY cI cB cZ cJ cN) A [.ref (ob 2), .int (nI wd)] dom loc val (PSt cI ob td w 0 a al nl pf tl ph dom loc val) := by
  refine kM_of (lv0 := [some (.ref (ob 2)), some (.int (nI wd)), none]) (own := "ProsePages$Setter") (by decide) rfl (List.forall_mem_cons.mpr ⟨rfl, List.forall_mem_cons.mpr ⟨rfl, fun _ h => nomatch h⟩⟩) (Nat.le_of_ble_eq_true rfl) rfl (Nat.le_of_ble_eq_true rfl) (fun X hl hX hE hin0 => ?_)
  have hP : 0 + ph ≤ ph ∧ 16 * 0 + ph ≤ ph := ⟨by omega, by omega⟩
  have hx : ph ≤ 2663816 := hS.phi
  refine v_iconst (v := 0) hX d_S_layRule_0 (by decide) ?_
  refine v_istore_n (lv' := [some (.ref (ob 2)), some (.int (nI wd)), some (.int 0)]) hX d_S_layRule_1 rfl (Nat.le_of_ble_eq_true rfl) rfl ?_
  have loop : ∀ (m9 : Nat) (k : Nat) (loL : Nat → Nat) (vaL : Nat → va_E) (csL ssL cL nlL phL : Nat), wd - k < m9 → LayS cI ob td w cL a al nlL pf tl phL dom loL vaL → (cL = k ∧ k ≤ wd) → nl ≤ nlL → (ssL + ph ≤ phL ∧ 16 * csL + ph ≤ phL) → frL loc val loL vaL → V X D CL A dom loL vaL csL ssL 2 [some (.ref (ob 2)), some (.int (nI wd)), some (.int (nI k))] [] := by
    intro m9
    induction m9 with
    | zero => intro k loL vaL csL ssL cL nlL phL hk hSL hcL hnL hPL hfL; exact absurd hk (Nat.not_lt_zero _)
    | succ m9 ih =>
      intro k loL vaL csL ssL cL nlL phL hk hSL hcL hnL hPL hfL
      have hxL : phL ≤ 2663816 := hSL.phi
      have hcL2 := hcL
      refine v_iload_n hX d_S_layRule_2 rfl rfl ?_
      refine v_iload_n hX d_S_layRule_3 rfl rfl ?_
      refine v_icmp_ge hX d_S_layRule_4 (tgt := 22) (by decide) (fun c4 => ?_) (fun c4 => ?_)
      · have f4 : wd ≤ k := (nI_leI (a := wd) (b := k) (by omega) (by omega)).mp c4
        refine v_aload_n hX d_S_layRule_22 rfl rfl ?_
        refine c_V hX 2 (rest := []) hl (c_S_putLine hSL (by omega) (by omega)) ml_S_122 im_S_putLine se_S_putLine in_S cd_S_putLine rfl q_S_putLine ⟨(Nat.le_of_ble_eq_true rfl), (Nat.le_of_ble_eq_true rfl)⟩ hSL.set.1 hSL.set.2.1 hSL.set.2.2 rfl rfl rfl rfl (Nat.le_of_ble_eq_true rfl) d_S_layRule_23 ⟨by have a := hPL.2; have b := hxL; show _ + (120 + (2663816 - phL) / 16) ≤ 120 + (2663816 - ph) / 16; omega, by have a := hPL.1; have b := hxL; show _ + (700000 + (2663816 - phL)) ≤ 700000 + (2663816 - ph); omega⟩ (fun rv d2 lo1 va1 kc1 ns1 hp => ?_)
        obtain ⟨rfl, rfl, ⟨nl1, ph1, hS1, hm1, hp1⟩, hf1⟩ := hp
        show V X D CL A _ _ _ _ _ _ _ []
        have hP1 : (ssL + ns1) + ph ≤ ph1 ∧ 16 * (csL + kc1) + ph ≤ ph1 := ⟨by have a := hPL.1; have b := hp1.1; omega, by have a := hPL.2; have b := hp1.2; omega⟩
        have hx1 : ph1 ≤ 2663816 := hS1.phi
        have hn1 : nl ≤ nl1 := Nat.le_trans hnL hm1
        exact v_vret hX hE d_S_layRule_26 (by have a := hP1.2; have b := hx1; show _ ≤ 120 + (2663816 - ph) / 16; omega) (by have a := hP1.1; have b := hx1; show _ ≤ 700000 + (2663816 - ph); omega) ⟨rfl, rfl, ⟨nl1, ph1, hS1, hn1, by have a := hP1.1; have b := hP1.2; exact ⟨by omega, by omega⟩⟩, (hfL.trans hf1)⟩
      · have f4 : ¬ wd ≤ k := fun z => c4 ((nI_leI (a := wd) (b := k) (by omega) (by omega)).mpr z)
        refine v_aload_n hX d_S_layRule_7 rfl rfl ?_
        refine v_get hX 2 (v := .ref (ob 28)) inT2 hSL.set.1 hSL.set.2.1 hSL.set.2.2 rfl 5 (by decide) fl_S_34 rfl rfl d_S_layRule_8 ?_
        refine v_bipush (v := 45) hX d_S_layRule_11 (by decide) ?_
        refine c_V hX 28 (rest := []) hl (S_add28 hSL 45 (by omega)) ml_S_119 im_R_add se_R_add in_R cd_R_add rfl q_R_add ⟨(Nat.le_of_ble_eq_true rfl), (Nat.le_of_ble_eq_true rfl)⟩ (hSL.row 28 (by decide)).1 (hSL.row 28 (by decide)).2.1 (hSL.row 28 (by decide)).2.2.choose_spec rfl rfl rfl rfl (Nat.le_of_ble_eq_true rfl) d_S_layRule_13 ⟨by have a := hPL.2; have b := hxL; show _ + 20 ≤ 120 + (2663816 - ph) / 16; omega, by have a := hPL.1; have b := hxL; show _ + 700000 ≤ 700000 + (2663816 - ph); omega⟩ (fun rv d2 lo2 va2 kc2 ns2 hp => ?_)
        obtain ⟨rfl, rfl, ⟨nl2, ph2, hS2, hm2, hp2⟩, hf2⟩ := hp
        show V X D CL A _ _ _ _ _ _ _ []
        have hP2 : (ssL + ns2) + ph ≤ ph2 ∧ 16 * (csL + kc2) + ph ≤ ph2 := ⟨by have a := hPL.1; have b := hp2.1; omega, by have a := hPL.2; have b := hp2.2; omega⟩
        have hx2 : ph2 ≤ 2663816 := hS2.phi
        have hn2 : nl ≤ nl2 := Nat.le_trans hnL hm2
        refine v_iinc (y := ((nI k) + 1)) (lv' := [some (.ref (ob 2)), some (.int (nI wd)), some (.int ((nI k) + 1))]) hX d_S_layRule_16 rfl (by rfl) rfl ?_
        refine v_goto hX d_S_layRule_19 (tgt := 2) (by decide) ?_
        rw [show nI k + 1 = nI (k + 1) from nI_1 k]
        exact ih (k + 1) lo2 va2 (csL + kc2) (ssL + ns2) (cL + 1) nl2 ph2 (by omega) hS2 (⟨by omega, by omega⟩) hn2 hP2 (hfL.trans hf2)
  exact loop _ 0 loc val (0) (0) 0 nl ph (Nat.lt_succ_self _) hS (⟨by omega, by omega⟩) (Nat.le_refl nl) hP frL.rf
theorem c_P_isWhite {l : Launch} {D : va_G} {A : Nat → Prop} {cI cB cZ cJ cN : ClassId} {dom : Nat → Prop} {loc : Nat → Nat} {val : Nat → va_E} (x : Int32) : kM l y_P_isWhite (Cond.code y_P_isWhite b_P_isWhite 1 (some FieldType.boolean) :: TT) (rmL 1) D CL (TY cI cB cZ cJ cN) A [.int x] dom loc val (fun rv d lo va kc ns => (∃ v, rv = some (.int v)) ∧ dom = d ∧ loc = lo ∧ val = va ∧ kc = 0 ∧ ns = 0) := by
  refine kM_of (lv0 := [some (.int x)]) (own := "ProsePages") (by decide) rfl (List.forall_mem_cons.mpr ⟨rfl, fun _ h => nomatch h⟩) (Nat.le_of_ble_eq_true rfl) rfl (Nat.le_of_ble_eq_true rfl) (fun X hl hX hE hin0 => ?_)
  refine v_iload_n hX d_P_isWhite_0 rfl rfl ?_
  refine v_bipush (v := 9) hX d_P_isWhite_1 (by decide) ?_
  refine v_icmp_eq hX d_P_isWhite_3 (tgt := 24) (by decide) (fun c3 => ?_) (fun c3 => ?_)
  · refine v_iconst (v := 1) hX d_P_isWhite_24 (by decide) ?_
    refine v_goto hX d_P_isWhite_25 (tgt := 29) (by decide) ?_
    exact v_zret hX hE (by first | decide | rfl | exact oneOf_nar | exact blk_nar | exact inl_nar | assumption) d_P_isWhite_29 (Nat.le_of_ble_eq_true rfl) (Nat.le_of_ble_eq_true rfl) ⟨⟨_, rfl⟩, rfl, rfl, rfl, rfl, rfl⟩
  · refine v_iload_n hX d_P_isWhite_6 rfl rfl ?_
    refine v_bipush (v := 10) hX d_P_isWhite_7 (by decide) ?_
    refine v_icmp_eq hX d_P_isWhite_9 (tgt := 24) (by decide) (fun c9 => ?_) (fun c9 => ?_)
    · refine v_iconst (v := 1) hX d_P_isWhite_24 (by decide) ?_
      refine v_goto hX d_P_isWhite_25 (tgt := 29) (by decide) ?_
      exact v_zret hX hE (by first | decide | rfl | exact oneOf_nar | exact blk_nar | exact inl_nar | assumption) d_P_isWhite_29 (Nat.le_of_ble_eq_true rfl) (Nat.le_of_ble_eq_true rfl) ⟨⟨_, rfl⟩, rfl, rfl, rfl, rfl, rfl⟩
    · refine v_iload_n hX d_P_isWhite_12 rfl rfl ?_
      refine v_bipush (v := 13) hX d_P_isWhite_13 (by decide) ?_
      refine v_icmp_eq hX d_P_isWhite_15 (tgt := 24) (by decide) (fun c15 => ?_) (fun c15 => ?_)
      · refine v_iconst (v := 1) hX d_P_isWhite_24 (by decide) ?_
        refine v_goto hX d_P_isWhite_25 (tgt := 29) (by decide) ?_
        exact v_zret hX hE (by first | decide | rfl | exact oneOf_nar | exact blk_nar | exact inl_nar | assumption) d_P_isWhite_29 (Nat.le_of_ble_eq_true rfl) (Nat.le_of_ble_eq_true rfl) ⟨⟨_, rfl⟩, rfl, rfl, rfl, rfl, rfl⟩
      · refine v_iload_n hX d_P_isWhite_18 rfl rfl ?_
        refine v_bipush (v := 32) hX d_P_isWhite_19 (by decide) ?_
        refine v_icmp_ne hX d_P_isWhite_21 (tgt := 28) (by decide) (fun c21 => ?_) (fun c21 => ?_)
        · refine v_iconst (v := 0) hX d_P_isWhite_28 (by decide) ?_
          exact v_zret hX hE (by first | decide | rfl | exact oneOf_nar | exact blk_nar | exact inl_nar | assumption) d_P_isWhite_29 (Nat.le_of_ble_eq_true rfl) (Nat.le_of_ble_eq_true rfl) ⟨⟨_, rfl⟩, rfl, rfl, rfl, rfl, rfl⟩
        · refine v_iconst (v := 1) hX d_P_isWhite_24 (by decide) ?_
          refine v_goto hX d_P_isWhite_25 (tgt := 29) (by decide) ?_
          exact v_zret hX hE (by first | decide | rfl | exact oneOf_nar | exact blk_nar | exact inl_nar | assumption) d_P_isWhite_29 (Nat.le_of_ble_eq_true rfl) (Nat.le_of_ble_eq_true rfl) ⟨⟨_, rfl⟩, rfl, rfl, rfl, rfl, rfl⟩
set_option maxHeartbeats 4000000 in
set_option maxRecDepth 100000 in
theorem c_S_layWords {l : Launch} {D : va_G} {A : Nat → Prop} {cI cB cZ cJ cN : ClassId} {ob : Nat → Nat} {td w c a al nl pf tl ph : Nat} {dom : Nat → Prop} {loc : Nat → Nat} {val : Nat → va_E} (hS : LayS cI ob td w c a al nl pf tl ph dom loc val) (x y : Int32) {wd : Nat} (hwd : 4 ≤ wd ∧ wd ≤ 60) (ha : a ≤ 144) (hw : w ≤ wd) (hc : c ≤ wd) : kM l y_S_layWords (Cond.code y_S_layWords b_S_layWords 6 none :: TT) (rmP 5 ph) D CL (TY cI cB cZ cJ cN) A [.ref (ob 2), .int x, .int y, .int (nI wd)] dom loc val (PSt cI ob td 0 0 a al nl pf tl ph dom loc val) := by
  refine kM_of (lv0 := [some (.ref (ob 2)), some (.int x), some (.int y), some (.int (nI wd)), none, none]) (own := "ProsePages$Setter") (by decide) rfl (List.forall_mem_cons.mpr ⟨rfl, List.forall_mem_cons.mpr ⟨rfl, List.forall_mem_cons.mpr ⟨rfl, List.forall_mem_cons.mpr ⟨rfl, fun _ h => nomatch h⟩⟩⟩⟩) (Nat.le_of_ble_eq_true rfl) rfl (Nat.le_of_ble_eq_true rfl) (fun X hl hX hE hin0 => ?_)
  have hP : 0 + ph ≤ ph ∧ 16 * 0 + ph ≤ ph := ⟨by omega, by omega⟩
  have hx : ph ≤ 2663816 := hS.phi
  refine v_iload_n hX d_S_layWords_0 rfl rfl ?_
  refine v_istore (lv' := [some (.ref (ob 2)), some (.int x), some (.int y), some (.int (nI wd)), some (.int x), none]) hX d_S_layWords_1 (Nat.le_of_ble_eq_true rfl) rfl ?_
  have loop : ∀ (m9 : Nat) (k : Int32) (o5 : Option Value) (loL : Nat → Nat) (vaL : Nat → va_E) (csL ssL wL cL nlL phL : Nat), (y.toInt - k.toInt).toNat < m9 → LayS cI ob td wL cL a al nlL pf tl phL dom loL vaL → (wL ≤ wd ∧ cL ≤ wd) → nl ≤ nlL → (ssL + ph ≤ phL ∧ 16 * csL + ph ≤ phL) → frL loc val loL vaL → V X D CL A dom loL vaL csL ssL 3 [some (.ref (ob 2)), some (.int x), some (.int y), some (.int (nI wd)), some (.int k), o5] [] := by
    intro m9
    induction m9 with
    | zero => intro k o5 loL vaL csL ssL wL cL nlL phL hk hSL hcL hnL hPL hfL; exact absurd hk (Nat.not_lt_zero _)
    | succ m9 ih =>
      intro k o5 loL vaL csL ssL wL cL nlL phL hk hSL hcL hnL hPL hfL
      have hxL : phL ≤ 2663816 := hSL.phi
      have hcL2 := hcL
      refine v_iload hX d_S_layWords_3 rfl ?_
      refine v_iload_n hX d_S_layWords_5 rfl rfl ?_
      refine v_icmp_ge hX d_S_layWords_6 (tgt := 69) (by decide) (fun c6 => ?_) (fun c6 => ?_)
      · refine v_aload_n hX d_S_layWords_69 rfl rfl ?_
        refine v_iload_n hX d_S_layWords_70 rfl rfl ?_
        refine c_V hX 2 (rest := []) hl (c_S_endWord hSL hwd (by omega) (by omega) (by omega)) ml_S_116 im_S_endWord se_S_endWord in_S cd_S_endWord rfl q_S_endWord ⟨(Nat.le_of_ble_eq_true rfl), (Nat.le_of_ble_eq_true rfl)⟩ hSL.set.1 hSL.set.2.1 hSL.set.2.2 rfl rfl rfl rfl (Nat.le_of_ble_eq_true rfl) d_S_layWords_71 ⟨by have a := hPL.2; have b := hxL; show _ + (120 + (2663816 - phL) / 16) ≤ 120 + (2663816 - ph) / 16; omega, by have a := hPL.1; have b := hxL; show _ + (700000 + (2663816 - phL)) ≤ 700000 + (2663816 - ph); omega⟩ (fun rv d2 lo1 va1 kc1 ns1 hp => ?_)
        obtain ⟨rfl, rfl, ⟨cc1, nl1, ph1, hc1, hS1, hm1, hp1⟩, hf1⟩ := hp
        show V X D CL A _ _ _ _ _ _ _ []
        have hP1 : (ssL + ns1) + ph ≤ ph1 ∧ 16 * (csL + kc1) + ph ≤ ph1 := ⟨by have a := hPL.1; have b := hp1.1; omega, by have a := hPL.2; have b := hp1.2; omega⟩
        have hx1 : ph1 ≤ 2663816 := hS1.phi
        have hn1 : nl ≤ nl1 := Nat.le_trans hnL hm1
        refine v_aload_n hX d_S_layWords_74 rfl rfl ?_
        refine v_get hX 2 (v := .ref (ob 28)) inT2 hS1.set.1 hS1.set.2.1 hS1.set.2.2 rfl 5 (by decide) fl_S_34 rfl rfl d_S_layWords_75 ?_
        refine c_V hX 28 (rest := []) hl (S_size28 hS1) ml_S_129 im_R_size se_R_size in_R cd_R_size rfl q_R_size ⟨(Nat.le_of_ble_eq_true rfl), (Nat.le_of_ble_eq_true rfl)⟩ (hS1.row 28 (by decide)).1 (hS1.row 28 (by decide)).2.1 (hS1.row 28 (by decide)).2.2.choose_spec rfl rfl rfl rfl (Nat.le_of_ble_eq_true rfl) d_S_layWords_78 ⟨by have a := hP1.2; have b := hx1; show _ + 100 ≤ 120 + (2663816 - ph) / 16; omega, by have a := hP1.1; have b := hx1; show _ + 200000 ≤ 700000 + (2663816 - ph); omega⟩ (fun rv d2 lo2 va2 kc ns hp => ?_)
        obtain ⟨rfl, rfl, rfl, rfl, rfl, rfl⟩ := hp
        show V X D CL A _ _ _ _ _ _ _ (.int (nI cc1) :: [])
        refine v_if_le hX d_S_layWords_81 (tgt := 88) (by decide) (fun c81 => ?_) (fun c81 => ?_)
        · have f81 : cc1 ≤ 0 := (nI_leI (a := cc1) (b := 0) (by omega) (by omega)).mp c81
          exact v_vret hX hE d_S_layWords_88 (by have a := hP1.2; have b := hx1; show _ ≤ 120 + (2663816 - ph) / 16; omega) (by have a := hP1.1; have b := hx1; show _ ≤ 700000 + (2663816 - ph); omega) ⟨rfl, rfl, ⟨nl1, ph1, (by have e9 : cc1 = 0 := (by omega); rw [e9] at hS1; exact hS1), hn1, by have a := hP1.1; have b := hP1.2; exact ⟨by omega, by omega⟩⟩, (hfL.trans hf1)⟩
        · have f81 : ¬ cc1 ≤ 0 := fun z => c81 ((nI_leI (a := cc1) (b := 0) (by omega) (by omega)).mpr z)
          refine v_aload_n hX d_S_layWords_84 rfl rfl ?_
          refine c_V hX 2 (rest := []) hl (c_S_putLine hS1 (by omega) (by omega)) ml_S_122 im_S_putLine se_S_putLine in_S cd_S_putLine rfl q_S_putLine ⟨(Nat.le_of_ble_eq_true rfl), (Nat.le_of_ble_eq_true rfl)⟩ hS1.set.1 hS1.set.2.1 hS1.set.2.2 rfl rfl rfl rfl (Nat.le_of_ble_eq_true rfl) d_S_layWords_85 ⟨by have a := hP1.2; have b := hx1; show _ + (120 + (2663816 - ph1) / 16) ≤ 120 + (2663816 - ph) / 16; omega, by have a := hP1.1; have b := hx1; show _ + (700000 + (2663816 - ph1)) ≤ 700000 + (2663816 - ph); omega⟩ (fun rv d2 lo2 va2 kc2 ns2 hp => ?_)
          obtain ⟨rfl, rfl, ⟨nl2, ph2, hS2, hm2, hp2⟩, hf2⟩ := hp
          show V X D CL A _ _ _ _ _ _ _ []
          have hP2 : (ssL + ns1 + ns2) + ph ≤ ph2 ∧ 16 * (csL + kc1 + kc2) + ph ≤ ph2 := ⟨by have a := hP1.1; have b := hp2.1; omega, by have a := hP1.2; have b := hp2.2; omega⟩
          have hx2 : ph2 ≤ 2663816 := hS2.phi
          have hn2 : nl ≤ nl2 := Nat.le_trans hn1 hm2
          exact v_vret hX hE d_S_layWords_88 (by have a := hP2.2; have b := hx2; show _ ≤ 120 + (2663816 - ph) / 16; omega) (by have a := hP2.1; have b := hx2; show _ ≤ 700000 + (2663816 - ph); omega) ⟨rfl, rfl, ⟨nl2, ph2, hS2, hn2, by have a := hP2.1; have b := hP2.2; exact ⟨by omega, by omega⟩⟩, ((hfL.trans hf1).trans hf2)⟩
      · refine v_aload_n hX d_S_layWords_9 rfl rfl ?_
        refine v_get hX 2 (v := .ref (ob 3)) inT2 hSL.set.1 hSL.set.2.1 hSL.set.2.2 rfl 0 (by decide) fl_S_12 rfl rfl d_S_layWords_10 ?_
        refine v_iload hX d_S_layWords_13 rfl ?_
        refine c_V hX 3 (rest := []) hl (S_get hSL 3 (by decide) k) ml_S_125 im_R_get se_R_get in_R cd_R_get rfl q_R_get ⟨(Nat.le_of_ble_eq_true rfl), (Nat.le_of_ble_eq_true rfl)⟩ (hSL.row 3 (by decide)).1 (hSL.row 3 (by decide)).2.1 (hSL.row 3 (by decide)).2.2.choose_spec rfl rfl rfl rfl (Nat.le_of_ble_eq_true rfl) d_S_layWords_15 ⟨by have a := hPL.2; have b := hxL; show _ + 100 ≤ 120 + (2663816 - ph) / 16; omega, by have a := hPL.1; have b := hxL; show _ + 200000 ≤ 700000 + (2663816 - ph); omega⟩ (fun rv d2 lo2 va2 kc ns hp => ?_)
        obtain ⟨⟨v3, rfl⟩, rfl, rfl, rfl, rfl, rfl⟩ := hp
        show V X D CL A _ _ _ _ _ _ _ (.int v3 :: [])
        refine v_istore (lv' := [some (.ref (ob 2)), some (.int x), some (.int y), some (.int (nI wd)), some (.int k), some (.int v3)]) hX d_S_layWords_18 (Nat.le_of_ble_eq_true rfl) rfl ?_
        refine v_iload hX d_S_layWords_20 rfl ?_
        refine v_sipush (v := 256) hX d_S_layWords_22 (by decide) ?_
        refine v_icmp_ne hX d_S_layWords_25 (tgt := 40) (by decide) (fun c25 => ?_) (fun c25 => ?_)
        · refine v_iload hX d_S_layWords_40 rfl ?_
          refine c_SN hX (rest := []) hl (c_P_isWhite v3) (host := "ProsePages") (by decide) sm_P_isWhite in_P cd_P_isWhite q_P_isWhite ⟨(Nat.le_of_ble_eq_true rfl), (Nat.le_of_ble_eq_true rfl)⟩ rfl rfl rfl (Nat.le_of_ble_eq_true rfl) d_S_layWords_42 ⟨by have a := hPL.2; have b := hxL; show _ + 100 ≤ 120 + (2663816 - ph) / 16; omega, by have a := hPL.1; have b := hxL; show _ + 200000 ≤ 700000 + (2663816 - ph); omega⟩ (fun rv d2 lo2 va2 kc ns hp => ?_)
          obtain ⟨⟨v4, rfl⟩, rfl, rfl, rfl, rfl, rfl⟩ := hp
          show V X D CL A _ _ _ _ _ _ _ (.int v4 :: [])
          refine v_if_eq hX d_S_layWords_45 (tgt := 56) (by decide) (fun c45 => ?_) (fun c45 => ?_)
          · refine v_aload_n hX d_S_layWords_56 rfl rfl ?_
            refine v_iload hX d_S_layWords_57 rfl ?_
            refine v_iload_n hX d_S_layWords_59 rfl rfl ?_
            refine c_V hX 2 (rest := []) hl (c_S_addLetter hSL v3 hwd (by omega) (by omega) (by omega)) ml_S_113 im_S_addLetter se_S_addLetter in_S cd_S_addLetter rfl q_S_addLetter ⟨(Nat.le_of_ble_eq_true rfl), (Nat.le_of_ble_eq_true rfl)⟩ hSL.set.1 hSL.set.2.1 hSL.set.2.2 rfl rfl rfl rfl (Nat.le_of_ble_eq_true rfl) d_S_layWords_60 ⟨by have a := hPL.2; have b := hxL; show _ + (120 + (2663816 - phL) / 16) ≤ 120 + (2663816 - ph) / 16; omega, by have a := hPL.1; have b := hxL; show _ + (700000 + (2663816 - phL)) ≤ 700000 + (2663816 - ph); omega⟩ (fun rv d2 lo5 va5 kc5 ns5 hp => ?_)
            obtain ⟨rfl, rfl, ⟨ww5, cc5, nl5, ph5, ⟨hw5, hc5⟩, hS5, hm5, hp5⟩, hf5⟩ := hp
            show V X D CL A _ _ _ _ _ _ _ []
            have hP5 : (ssL + ns5) + ph ≤ ph5 ∧ 16 * (csL + kc5) + ph ≤ ph5 := ⟨by have a := hPL.1; have b := hp5.1; omega, by have a := hPL.2; have b := hp5.2; omega⟩
            have hx5 : ph5 ≤ 2663816 := hS5.phi
            have hn5 : nl ≤ nl5 := Nat.le_trans hnL hm5
            refine v_iinc (y := (k + 1)) (lv' := [some (.ref (ob 2)), some (.int x), some (.int y), some (.int (nI wd)), some (.int (k + 1)), some (.int v3)]) hX d_S_layWords_63 rfl (by rfl) rfl ?_
            refine v_goto hX d_S_layWords_66 (tgt := 3) (by decide) ?_
            exact ih (k + 1) _ lo5 va5 (csL + kc5) (ssL + ns5) ww5 cc5 nl5 ph5 (iter_lt (Int32.not_le.mp c6) hk) hS5 (⟨by omega, by omega⟩) hn5 hP5 (hfL.trans hf5)
          · refine v_aload_n hX d_S_layWords_48 rfl rfl ?_
            refine v_iload_n hX d_S_layWords_49 rfl rfl ?_
            refine c_V hX 2 (rest := []) hl (c_S_endWord hSL hwd (by omega) (by omega) (by omega)) ml_S_116 im_S_endWord se_S_endWord in_S cd_S_endWord rfl q_S_endWord ⟨(Nat.le_of_ble_eq_true rfl), (Nat.le_of_ble_eq_true rfl)⟩ hSL.set.1 hSL.set.2.1 hSL.set.2.2 rfl rfl rfl rfl (Nat.le_of_ble_eq_true rfl) d_S_layWords_50 ⟨by have a := hPL.2; have b := hxL; show _ + (120 + (2663816 - phL) / 16) ≤ 120 + (2663816 - ph) / 16; omega, by have a := hPL.1; have b := hxL; show _ + (700000 + (2663816 - phL)) ≤ 700000 + (2663816 - ph); omega⟩ (fun rv d2 lo6 va6 kc6 ns6 hp => ?_)
            obtain ⟨rfl, rfl, ⟨cc6, nl6, ph6, hc6, hS6, hm6, hp6⟩, hf6⟩ := hp
            show V X D CL A _ _ _ _ _ _ _ []
            have hP6 : (ssL + ns6) + ph ≤ ph6 ∧ 16 * (csL + kc6) + ph ≤ ph6 := ⟨by have a := hPL.1; have b := hp6.1; omega, by have a := hPL.2; have b := hp6.2; omega⟩
            have hx6 : ph6 ≤ 2663816 := hS6.phi
            have hn6 : nl ≤ nl6 := Nat.le_trans hnL hm6
            refine v_goto hX d_S_layWords_53 (tgt := 63) (by decide) ?_
            refine v_iinc (y := (k + 1)) (lv' := [some (.ref (ob 2)), some (.int x), some (.int y), some (.int (nI wd)), some (.int (k + 1)), some (.int v3)]) hX d_S_layWords_63 rfl (by rfl) rfl ?_
            refine v_goto hX d_S_layWords_66 (tgt := 3) (by decide) ?_
            exact ih (k + 1) _ lo6 va6 (csL + kc6) (ssL + ns6) 0 cc6 nl6 ph6 (iter_lt (Int32.not_le.mp c6) hk) hS6 (⟨by omega, by omega⟩) hn6 hP6 (hfL.trans hf6)
        · refine v_aload_n hX d_S_layWords_28 rfl rfl ?_
          refine v_iload_n hX d_S_layWords_29 rfl rfl ?_
          refine c_V hX 2 (rest := []) hl (c_S_endWord hSL hwd (by omega) (by omega) (by omega)) ml_S_116 im_S_endWord se_S_endWord in_S cd_S_endWord rfl q_S_endWord ⟨(Nat.le_of_ble_eq_true rfl), (Nat.le_of_ble_eq_true rfl)⟩ hSL.set.1 hSL.set.2.1 hSL.set.2.2 rfl rfl rfl rfl (Nat.le_of_ble_eq_true rfl) d_S_layWords_30 ⟨by have a := hPL.2; have b := hxL; show _ + (120 + (2663816 - phL) / 16) ≤ 120 + (2663816 - ph) / 16; omega, by have a := hPL.1; have b := hxL; show _ + (700000 + (2663816 - phL)) ≤ 700000 + (2663816 - ph); omega⟩ (fun rv d2 lo7 va7 kc7 ns7 hp => ?_)
          obtain ⟨rfl, rfl, ⟨cc7, nl7, ph7, hc7, hS7, hm7, hp7⟩, hf7⟩ := hp
          show V X D CL A _ _ _ _ _ _ _ []
          have hP7 : (ssL + ns7) + ph ≤ ph7 ∧ 16 * (csL + kc7) + ph ≤ ph7 := ⟨by have a := hPL.1; have b := hp7.1; omega, by have a := hPL.2; have b := hp7.2; omega⟩
          have hx7 : ph7 ≤ 2663816 := hS7.phi
          have hn7 : nl ≤ nl7 := Nat.le_trans hnL hm7
          refine v_aload_n hX d_S_layWords_33 rfl rfl ?_
          refine c_V hX 2 (rest := []) hl (c_S_putLine hS7 (by omega) (by omega)) ml_S_122 im_S_putLine se_S_putLine in_S cd_S_putLine rfl q_S_putLine ⟨(Nat.le_of_ble_eq_true rfl), (Nat.le_of_ble_eq_true rfl)⟩ hS7.set.1 hS7.set.2.1 hS7.set.2.2 rfl rfl rfl rfl (Nat.le_of_ble_eq_true rfl) d_S_layWords_34 ⟨by have a := hP7.2; have b := hx7; show _ + (120 + (2663816 - ph7) / 16) ≤ 120 + (2663816 - ph) / 16; omega, by have a := hP7.1; have b := hx7; show _ + (700000 + (2663816 - ph7)) ≤ 700000 + (2663816 - ph); omega⟩ (fun rv d2 lo8 va8 kc8 ns8 hp => ?_)
          obtain ⟨rfl, rfl, ⟨nl8, ph8, hS8, hm8, hp8⟩, hf8⟩ := hp
          show V X D CL A _ _ _ _ _ _ _ []
          have hP8 : (ssL + ns7 + ns8) + ph ≤ ph8 ∧ 16 * (csL + kc7 + kc8) + ph ≤ ph8 := ⟨by have a := hP7.1; have b := hp8.1; omega, by have a := hP7.2; have b := hp8.2; omega⟩
          have hx8 : ph8 ≤ 2663816 := hS8.phi
          have hn8 : nl ≤ nl8 := Nat.le_trans hn7 hm8
          refine v_goto hX d_S_layWords_37 (tgt := 63) (by decide) ?_
          refine v_iinc (y := (k + 1)) (lv' := [some (.ref (ob 2)), some (.int x), some (.int y), some (.int (nI wd)), some (.int (k + 1)), some (.int v3)]) hX d_S_layWords_63 rfl (by rfl) rfl ?_
          refine v_goto hX d_S_layWords_66 (tgt := 3) (by decide) ?_
          exact ih (k + 1) _ lo8 va8 (csL + kc7 + kc8) (ssL + ns7 + ns8) 0 0 nl8 ph8 (iter_lt (Int32.not_le.mp c6) hk) hS8 (⟨by omega, by omega⟩) hn8 hP8 ((hfL.trans hf7).trans hf8)
  exact loop _ _ _ loc val (0) (0) w c nl ph (Nat.lt_succ_self _) hS (⟨by omega, by omega⟩) (Nat.le_refl nl) hP frL.rf
end
section
section KD4
theorem v_idivE {X : KX} {cc : ByteArray} {nL : Nat} {own : String} {R : Room} {D : va_G} {cl : List vw_C} {tys : List (ClassId × FieldType)} {A : Nat → Prop} {dom : Nat → Prop} {loc : Nat → Nat} {val : Nat → va_E} {cells slots pc : Nat} {lv : List (Option Value)} {st : List Value} (hX : OX X cc nL own TT D cl tys A R) {x y v : Int32} (hd : decode cc pc = .ok (.idiv, 1)) (hne : ¬ y = 0) (hv : x / y = v) (k : V X D cl A dom loc val cells slots (pc + 1) lv (.int v :: st)) : V X D cl A dom loc val cells slots pc lv (.int y :: .int x :: st) := v_idiv hX hd hne (hv ▸ k)
theorem nI_sub {a b : Nat} (h : b ≤ a) : nI a - nI b = nI (a - b) := by
  have e : nI a = nI (a - b) + nI b := by rw [nI_add]; congr 1; omega
  rw [e, Int32.add_sub_cancel]
theorem nI_subI {a b : Nat} (ha : a ≤ 1000) (hb : b ≤ 1000) : (nI a - nI b).toInt = (a : Int) - b := by
  rw [Int32.toInt_sub, nI_toInt (by omega), nI_toInt (by omega)]
  exact Int.bmod_eq_of_le (by omega) (by omega)
theorem narrow_ok {wd b : Nat} (h : 4 ≤ wd ∧ wd ≤ 60) (hb : b ≤ 200) : ∃ wd2, (if (4 : Int32) < nI wd - nI b then nI wd - nI b else 4) = nI wd2 ∧ 4 ≤ wd2 ∧ wd2 ≤ wd := by
  by_cases c : (4 : Int32) < nI wd - nI b
  · rw [if_pos c]
    have h1 := Int32.lt_iff_toInt_lt.mp c
    rw [nI_subI (by omega) (by omega), show (4 : Int32).toInt = 4 by decide] at h1
    exact ⟨wd - b, nI_sub (by omega), by omega, by omega⟩
  · rw [if_neg c]
    exact ⟨4, rfl, by omega, by omega⟩
/-- ahead and aheadLater grow alike, by no more than k -/
abbrev PSa (cI : ClassId) (ob : Nat → Nat) (td w c a k nl pf tl ph : Nat) (dom : Nat → Prop) (loc : Nat → Nat) (val : Nat → va_E) : kT := fun rv d lo va kc ns => rv = none ∧ dom = d ∧ (∃ a2 nl2 ph2, (a ≤ a2 ∧ a2 ≤ a + k) ∧ LayS cI ob td w c a2 a2 nl2 pf tl ph2 dom lo va ∧ nl ≤ nl2 ∧ (ns + ph ≤ ph2 ∧ 16 * kc + ph ≤ ph2)) ∧ frL loc val lo va
end KD4
set_option maxHeartbeats 4000000 in
set_option maxRecDepth 100000 in
theorem c_S_addAhead {l : Launch} {D : va_G} {A : Nat → Prop} {cI cB cZ cJ cN : ClassId} {ob : Nat → Nat} {td w c a al nl pf tl ph : Nat} {dom : Nat → Prop} {loc : Nat → Nat} {val : Nat → va_E} (hS : LayS cI ob td w c a al nl pf tl ph dom loc val) (x y : Int32) (ha : a + 1 ≤ 200) (hb : al + 1 ≤ 200) : kM l y_S_addAhead (Cond.code y_S_addAhead b_S_addAhead 3 none :: TT) (rmP 3 ph) D CL (TY cI cB cZ cJ cN) A [.ref (ob 2), .int x, .int y] dom loc val (PSt cI ob td w c (a + 1) (al + 1) nl pf tl ph dom loc val) := by
  refine kM_of (lv0 := [some (.ref (ob 2)), some (.int x), some (.int y)]) (own := "ProsePages$Setter") (by decide) rfl (List.forall_mem_cons.mpr ⟨rfl, List.forall_mem_cons.mpr ⟨rfl, List.forall_mem_cons.mpr ⟨rfl, fun _ h => nomatch h⟩⟩⟩) (Nat.le_of_ble_eq_true rfl) rfl (Nat.le_of_ble_eq_true rfl) (fun X hl hX hE hin0 => ?_)
  have hP : 0 + ph ≤ ph ∧ 16 * 0 + ph ≤ ph := ⟨by omega, by omega⟩
  have hx : ph ≤ 2663816 := hS.phi
  refine v_aload_n hX d_S_addAhead_0 rfl rfl ?_
  refine v_get hX 2 (v := .ref (ob 22)) inT2 hS.set.1 hS.set.2.1 hS.set.2.2 rfl 2 (by decide) fl_S_25 rfl rfl d_S_addAhead_1 ?_
  refine v_iload_n hX d_S_addAhead_4 rfl rfl ?_
  refine c_V hX 22 (rest := []) hl (S_add22 hS x (by omega)) ml_S_119 im_R_add se_R_add in_R cd_R_add rfl q_R_add ⟨(Nat.le_of_ble_eq_true rfl), (Nat.le_of_ble_eq_true rfl)⟩ (hS.row 22 (by decide)).1 (hS.row 22 (by decide)).2.1 (hS.row 22 (by decide)).2.2.choose_spec rfl rfl rfl rfl (Nat.le_of_ble_eq_true rfl) d_S_addAhead_5 ⟨by have a := hP.2; have b := hx; show _ + 20 ≤ 120 + (2663816 - ph) / 16; omega, by have a := hP.1; have b := hx; show _ + 700000 ≤ 700000 + (2663816 - ph); omega⟩ (fun rv d2 lo1 va1 kc1 ns1 hp => ?_)
  obtain ⟨rfl, rfl, ⟨nl1, ph1, hS1, hm1, hp1⟩, hf1⟩ := hp
  show V X D CL A _ _ _ _ _ _ _ []
  have hP1 : (0 + ns1) + ph ≤ ph1 ∧ 16 * (0 + kc1) + ph ≤ ph1 := ⟨by have a := hP.1; have b := hp1.1; omega, by have a := hP.2; have b := hp1.2; omega⟩
  have hx1 : ph1 ≤ 2663816 := hS1.phi
  have hn1 : nl ≤ nl1 := Nat.le_trans (Nat.le_refl nl) hm1
  refine v_aload_n hX d_S_addAhead_8 rfl rfl ?_
  refine v_get hX 2 (v := .ref (ob 24)) inT2 hS1.set.1 hS1.set.2.1 hS1.set.2.2 rfl 3 (by decide) fl_S_28 rfl rfl d_S_addAhead_9 ?_
  refine v_iload_n hX d_S_addAhead_12 rfl rfl ?_
  refine c_V hX 24 (rest := []) hl (S_add24 hS1 y (by omega)) ml_S_119 im_R_add se_R_add in_R cd_R_add rfl q_R_add ⟨(Nat.le_of_ble_eq_true rfl), (Nat.le_of_ble_eq_true rfl)⟩ (hS1.row 24 (by decide)).1 (hS1.row 24 (by decide)).2.1 (hS1.row 24 (by decide)).2.2.choose_spec rfl rfl rfl rfl (Nat.le_of_ble_eq_true rfl) d_S_addAhead_13 ⟨by have a := hP1.2; have b := hx1; show _ + 20 ≤ 120 + (2663816 - ph) / 16; omega, by have a := hP1.1; have b := hx1; show _ + 700000 ≤ 700000 + (2663816 - ph); omega⟩ (fun rv d2 lo2 va2 kc2 ns2 hp => ?_)
  obtain ⟨rfl, rfl, ⟨nl2, ph2, hS2, hm2, hp2⟩, hf2⟩ := hp
  show V X D CL A _ _ _ _ _ _ _ []
  have hP2 : (0 + ns1 + ns2) + ph ≤ ph2 ∧ 16 * (0 + kc1 + kc2) + ph ≤ ph2 := ⟨by have a := hP1.1; have b := hp2.1; omega, by have a := hP1.2; have b := hp2.2; omega⟩
  have hx2 : ph2 ≤ 2663816 := hS2.phi
  have hn2 : nl ≤ nl2 := Nat.le_trans hn1 hm2
  exact v_vret hX hE d_S_addAhead_16 (by have a := hP2.2; have b := hx2; show _ ≤ 120 + (2663816 - ph) / 16; omega) (by have a := hP2.1; have b := hx2; show _ ≤ 700000 + (2663816 - ph); omega) ⟨rfl, rfl, ⟨nl2, ph2, hS2, hn2, by have a := hP2.1; have b := hP2.2; exact ⟨by omega, by omega⟩⟩, ((frL.rf.trans hf1).trans hf2)⟩
set_option maxHeartbeats 4000000 in
set_option maxRecDepth 100000 in
theorem c_S_cutAhead {l : Launch} {D : va_G} {A : Nat → Prop} {cI cB cZ cJ cN : ClassId} {ob : Nat → Nat} {td w c a al nl pf tl ph : Nat} {dom : Nat → Prop} {loc : Nat → Nat} {val : Nat → va_E} (hS : LayS cI ob td w c a al nl pf tl ph dom loc val) {m : Nat} (hm : m < 2 ^ 31) : kM l y_S_cutAhead (Cond.code y_S_cutAhead b_S_cutAhead 2 none :: TT) (rmP 3 ph) D CL (TY cI cB cZ cJ cN) A [.ref (ob 2), .int (nI m)] dom loc val (PSt cI ob td w c (min m a) (min m al) nl pf tl ph dom loc val) := by
  refine kM_of (lv0 := [some (.ref (ob 2)), some (.int (nI m))]) (own := "ProsePages$Setter") (by decide) rfl (List.forall_mem_cons.mpr ⟨rfl, List.forall_mem_cons.mpr ⟨rfl, fun _ h => nomatch h⟩⟩) (Nat.le_of_ble_eq_true rfl) rfl (Nat.le_of_ble_eq_true rfl) (fun X hl hX hE hin0 => ?_)
  have hP : 0 + ph ≤ ph ∧ 16 * 0 + ph ≤ ph := ⟨by omega, by omega⟩
  have hx : ph ≤ 2663816 := hS.phi
  refine v_aload_n hX d_S_cutAhead_0 rfl rfl ?_
  refine v_get hX 2 (v := .ref (ob 22)) inT2 hS.set.1 hS.set.2.1 hS.set.2.2 rfl 2 (by decide) fl_S_25 rfl rfl d_S_cutAhead_1 ?_
  refine v_iload_n hX d_S_cutAhead_4 rfl rfl ?_
  refine c_V hX 22 (rest := []) hl (S_cut22 hS m (by omega)) ml_S_156 im_R_cut se_R_cut in_R cd_R_cut rfl q_R_cut ⟨(Nat.le_of_ble_eq_true rfl), (Nat.le_of_ble_eq_true rfl)⟩ (hS.row 22 (by decide)).1 (hS.row 22 (by decide)).2.1 (hS.row 22 (by decide)).2.2.choose_spec rfl rfl rfl rfl (Nat.le_of_ble_eq_true rfl) d_S_cutAhead_5 ⟨by have a := hP.2; have b := hx; show _ + 100 ≤ 120 + (2663816 - ph) / 16; omega, by have a := hP.1; have b := hx; show _ + 200000 ≤ 700000 + (2663816 - ph); omega⟩ (fun rv d2 lo1 va1 kc1 ns1 hp => ?_)
  obtain ⟨rfl, rfl, ⟨nl1, ph1, hS1, hm1, hp1⟩, hf1⟩ := hp
  show V X D CL A _ _ _ _ _ _ _ []
  have hP1 : (0 + ns1) + ph ≤ ph1 ∧ 16 * (0 + kc1) + ph ≤ ph1 := ⟨by have a := hP.1; have b := hp1.1; omega, by have a := hP.2; have b := hp1.2; omega⟩
  have hx1 : ph1 ≤ 2663816 := hS1.phi
  have hn1 : nl ≤ nl1 := Nat.le_trans (Nat.le_refl nl) hm1
  refine v_aload_n hX d_S_cutAhead_8 rfl rfl ?_
  refine v_get hX 2 (v := .ref (ob 24)) inT2 hS1.set.1 hS1.set.2.1 hS1.set.2.2 rfl 3 (by decide) fl_S_28 rfl rfl d_S_cutAhead_9 ?_
  refine v_iload_n hX d_S_cutAhead_12 rfl rfl ?_
  refine c_V hX 24 (rest := []) hl (S_cut24 hS1 m (by omega)) ml_S_156 im_R_cut se_R_cut in_R cd_R_cut rfl q_R_cut ⟨(Nat.le_of_ble_eq_true rfl), (Nat.le_of_ble_eq_true rfl)⟩ (hS1.row 24 (by decide)).1 (hS1.row 24 (by decide)).2.1 (hS1.row 24 (by decide)).2.2.choose_spec rfl rfl rfl rfl (Nat.le_of_ble_eq_true rfl) d_S_cutAhead_13 ⟨by have a := hP1.2; have b := hx1; show _ + 100 ≤ 120 + (2663816 - ph) / 16; omega, by have a := hP1.1; have b := hx1; show _ + 200000 ≤ 700000 + (2663816 - ph); omega⟩ (fun rv d2 lo2 va2 kc2 ns2 hp => ?_)
  obtain ⟨rfl, rfl, ⟨nl2, ph2, hS2, hm2, hp2⟩, hf2⟩ := hp
  show V X D CL A _ _ _ _ _ _ _ []
  have hP2 : (0 + ns1 + ns2) + ph ≤ ph2 ∧ 16 * (0 + kc1 + kc2) + ph ≤ ph2 := ⟨by have a := hP1.1; have b := hp2.1; omega, by have a := hP1.2; have b := hp2.2; omega⟩
  have hx2 : ph2 ≤ 2663816 := hS2.phi
  have hn2 : nl ≤ nl2 := Nat.le_trans hn1 hm2
  exact v_vret hX hE d_S_cutAhead_16 (by have a := hP2.2; have b := hx2; show _ ≤ 120 + (2663816 - ph) / 16; omega) (by have a := hP2.1; have b := hx2; show _ ≤ 700000 + (2663816 - ph); omega) ⟨rfl, rfl, ⟨nl2, ph2, hS2, hn2, by have a := hP2.1; have b := hP2.2; exact ⟨by omega, by omega⟩⟩, ((frL.rf.trans hf1).trans hf2)⟩
set_option maxHeartbeats 4000000 in
set_option maxRecDepth 100000 in
theorem c_S_addDigits {l : Launch} {D : va_G} {A : Nat → Prop} {cI cB cZ cJ cN : ClassId} {ob : Nat → Nat} {td w c a nl pf tl ph : Nat} {dom : Nat → Prop} {loc : Nat → Nat} {val : Nat → va_E} (hS : LayS cI ob td w c a a nl pf tl ph dom loc val) (x : Int32) (ha : a + 12 ≤ 200) : kM l y_S_addDigits (Cond.code y_S_addDigits b_S_addDigits 3 none :: TT) (rmP 4 ph) D CL (TY cI cB cZ cJ cN) A [.ref (ob 2), .int x] dom loc val (PSa cI ob td w c a 10 nl pf tl ph dom loc val) := by
  refine kM_of (lv0 := [some (.ref (ob 2)), some (.int x), none]) (own := "ProsePages$Setter") (by decide) rfl (List.forall_mem_cons.mpr ⟨rfl, List.forall_mem_cons.mpr ⟨rfl, fun _ h => nomatch h⟩⟩) (Nat.le_of_ble_eq_true rfl) rfl (Nat.le_of_ble_eq_true rfl) (fun X hl hX hE hin0 => ?_)
  have hP : 0 + ph ≤ ph ∧ 16 * 0 + ph ≤ ph := ⟨by omega, by omega⟩
  have hx : ph ≤ 2663816 := hS.phi
  have digz : ∀ (loL : Nat → Nat) (vaL : Nat → va_E) (csL ssL aL nlL phL : Nat), LayS cI ob td w c aL aL nlL pf tl phL dom loL vaL → (a ≤ aL ∧ aL + 0 ≤ a + 10) → nl ≤ nlL → (ssL + ph ≤ phL ∧ 16 * csL + ph ≤ phL) → frL loc val loL vaL → V X D CL A dom loL vaL csL ssL 21 [some (.ref (ob 2)), some (.int x), some (.int 0)] [] := by
    intro loL vaL csL ssL aL nlL phL hSL hcL hnL hPL hfL
    have hxL : phL ≤ 2663816 := hSL.phi
    refine v_iload_n hX d_S_addDigits_21 rfl rfl ?_
    refine v_if_le hX d_S_addDigits_22 (tgt := 48) (by decide) (fun _ => ?_) (fun c => absurd (by decide) c)
    exact v_vret hX hE d_S_addDigits_48 (by have a := hPL.2; have b := hxL; show _ ≤ 120 + (2663816 - ph) / 16; omega) (by have a := hPL.1; have b := hxL; show _ ≤ 700000 + (2663816 - ph); omega) ⟨rfl, rfl, ⟨aL, nlL, phL, ⟨by omega, by omega⟩, hSL, hnL, by have a := hPL.1; have b := hPL.2; exact ⟨by omega, by omega⟩⟩, hfL⟩
  have dig0 : ∀ (loL : Nat → Nat) (vaL : Nat → va_E) (csL ssL aL nlL phL : Nat), LayS cI ob td w c aL aL nlL pf tl phL dom loL vaL → (a ≤ aL ∧ aL + 1 ≤ a + 10) → nl ≤ nlL → (ssL + ph ≤ phL ∧ 16 * csL + ph ≤ phL) → frL loc val loL vaL → V X D CL A dom loL vaL csL ssL 21 [some (.ref (ob 2)), some (.int x), some (.int 1)] [] := by
    intro loL vaL csL ssL aL nlL phL hSL hcL hnL hPL hfL
    have hxL : phL ≤ 2663816 := hSL.phi
    refine v_iload_n hX d_S_addDigits_21 rfl rfl ?_
    refine v_if_le hX d_S_addDigits_22 (tgt := 48) (by decide) (fun c => absurd c (by decide)) (fun _ => ?_)
    refine v_aload_n hX d_S_addDigits_25 rfl rfl ?_
    refine v_bipush (v := 48) hX d_S_addDigits_26 (by decide) ?_
    refine v_iload_n hX d_S_addDigits_28 rfl rfl ?_
    refine v_iload_n hX d_S_addDigits_29 rfl rfl ?_
    refine v_idiv hX d_S_addDigits_30 (by decide) ?_
    refine v_bipush (v := 10) hX d_S_addDigits_31 (by decide) ?_
    refine v_irem hX d_S_addDigits_33 (by decide) ?_
    refine v_iadd hX d_S_addDigits_34 ?_
    refine v_bipush (v := 32) hX d_S_addDigits_35 (by decide) ?_
    refine c_V hX 2 (rest := []) hl (c_S_addAhead hSL (48 + ((x / 1) - (x / 1) / 10 * 10)) 32 (by omega) (by omega)) ml_S_132 im_S_addAhead se_S_addAhead in_S cd_S_addAhead rfl q_S_addAhead ⟨(Nat.le_of_ble_eq_true rfl), (Nat.le_of_ble_eq_true rfl)⟩ hSL.set.1 hSL.set.2.1 hSL.set.2.2 rfl rfl rfl rfl (Nat.le_of_ble_eq_true rfl) d_S_addDigits_37 ⟨by have a := hPL.2; have b := hxL; show _ + (120 + (2663816 - phL) / 16) ≤ 120 + (2663816 - ph) / 16; omega, by have a := hPL.1; have b := hxL; show _ + (700000 + (2663816 - phL)) ≤ 700000 + (2663816 - ph); omega⟩ (fun rv d2 lo1 va1 kc1 ns1 hp => ?_)
    obtain ⟨rfl, rfl, ⟨nl1, ph1, hS1, hm1, hp1⟩, hf1⟩ := hp
    show V X D CL A _ _ _ _ _ _ _ []
    have hP1 : (ssL + ns1) + ph ≤ ph1 ∧ 16 * (csL + kc1) + ph ≤ ph1 := ⟨by have a := hPL.1; have b := hp1.1; omega, by have a := hPL.2; have b := hp1.2; omega⟩
    have hx1 : ph1 ≤ 2663816 := hS1.phi
    have hn1 : nl ≤ nl1 := Nat.le_trans hnL hm1
    refine v_iload_n hX d_S_addDigits_40 rfl rfl ?_
    refine v_bipush (v := 10) hX d_S_addDigits_41 (by decide) ?_
    refine v_idivE (v := 0) hX d_S_addDigits_43 (by decide) (by decide) ?_
    refine v_istore_n (lv' := [some (.ref (ob 2)), some (.int x), some (.int 0)]) hX d_S_addDigits_44 rfl (Nat.le_of_ble_eq_true rfl) rfl ?_
    refine v_goto hX d_S_addDigits_45 (tgt := 21) (by decide) ?_
    exact digz lo1 va1 (csL + kc1) (ssL + ns1) (aL + 1) nl1 ph1 hS1 ⟨by omega, by omega⟩ hn1 hP1 (hfL.trans hf1)
  have dig1 : ∀ (loL : Nat → Nat) (vaL : Nat → va_E) (csL ssL aL nlL phL : Nat), LayS cI ob td w c aL aL nlL pf tl phL dom loL vaL → (a ≤ aL ∧ aL + 2 ≤ a + 10) → nl ≤ nlL → (ssL + ph ≤ phL ∧ 16 * csL + ph ≤ phL) → frL loc val loL vaL → V X D CL A dom loL vaL csL ssL 21 [some (.ref (ob 2)), some (.int x), some (.int 10)] [] := by
    intro loL vaL csL ssL aL nlL phL hSL hcL hnL hPL hfL
    have hxL : phL ≤ 2663816 := hSL.phi
    refine v_iload_n hX d_S_addDigits_21 rfl rfl ?_
    refine v_if_le hX d_S_addDigits_22 (tgt := 48) (by decide) (fun c => absurd c (by decide)) (fun _ => ?_)
    refine v_aload_n hX d_S_addDigits_25 rfl rfl ?_
    refine v_bipush (v := 48) hX d_S_addDigits_26 (by decide) ?_
    refine v_iload_n hX d_S_addDigits_28 rfl rfl ?_
    refine v_iload_n hX d_S_addDigits_29 rfl rfl ?_
    refine v_idiv hX d_S_addDigits_30 (by decide) ?_
    refine v_bipush (v := 10) hX d_S_addDigits_31 (by decide) ?_
    refine v_irem hX d_S_addDigits_33 (by decide) ?_
    refine v_iadd hX d_S_addDigits_34 ?_
    refine v_bipush (v := 32) hX d_S_addDigits_35 (by decide) ?_
    refine c_V hX 2 (rest := []) hl (c_S_addAhead hSL (48 + ((x / 10) - (x / 10) / 10 * 10)) 32 (by omega) (by omega)) ml_S_132 im_S_addAhead se_S_addAhead in_S cd_S_addAhead rfl q_S_addAhead ⟨(Nat.le_of_ble_eq_true rfl), (Nat.le_of_ble_eq_true rfl)⟩ hSL.set.1 hSL.set.2.1 hSL.set.2.2 rfl rfl rfl rfl (Nat.le_of_ble_eq_true rfl) d_S_addDigits_37 ⟨by have a := hPL.2; have b := hxL; show _ + (120 + (2663816 - phL) / 16) ≤ 120 + (2663816 - ph) / 16; omega, by have a := hPL.1; have b := hxL; show _ + (700000 + (2663816 - phL)) ≤ 700000 + (2663816 - ph); omega⟩ (fun rv d2 lo2 va2 kc2 ns2 hp => ?_)
    obtain ⟨rfl, rfl, ⟨nl2, ph2, hS2, hm2, hp2⟩, hf2⟩ := hp
    show V X D CL A _ _ _ _ _ _ _ []
    have hP2 : (ssL + ns2) + ph ≤ ph2 ∧ 16 * (csL + kc2) + ph ≤ ph2 := ⟨by have a := hPL.1; have b := hp2.1; omega, by have a := hPL.2; have b := hp2.2; omega⟩
    have hx2 : ph2 ≤ 2663816 := hS2.phi
    have hn2 : nl ≤ nl2 := Nat.le_trans hnL hm2
    refine v_iload_n hX d_S_addDigits_40 rfl rfl ?_
    refine v_bipush (v := 10) hX d_S_addDigits_41 (by decide) ?_
    refine v_idivE (v := 1) hX d_S_addDigits_43 (by decide) (by decide) ?_
    refine v_istore_n (lv' := [some (.ref (ob 2)), some (.int x), some (.int 1)]) hX d_S_addDigits_44 rfl (Nat.le_of_ble_eq_true rfl) rfl ?_
    refine v_goto hX d_S_addDigits_45 (tgt := 21) (by decide) ?_
    exact dig0 lo2 va2 (csL + kc2) (ssL + ns2) (aL + 1) nl2 ph2 hS2 ⟨by omega, by omega⟩ hn2 hP2 (hfL.trans hf2)
  have dig2 : ∀ (loL : Nat → Nat) (vaL : Nat → va_E) (csL ssL aL nlL phL : Nat), LayS cI ob td w c aL aL nlL pf tl phL dom loL vaL → (a ≤ aL ∧ aL + 3 ≤ a + 10) → nl ≤ nlL → (ssL + ph ≤ phL ∧ 16 * csL + ph ≤ phL) → frL loc val loL vaL → V X D CL A dom loL vaL csL ssL 21 [some (.ref (ob 2)), some (.int x), some (.int 100)] [] := by
    intro loL vaL csL ssL aL nlL phL hSL hcL hnL hPL hfL
    have hxL : phL ≤ 2663816 := hSL.phi
    refine v_iload_n hX d_S_addDigits_21 rfl rfl ?_
    refine v_if_le hX d_S_addDigits_22 (tgt := 48) (by decide) (fun c => absurd c (by decide)) (fun _ => ?_)
    refine v_aload_n hX d_S_addDigits_25 rfl rfl ?_
    refine v_bipush (v := 48) hX d_S_addDigits_26 (by decide) ?_
    refine v_iload_n hX d_S_addDigits_28 rfl rfl ?_
    refine v_iload_n hX d_S_addDigits_29 rfl rfl ?_
    refine v_idiv hX d_S_addDigits_30 (by decide) ?_
    refine v_bipush (v := 10) hX d_S_addDigits_31 (by decide) ?_
    refine v_irem hX d_S_addDigits_33 (by decide) ?_
    refine v_iadd hX d_S_addDigits_34 ?_
    refine v_bipush (v := 32) hX d_S_addDigits_35 (by decide) ?_
    refine c_V hX 2 (rest := []) hl (c_S_addAhead hSL (48 + ((x / 100) - (x / 100) / 10 * 10)) 32 (by omega) (by omega)) ml_S_132 im_S_addAhead se_S_addAhead in_S cd_S_addAhead rfl q_S_addAhead ⟨(Nat.le_of_ble_eq_true rfl), (Nat.le_of_ble_eq_true rfl)⟩ hSL.set.1 hSL.set.2.1 hSL.set.2.2 rfl rfl rfl rfl (Nat.le_of_ble_eq_true rfl) d_S_addDigits_37 ⟨by have a := hPL.2; have b := hxL; show _ + (120 + (2663816 - phL) / 16) ≤ 120 + (2663816 - ph) / 16; omega, by have a := hPL.1; have b := hxL; show _ + (700000 + (2663816 - phL)) ≤ 700000 + (2663816 - ph); omega⟩ (fun rv d2 lo3 va3 kc3 ns3 hp => ?_)
    obtain ⟨rfl, rfl, ⟨nl3, ph3, hS3, hm3, hp3⟩, hf3⟩ := hp
    show V X D CL A _ _ _ _ _ _ _ []
    have hP3 : (ssL + ns3) + ph ≤ ph3 ∧ 16 * (csL + kc3) + ph ≤ ph3 := ⟨by have a := hPL.1; have b := hp3.1; omega, by have a := hPL.2; have b := hp3.2; omega⟩
    have hx3 : ph3 ≤ 2663816 := hS3.phi
    have hn3 : nl ≤ nl3 := Nat.le_trans hnL hm3
    refine v_iload_n hX d_S_addDigits_40 rfl rfl ?_
    refine v_bipush (v := 10) hX d_S_addDigits_41 (by decide) ?_
    refine v_idivE (v := 10) hX d_S_addDigits_43 (by decide) (by decide) ?_
    refine v_istore_n (lv' := [some (.ref (ob 2)), some (.int x), some (.int 10)]) hX d_S_addDigits_44 rfl (Nat.le_of_ble_eq_true rfl) rfl ?_
    refine v_goto hX d_S_addDigits_45 (tgt := 21) (by decide) ?_
    exact dig1 lo3 va3 (csL + kc3) (ssL + ns3) (aL + 1) nl3 ph3 hS3 ⟨by omega, by omega⟩ hn3 hP3 (hfL.trans hf3)
  have dig3 : ∀ (loL : Nat → Nat) (vaL : Nat → va_E) (csL ssL aL nlL phL : Nat), LayS cI ob td w c aL aL nlL pf tl phL dom loL vaL → (a ≤ aL ∧ aL + 4 ≤ a + 10) → nl ≤ nlL → (ssL + ph ≤ phL ∧ 16 * csL + ph ≤ phL) → frL loc val loL vaL → V X D CL A dom loL vaL csL ssL 21 [some (.ref (ob 2)), some (.int x), some (.int 1000)] [] := by
    intro loL vaL csL ssL aL nlL phL hSL hcL hnL hPL hfL
    have hxL : phL ≤ 2663816 := hSL.phi
    refine v_iload_n hX d_S_addDigits_21 rfl rfl ?_
    refine v_if_le hX d_S_addDigits_22 (tgt := 48) (by decide) (fun c => absurd c (by decide)) (fun _ => ?_)
    refine v_aload_n hX d_S_addDigits_25 rfl rfl ?_
    refine v_bipush (v := 48) hX d_S_addDigits_26 (by decide) ?_
    refine v_iload_n hX d_S_addDigits_28 rfl rfl ?_
    refine v_iload_n hX d_S_addDigits_29 rfl rfl ?_
    refine v_idiv hX d_S_addDigits_30 (by decide) ?_
    refine v_bipush (v := 10) hX d_S_addDigits_31 (by decide) ?_
    refine v_irem hX d_S_addDigits_33 (by decide) ?_
    refine v_iadd hX d_S_addDigits_34 ?_
    refine v_bipush (v := 32) hX d_S_addDigits_35 (by decide) ?_
    refine c_V hX 2 (rest := []) hl (c_S_addAhead hSL (48 + ((x / 1000) - (x / 1000) / 10 * 10)) 32 (by omega) (by omega)) ml_S_132 im_S_addAhead se_S_addAhead in_S cd_S_addAhead rfl q_S_addAhead ⟨(Nat.le_of_ble_eq_true rfl), (Nat.le_of_ble_eq_true rfl)⟩ hSL.set.1 hSL.set.2.1 hSL.set.2.2 rfl rfl rfl rfl (Nat.le_of_ble_eq_true rfl) d_S_addDigits_37 ⟨by have a := hPL.2; have b := hxL; show _ + (120 + (2663816 - phL) / 16) ≤ 120 + (2663816 - ph) / 16; omega, by have a := hPL.1; have b := hxL; show _ + (700000 + (2663816 - phL)) ≤ 700000 + (2663816 - ph); omega⟩ (fun rv d2 lo4 va4 kc4 ns4 hp => ?_)
    obtain ⟨rfl, rfl, ⟨nl4, ph4, hS4, hm4, hp4⟩, hf4⟩ := hp
    show V X D CL A _ _ _ _ _ _ _ []
    have hP4 : (ssL + ns4) + ph ≤ ph4 ∧ 16 * (csL + kc4) + ph ≤ ph4 := ⟨by have a := hPL.1; have b := hp4.1; omega, by have a := hPL.2; have b := hp4.2; omega⟩
    have hx4 : ph4 ≤ 2663816 := hS4.phi
    have hn4 : nl ≤ nl4 := Nat.le_trans hnL hm4
    refine v_iload_n hX d_S_addDigits_40 rfl rfl ?_
    refine v_bipush (v := 10) hX d_S_addDigits_41 (by decide) ?_
    refine v_idivE (v := 100) hX d_S_addDigits_43 (by decide) (by decide) ?_
    refine v_istore_n (lv' := [some (.ref (ob 2)), some (.int x), some (.int 100)]) hX d_S_addDigits_44 rfl (Nat.le_of_ble_eq_true rfl) rfl ?_
    refine v_goto hX d_S_addDigits_45 (tgt := 21) (by decide) ?_
    exact dig2 lo4 va4 (csL + kc4) (ssL + ns4) (aL + 1) nl4 ph4 hS4 ⟨by omega, by omega⟩ hn4 hP4 (hfL.trans hf4)
  have dig4 : ∀ (loL : Nat → Nat) (vaL : Nat → va_E) (csL ssL aL nlL phL : Nat), LayS cI ob td w c aL aL nlL pf tl phL dom loL vaL → (a ≤ aL ∧ aL + 5 ≤ a + 10) → nl ≤ nlL → (ssL + ph ≤ phL ∧ 16 * csL + ph ≤ phL) → frL loc val loL vaL → V X D CL A dom loL vaL csL ssL 21 [some (.ref (ob 2)), some (.int x), some (.int 10000)] [] := by
    intro loL vaL csL ssL aL nlL phL hSL hcL hnL hPL hfL
    have hxL : phL ≤ 2663816 := hSL.phi
    refine v_iload_n hX d_S_addDigits_21 rfl rfl ?_
    refine v_if_le hX d_S_addDigits_22 (tgt := 48) (by decide) (fun c => absurd c (by decide)) (fun _ => ?_)
    refine v_aload_n hX d_S_addDigits_25 rfl rfl ?_
    refine v_bipush (v := 48) hX d_S_addDigits_26 (by decide) ?_
    refine v_iload_n hX d_S_addDigits_28 rfl rfl ?_
    refine v_iload_n hX d_S_addDigits_29 rfl rfl ?_
    refine v_idiv hX d_S_addDigits_30 (by decide) ?_
    refine v_bipush (v := 10) hX d_S_addDigits_31 (by decide) ?_
    refine v_irem hX d_S_addDigits_33 (by decide) ?_
    refine v_iadd hX d_S_addDigits_34 ?_
    refine v_bipush (v := 32) hX d_S_addDigits_35 (by decide) ?_
    refine c_V hX 2 (rest := []) hl (c_S_addAhead hSL (48 + ((x / 10000) - (x / 10000) / 10 * 10)) 32 (by omega) (by omega)) ml_S_132 im_S_addAhead se_S_addAhead in_S cd_S_addAhead rfl q_S_addAhead ⟨(Nat.le_of_ble_eq_true rfl), (Nat.le_of_ble_eq_true rfl)⟩ hSL.set.1 hSL.set.2.1 hSL.set.2.2 rfl rfl rfl rfl (Nat.le_of_ble_eq_true rfl) d_S_addDigits_37 ⟨by have a := hPL.2; have b := hxL; show _ + (120 + (2663816 - phL) / 16) ≤ 120 + (2663816 - ph) / 16; omega, by have a := hPL.1; have b := hxL; show _ + (700000 + (2663816 - phL)) ≤ 700000 + (2663816 - ph); omega⟩ (fun rv d2 lo5 va5 kc5 ns5 hp => ?_)
    obtain ⟨rfl, rfl, ⟨nl5, ph5, hS5, hm5, hp5⟩, hf5⟩ := hp
    show V X D CL A _ _ _ _ _ _ _ []
    have hP5 : (ssL + ns5) + ph ≤ ph5 ∧ 16 * (csL + kc5) + ph ≤ ph5 := ⟨by have a := hPL.1; have b := hp5.1; omega, by have a := hPL.2; have b := hp5.2; omega⟩
    have hx5 : ph5 ≤ 2663816 := hS5.phi
    have hn5 : nl ≤ nl5 := Nat.le_trans hnL hm5
    refine v_iload_n hX d_S_addDigits_40 rfl rfl ?_
    refine v_bipush (v := 10) hX d_S_addDigits_41 (by decide) ?_
    refine v_idivE (v := 1000) hX d_S_addDigits_43 (by decide) (by decide) ?_
    refine v_istore_n (lv' := [some (.ref (ob 2)), some (.int x), some (.int 1000)]) hX d_S_addDigits_44 rfl (Nat.le_of_ble_eq_true rfl) rfl ?_
    refine v_goto hX d_S_addDigits_45 (tgt := 21) (by decide) ?_
    exact dig3 lo5 va5 (csL + kc5) (ssL + ns5) (aL + 1) nl5 ph5 hS5 ⟨by omega, by omega⟩ hn5 hP5 (hfL.trans hf5)
  have dig5 : ∀ (loL : Nat → Nat) (vaL : Nat → va_E) (csL ssL aL nlL phL : Nat), LayS cI ob td w c aL aL nlL pf tl phL dom loL vaL → (a ≤ aL ∧ aL + 6 ≤ a + 10) → nl ≤ nlL → (ssL + ph ≤ phL ∧ 16 * csL + ph ≤ phL) → frL loc val loL vaL → V X D CL A dom loL vaL csL ssL 21 [some (.ref (ob 2)), some (.int x), some (.int 100000)] [] := by
    intro loL vaL csL ssL aL nlL phL hSL hcL hnL hPL hfL
    have hxL : phL ≤ 2663816 := hSL.phi
    refine v_iload_n hX d_S_addDigits_21 rfl rfl ?_
    refine v_if_le hX d_S_addDigits_22 (tgt := 48) (by decide) (fun c => absurd c (by decide)) (fun _ => ?_)
    refine v_aload_n hX d_S_addDigits_25 rfl rfl ?_
    refine v_bipush (v := 48) hX d_S_addDigits_26 (by decide) ?_
    refine v_iload_n hX d_S_addDigits_28 rfl rfl ?_
    refine v_iload_n hX d_S_addDigits_29 rfl rfl ?_
    refine v_idiv hX d_S_addDigits_30 (by decide) ?_
    refine v_bipush (v := 10) hX d_S_addDigits_31 (by decide) ?_
    refine v_irem hX d_S_addDigits_33 (by decide) ?_
    refine v_iadd hX d_S_addDigits_34 ?_
    refine v_bipush (v := 32) hX d_S_addDigits_35 (by decide) ?_
    refine c_V hX 2 (rest := []) hl (c_S_addAhead hSL (48 + ((x / 100000) - (x / 100000) / 10 * 10)) 32 (by omega) (by omega)) ml_S_132 im_S_addAhead se_S_addAhead in_S cd_S_addAhead rfl q_S_addAhead ⟨(Nat.le_of_ble_eq_true rfl), (Nat.le_of_ble_eq_true rfl)⟩ hSL.set.1 hSL.set.2.1 hSL.set.2.2 rfl rfl rfl rfl (Nat.le_of_ble_eq_true rfl) d_S_addDigits_37 ⟨by have a := hPL.2; have b := hxL; show _ + (120 + (2663816 - phL) / 16) ≤ 120 + (2663816 - ph) / 16; omega, by have a := hPL.1; have b := hxL; show _ + (700000 + (2663816 - phL)) ≤ 700000 + (2663816 - ph); omega⟩ (fun rv d2 lo6 va6 kc6 ns6 hp => ?_)
    obtain ⟨rfl, rfl, ⟨nl6, ph6, hS6, hm6, hp6⟩, hf6⟩ := hp
    show V X D CL A _ _ _ _ _ _ _ []
    have hP6 : (ssL + ns6) + ph ≤ ph6 ∧ 16 * (csL + kc6) + ph ≤ ph6 := ⟨by have a := hPL.1; have b := hp6.1; omega, by have a := hPL.2; have b := hp6.2; omega⟩
    have hx6 : ph6 ≤ 2663816 := hS6.phi
    have hn6 : nl ≤ nl6 := Nat.le_trans hnL hm6
    refine v_iload_n hX d_S_addDigits_40 rfl rfl ?_
    refine v_bipush (v := 10) hX d_S_addDigits_41 (by decide) ?_
    refine v_idivE (v := 10000) hX d_S_addDigits_43 (by decide) (by decide) ?_
    refine v_istore_n (lv' := [some (.ref (ob 2)), some (.int x), some (.int 10000)]) hX d_S_addDigits_44 rfl (Nat.le_of_ble_eq_true rfl) rfl ?_
    refine v_goto hX d_S_addDigits_45 (tgt := 21) (by decide) ?_
    exact dig4 lo6 va6 (csL + kc6) (ssL + ns6) (aL + 1) nl6 ph6 hS6 ⟨by omega, by omega⟩ hn6 hP6 (hfL.trans hf6)
  have dig6 : ∀ (loL : Nat → Nat) (vaL : Nat → va_E) (csL ssL aL nlL phL : Nat), LayS cI ob td w c aL aL nlL pf tl phL dom loL vaL → (a ≤ aL ∧ aL + 7 ≤ a + 10) → nl ≤ nlL → (ssL + ph ≤ phL ∧ 16 * csL + ph ≤ phL) → frL loc val loL vaL → V X D CL A dom loL vaL csL ssL 21 [some (.ref (ob 2)), some (.int x), some (.int 1000000)] [] := by
    intro loL vaL csL ssL aL nlL phL hSL hcL hnL hPL hfL
    have hxL : phL ≤ 2663816 := hSL.phi
    refine v_iload_n hX d_S_addDigits_21 rfl rfl ?_
    refine v_if_le hX d_S_addDigits_22 (tgt := 48) (by decide) (fun c => absurd c (by decide)) (fun _ => ?_)
    refine v_aload_n hX d_S_addDigits_25 rfl rfl ?_
    refine v_bipush (v := 48) hX d_S_addDigits_26 (by decide) ?_
    refine v_iload_n hX d_S_addDigits_28 rfl rfl ?_
    refine v_iload_n hX d_S_addDigits_29 rfl rfl ?_
    refine v_idiv hX d_S_addDigits_30 (by decide) ?_
    refine v_bipush (v := 10) hX d_S_addDigits_31 (by decide) ?_
    refine v_irem hX d_S_addDigits_33 (by decide) ?_
    refine v_iadd hX d_S_addDigits_34 ?_
    refine v_bipush (v := 32) hX d_S_addDigits_35 (by decide) ?_
    refine c_V hX 2 (rest := []) hl (c_S_addAhead hSL (48 + ((x / 1000000) - (x / 1000000) / 10 * 10)) 32 (by omega) (by omega)) ml_S_132 im_S_addAhead se_S_addAhead in_S cd_S_addAhead rfl q_S_addAhead ⟨(Nat.le_of_ble_eq_true rfl), (Nat.le_of_ble_eq_true rfl)⟩ hSL.set.1 hSL.set.2.1 hSL.set.2.2 rfl rfl rfl rfl (Nat.le_of_ble_eq_true rfl) d_S_addDigits_37 ⟨by have a := hPL.2; have b := hxL; show _ + (120 + (2663816 - phL) / 16) ≤ 120 + (2663816 - ph) / 16; omega, by have a := hPL.1; have b := hxL; show _ + (700000 + (2663816 - phL)) ≤ 700000 + (2663816 - ph); omega⟩ (fun rv d2 lo7 va7 kc7 ns7 hp => ?_)
    obtain ⟨rfl, rfl, ⟨nl7, ph7, hS7, hm7, hp7⟩, hf7⟩ := hp
    show V X D CL A _ _ _ _ _ _ _ []
    have hP7 : (ssL + ns7) + ph ≤ ph7 ∧ 16 * (csL + kc7) + ph ≤ ph7 := ⟨by have a := hPL.1; have b := hp7.1; omega, by have a := hPL.2; have b := hp7.2; omega⟩
    have hx7 : ph7 ≤ 2663816 := hS7.phi
    have hn7 : nl ≤ nl7 := Nat.le_trans hnL hm7
    refine v_iload_n hX d_S_addDigits_40 rfl rfl ?_
    refine v_bipush (v := 10) hX d_S_addDigits_41 (by decide) ?_
    refine v_idivE (v := 100000) hX d_S_addDigits_43 (by decide) (by decide) ?_
    refine v_istore_n (lv' := [some (.ref (ob 2)), some (.int x), some (.int 100000)]) hX d_S_addDigits_44 rfl (Nat.le_of_ble_eq_true rfl) rfl ?_
    refine v_goto hX d_S_addDigits_45 (tgt := 21) (by decide) ?_
    exact dig5 lo7 va7 (csL + kc7) (ssL + ns7) (aL + 1) nl7 ph7 hS7 ⟨by omega, by omega⟩ hn7 hP7 (hfL.trans hf7)
  have dig7 : ∀ (loL : Nat → Nat) (vaL : Nat → va_E) (csL ssL aL nlL phL : Nat), LayS cI ob td w c aL aL nlL pf tl phL dom loL vaL → (a ≤ aL ∧ aL + 8 ≤ a + 10) → nl ≤ nlL → (ssL + ph ≤ phL ∧ 16 * csL + ph ≤ phL) → frL loc val loL vaL → V X D CL A dom loL vaL csL ssL 21 [some (.ref (ob 2)), some (.int x), some (.int 10000000)] [] := by
    intro loL vaL csL ssL aL nlL phL hSL hcL hnL hPL hfL
    have hxL : phL ≤ 2663816 := hSL.phi
    refine v_iload_n hX d_S_addDigits_21 rfl rfl ?_
    refine v_if_le hX d_S_addDigits_22 (tgt := 48) (by decide) (fun c => absurd c (by decide)) (fun _ => ?_)
    refine v_aload_n hX d_S_addDigits_25 rfl rfl ?_
    refine v_bipush (v := 48) hX d_S_addDigits_26 (by decide) ?_
    refine v_iload_n hX d_S_addDigits_28 rfl rfl ?_
    refine v_iload_n hX d_S_addDigits_29 rfl rfl ?_
    refine v_idiv hX d_S_addDigits_30 (by decide) ?_
    refine v_bipush (v := 10) hX d_S_addDigits_31 (by decide) ?_
    refine v_irem hX d_S_addDigits_33 (by decide) ?_
    refine v_iadd hX d_S_addDigits_34 ?_
    refine v_bipush (v := 32) hX d_S_addDigits_35 (by decide) ?_
    refine c_V hX 2 (rest := []) hl (c_S_addAhead hSL (48 + ((x / 10000000) - (x / 10000000) / 10 * 10)) 32 (by omega) (by omega)) ml_S_132 im_S_addAhead se_S_addAhead in_S cd_S_addAhead rfl q_S_addAhead ⟨(Nat.le_of_ble_eq_true rfl), (Nat.le_of_ble_eq_true rfl)⟩ hSL.set.1 hSL.set.2.1 hSL.set.2.2 rfl rfl rfl rfl (Nat.le_of_ble_eq_true rfl) d_S_addDigits_37 ⟨by have a := hPL.2; have b := hxL; show _ + (120 + (2663816 - phL) / 16) ≤ 120 + (2663816 - ph) / 16; omega, by have a := hPL.1; have b := hxL; show _ + (700000 + (2663816 - phL)) ≤ 700000 + (2663816 - ph); omega⟩ (fun rv d2 lo8 va8 kc8 ns8 hp => ?_)
    obtain ⟨rfl, rfl, ⟨nl8, ph8, hS8, hm8, hp8⟩, hf8⟩ := hp
    show V X D CL A _ _ _ _ _ _ _ []
    have hP8 : (ssL + ns8) + ph ≤ ph8 ∧ 16 * (csL + kc8) + ph ≤ ph8 := ⟨by have a := hPL.1; have b := hp8.1; omega, by have a := hPL.2; have b := hp8.2; omega⟩
    have hx8 : ph8 ≤ 2663816 := hS8.phi
    have hn8 : nl ≤ nl8 := Nat.le_trans hnL hm8
    refine v_iload_n hX d_S_addDigits_40 rfl rfl ?_
    refine v_bipush (v := 10) hX d_S_addDigits_41 (by decide) ?_
    refine v_idivE (v := 1000000) hX d_S_addDigits_43 (by decide) (by decide) ?_
    refine v_istore_n (lv' := [some (.ref (ob 2)), some (.int x), some (.int 1000000)]) hX d_S_addDigits_44 rfl (Nat.le_of_ble_eq_true rfl) rfl ?_
    refine v_goto hX d_S_addDigits_45 (tgt := 21) (by decide) ?_
    exact dig6 lo8 va8 (csL + kc8) (ssL + ns8) (aL + 1) nl8 ph8 hS8 ⟨by omega, by omega⟩ hn8 hP8 (hfL.trans hf8)
  have dig8 : ∀ (loL : Nat → Nat) (vaL : Nat → va_E) (csL ssL aL nlL phL : Nat), LayS cI ob td w c aL aL nlL pf tl phL dom loL vaL → (a ≤ aL ∧ aL + 9 ≤ a + 10) → nl ≤ nlL → (ssL + ph ≤ phL ∧ 16 * csL + ph ≤ phL) → frL loc val loL vaL → V X D CL A dom loL vaL csL ssL 21 [some (.ref (ob 2)), some (.int x), some (.int 100000000)] [] := by
    intro loL vaL csL ssL aL nlL phL hSL hcL hnL hPL hfL
    have hxL : phL ≤ 2663816 := hSL.phi
    refine v_iload_n hX d_S_addDigits_21 rfl rfl ?_
    refine v_if_le hX d_S_addDigits_22 (tgt := 48) (by decide) (fun c => absurd c (by decide)) (fun _ => ?_)
    refine v_aload_n hX d_S_addDigits_25 rfl rfl ?_
    refine v_bipush (v := 48) hX d_S_addDigits_26 (by decide) ?_
    refine v_iload_n hX d_S_addDigits_28 rfl rfl ?_
    refine v_iload_n hX d_S_addDigits_29 rfl rfl ?_
    refine v_idiv hX d_S_addDigits_30 (by decide) ?_
    refine v_bipush (v := 10) hX d_S_addDigits_31 (by decide) ?_
    refine v_irem hX d_S_addDigits_33 (by decide) ?_
    refine v_iadd hX d_S_addDigits_34 ?_
    refine v_bipush (v := 32) hX d_S_addDigits_35 (by decide) ?_
    refine c_V hX 2 (rest := []) hl (c_S_addAhead hSL (48 + ((x / 100000000) - (x / 100000000) / 10 * 10)) 32 (by omega) (by omega)) ml_S_132 im_S_addAhead se_S_addAhead in_S cd_S_addAhead rfl q_S_addAhead ⟨(Nat.le_of_ble_eq_true rfl), (Nat.le_of_ble_eq_true rfl)⟩ hSL.set.1 hSL.set.2.1 hSL.set.2.2 rfl rfl rfl rfl (Nat.le_of_ble_eq_true rfl) d_S_addDigits_37 ⟨by have a := hPL.2; have b := hxL; show _ + (120 + (2663816 - phL) / 16) ≤ 120 + (2663816 - ph) / 16; omega, by have a := hPL.1; have b := hxL; show _ + (700000 + (2663816 - phL)) ≤ 700000 + (2663816 - ph); omega⟩ (fun rv d2 lo9 va9 kc9 ns9 hp => ?_)
    obtain ⟨rfl, rfl, ⟨nl9, ph9, hS9, hm9, hp9⟩, hf9⟩ := hp
    show V X D CL A _ _ _ _ _ _ _ []
    have hP9 : (ssL + ns9) + ph ≤ ph9 ∧ 16 * (csL + kc9) + ph ≤ ph9 := ⟨by have a := hPL.1; have b := hp9.1; omega, by have a := hPL.2; have b := hp9.2; omega⟩
    have hx9 : ph9 ≤ 2663816 := hS9.phi
    have hn9 : nl ≤ nl9 := Nat.le_trans hnL hm9
    refine v_iload_n hX d_S_addDigits_40 rfl rfl ?_
    refine v_bipush (v := 10) hX d_S_addDigits_41 (by decide) ?_
    refine v_idivE (v := 10000000) hX d_S_addDigits_43 (by decide) (by decide) ?_
    refine v_istore_n (lv' := [some (.ref (ob 2)), some (.int x), some (.int 10000000)]) hX d_S_addDigits_44 rfl (Nat.le_of_ble_eq_true rfl) rfl ?_
    refine v_goto hX d_S_addDigits_45 (tgt := 21) (by decide) ?_
    exact dig7 lo9 va9 (csL + kc9) (ssL + ns9) (aL + 1) nl9 ph9 hS9 ⟨by omega, by omega⟩ hn9 hP9 (hfL.trans hf9)
  have dig9 : ∀ (loL : Nat → Nat) (vaL : Nat → va_E) (csL ssL aL nlL phL : Nat), LayS cI ob td w c aL aL nlL pf tl phL dom loL vaL → (a ≤ aL ∧ aL + 10 ≤ a + 10) → nl ≤ nlL → (ssL + ph ≤ phL ∧ 16 * csL + ph ≤ phL) → frL loc val loL vaL → V X D CL A dom loL vaL csL ssL 21 [some (.ref (ob 2)), some (.int x), some (.int 1000000000)] [] := by
    intro loL vaL csL ssL aL nlL phL hSL hcL hnL hPL hfL
    have hxL : phL ≤ 2663816 := hSL.phi
    refine v_iload_n hX d_S_addDigits_21 rfl rfl ?_
    refine v_if_le hX d_S_addDigits_22 (tgt := 48) (by decide) (fun c => absurd c (by decide)) (fun _ => ?_)
    refine v_aload_n hX d_S_addDigits_25 rfl rfl ?_
    refine v_bipush (v := 48) hX d_S_addDigits_26 (by decide) ?_
    refine v_iload_n hX d_S_addDigits_28 rfl rfl ?_
    refine v_iload_n hX d_S_addDigits_29 rfl rfl ?_
    refine v_idiv hX d_S_addDigits_30 (by decide) ?_
    refine v_bipush (v := 10) hX d_S_addDigits_31 (by decide) ?_
    refine v_irem hX d_S_addDigits_33 (by decide) ?_
    refine v_iadd hX d_S_addDigits_34 ?_
    refine v_bipush (v := 32) hX d_S_addDigits_35 (by decide) ?_
    refine c_V hX 2 (rest := []) hl (c_S_addAhead hSL (48 + ((x / 1000000000) - (x / 1000000000) / 10 * 10)) 32 (by omega) (by omega)) ml_S_132 im_S_addAhead se_S_addAhead in_S cd_S_addAhead rfl q_S_addAhead ⟨(Nat.le_of_ble_eq_true rfl), (Nat.le_of_ble_eq_true rfl)⟩ hSL.set.1 hSL.set.2.1 hSL.set.2.2 rfl rfl rfl rfl (Nat.le_of_ble_eq_true rfl) d_S_addDigits_37 ⟨by have a := hPL.2; have b := hxL; show _ + (120 + (2663816 - phL) / 16) ≤ 120 + (2663816 - ph) / 16; omega, by have a := hPL.1; have b := hxL; show _ + (700000 + (2663816 - phL)) ≤ 700000 + (2663816 - ph); omega⟩ (fun rv d2 lo10 va10 kc10 ns10 hp => ?_)
    obtain ⟨rfl, rfl, ⟨nl10, ph10, hS10, hm10, hp10⟩, hf10⟩ := hp
    show V X D CL A _ _ _ _ _ _ _ []
    have hP10 : (ssL + ns10) + ph ≤ ph10 ∧ 16 * (csL + kc10) + ph ≤ ph10 := ⟨by have a := hPL.1; have b := hp10.1; omega, by have a := hPL.2; have b := hp10.2; omega⟩
    have hx10 : ph10 ≤ 2663816 := hS10.phi
    have hn10 : nl ≤ nl10 := Nat.le_trans hnL hm10
    refine v_iload_n hX d_S_addDigits_40 rfl rfl ?_
    refine v_bipush (v := 10) hX d_S_addDigits_41 (by decide) ?_
    refine v_idivE (v := 100000000) hX d_S_addDigits_43 (by decide) (by decide) ?_
    refine v_istore_n (lv' := [some (.ref (ob 2)), some (.int x), some (.int 100000000)]) hX d_S_addDigits_44 rfl (Nat.le_of_ble_eq_true rfl) rfl ?_
    refine v_goto hX d_S_addDigits_45 (tgt := 21) (by decide) ?_
    exact dig8 lo10 va10 (csL + kc10) (ssL + ns10) (aL + 1) nl10 ph10 hS10 ⟨by omega, by omega⟩ hn10 hP10 (hfL.trans hf10)
  refine v_ldc (v := 1000000000) hX ct_S_166 d_S_addDigits_0 ?_
  refine v_istore_n (lv' := [some (.ref (ob 2)), some (.int x), some (.int 1000000000)]) hX d_S_addDigits_2 rfl (Nat.le_of_ble_eq_true rfl) rfl ?_
  refine v_iload_n hX d_S_addDigits_3 rfl rfl ?_
  refine v_iconst (v := 1) hX d_S_addDigits_4 (by decide) ?_
  refine v_icmp_le hX d_S_addDigits_5 (tgt := 21) (by decide) (fun c => absurd c (by decide)) (fun _ => ?_)
  refine v_iload_n hX d_S_addDigits_8 rfl rfl ?_
  refine v_iload_n hX d_S_addDigits_9 rfl rfl ?_
  refine v_icmp_le hX d_S_addDigits_10 (tgt := 21) (by decide) (fun c10 => ?_) (fun c10 => ?_)
  · exact dig9 loc val (0) (0) a nl ph hS ⟨by omega, by omega⟩ (Nat.le_refl nl) hP frL.rf
  · refine v_iload_n hX d_S_addDigits_13 rfl rfl ?_
    refine v_bipush (v := 10) hX d_S_addDigits_14 (by decide) ?_
    refine v_idivE (v := 100000000) hX d_S_addDigits_16 (by decide) (by decide) ?_
    refine v_istore_n (lv' := [some (.ref (ob 2)), some (.int x), some (.int 100000000)]) hX d_S_addDigits_17 rfl (Nat.le_of_ble_eq_true rfl) rfl ?_
    refine v_goto hX d_S_addDigits_18 (tgt := 3) (by decide) ?_
    refine v_iload_n hX d_S_addDigits_3 rfl rfl ?_
    refine v_iconst (v := 1) hX d_S_addDigits_4 (by decide) ?_
    refine v_icmp_le hX d_S_addDigits_5 (tgt := 21) (by decide) (fun c => absurd c (by decide)) (fun _ => ?_)
    refine v_iload_n hX d_S_addDigits_8 rfl rfl ?_
    refine v_iload_n hX d_S_addDigits_9 rfl rfl ?_
    refine v_icmp_le hX d_S_addDigits_10 (tgt := 21) (by decide) (fun c10 => ?_) (fun c10 => ?_)
    · exact dig8 loc val (0) (0) a nl ph hS ⟨by omega, by omega⟩ (Nat.le_refl nl) hP frL.rf
    · refine v_iload_n hX d_S_addDigits_13 rfl rfl ?_
      refine v_bipush (v := 10) hX d_S_addDigits_14 (by decide) ?_
      refine v_idivE (v := 10000000) hX d_S_addDigits_16 (by decide) (by decide) ?_
      refine v_istore_n (lv' := [some (.ref (ob 2)), some (.int x), some (.int 10000000)]) hX d_S_addDigits_17 rfl (Nat.le_of_ble_eq_true rfl) rfl ?_
      refine v_goto hX d_S_addDigits_18 (tgt := 3) (by decide) ?_
      refine v_iload_n hX d_S_addDigits_3 rfl rfl ?_
      refine v_iconst (v := 1) hX d_S_addDigits_4 (by decide) ?_
      refine v_icmp_le hX d_S_addDigits_5 (tgt := 21) (by decide) (fun c => absurd c (by decide)) (fun _ => ?_)
      refine v_iload_n hX d_S_addDigits_8 rfl rfl ?_
      refine v_iload_n hX d_S_addDigits_9 rfl rfl ?_
      refine v_icmp_le hX d_S_addDigits_10 (tgt := 21) (by decide) (fun c10 => ?_) (fun c10 => ?_)
      · exact dig7 loc val (0) (0) a nl ph hS ⟨by omega, by omega⟩ (Nat.le_refl nl) hP frL.rf
      · refine v_iload_n hX d_S_addDigits_13 rfl rfl ?_
        refine v_bipush (v := 10) hX d_S_addDigits_14 (by decide) ?_
        refine v_idivE (v := 1000000) hX d_S_addDigits_16 (by decide) (by decide) ?_
        refine v_istore_n (lv' := [some (.ref (ob 2)), some (.int x), some (.int 1000000)]) hX d_S_addDigits_17 rfl (Nat.le_of_ble_eq_true rfl) rfl ?_
        refine v_goto hX d_S_addDigits_18 (tgt := 3) (by decide) ?_
        refine v_iload_n hX d_S_addDigits_3 rfl rfl ?_
        refine v_iconst (v := 1) hX d_S_addDigits_4 (by decide) ?_
        refine v_icmp_le hX d_S_addDigits_5 (tgt := 21) (by decide) (fun c => absurd c (by decide)) (fun _ => ?_)
        refine v_iload_n hX d_S_addDigits_8 rfl rfl ?_
        refine v_iload_n hX d_S_addDigits_9 rfl rfl ?_
        refine v_icmp_le hX d_S_addDigits_10 (tgt := 21) (by decide) (fun c10 => ?_) (fun c10 => ?_)
        · exact dig6 loc val (0) (0) a nl ph hS ⟨by omega, by omega⟩ (Nat.le_refl nl) hP frL.rf
        · refine v_iload_n hX d_S_addDigits_13 rfl rfl ?_
          refine v_bipush (v := 10) hX d_S_addDigits_14 (by decide) ?_
          refine v_idivE (v := 100000) hX d_S_addDigits_16 (by decide) (by decide) ?_
          refine v_istore_n (lv' := [some (.ref (ob 2)), some (.int x), some (.int 100000)]) hX d_S_addDigits_17 rfl (Nat.le_of_ble_eq_true rfl) rfl ?_
          refine v_goto hX d_S_addDigits_18 (tgt := 3) (by decide) ?_
          refine v_iload_n hX d_S_addDigits_3 rfl rfl ?_
          refine v_iconst (v := 1) hX d_S_addDigits_4 (by decide) ?_
          refine v_icmp_le hX d_S_addDigits_5 (tgt := 21) (by decide) (fun c => absurd c (by decide)) (fun _ => ?_)
          refine v_iload_n hX d_S_addDigits_8 rfl rfl ?_
          refine v_iload_n hX d_S_addDigits_9 rfl rfl ?_
          refine v_icmp_le hX d_S_addDigits_10 (tgt := 21) (by decide) (fun c10 => ?_) (fun c10 => ?_)
          · exact dig5 loc val (0) (0) a nl ph hS ⟨by omega, by omega⟩ (Nat.le_refl nl) hP frL.rf
          · refine v_iload_n hX d_S_addDigits_13 rfl rfl ?_
            refine v_bipush (v := 10) hX d_S_addDigits_14 (by decide) ?_
            refine v_idivE (v := 10000) hX d_S_addDigits_16 (by decide) (by decide) ?_
            refine v_istore_n (lv' := [some (.ref (ob 2)), some (.int x), some (.int 10000)]) hX d_S_addDigits_17 rfl (Nat.le_of_ble_eq_true rfl) rfl ?_
            refine v_goto hX d_S_addDigits_18 (tgt := 3) (by decide) ?_
            refine v_iload_n hX d_S_addDigits_3 rfl rfl ?_
            refine v_iconst (v := 1) hX d_S_addDigits_4 (by decide) ?_
            refine v_icmp_le hX d_S_addDigits_5 (tgt := 21) (by decide) (fun c => absurd c (by decide)) (fun _ => ?_)
            refine v_iload_n hX d_S_addDigits_8 rfl rfl ?_
            refine v_iload_n hX d_S_addDigits_9 rfl rfl ?_
            refine v_icmp_le hX d_S_addDigits_10 (tgt := 21) (by decide) (fun c10 => ?_) (fun c10 => ?_)
            · exact dig4 loc val (0) (0) a nl ph hS ⟨by omega, by omega⟩ (Nat.le_refl nl) hP frL.rf
            · refine v_iload_n hX d_S_addDigits_13 rfl rfl ?_
              refine v_bipush (v := 10) hX d_S_addDigits_14 (by decide) ?_
              refine v_idivE (v := 1000) hX d_S_addDigits_16 (by decide) (by decide) ?_
              refine v_istore_n (lv' := [some (.ref (ob 2)), some (.int x), some (.int 1000)]) hX d_S_addDigits_17 rfl (Nat.le_of_ble_eq_true rfl) rfl ?_
              refine v_goto hX d_S_addDigits_18 (tgt := 3) (by decide) ?_
              refine v_iload_n hX d_S_addDigits_3 rfl rfl ?_
              refine v_iconst (v := 1) hX d_S_addDigits_4 (by decide) ?_
              refine v_icmp_le hX d_S_addDigits_5 (tgt := 21) (by decide) (fun c => absurd c (by decide)) (fun _ => ?_)
              refine v_iload_n hX d_S_addDigits_8 rfl rfl ?_
              refine v_iload_n hX d_S_addDigits_9 rfl rfl ?_
              refine v_icmp_le hX d_S_addDigits_10 (tgt := 21) (by decide) (fun c10 => ?_) (fun c10 => ?_)
              · exact dig3 loc val (0) (0) a nl ph hS ⟨by omega, by omega⟩ (Nat.le_refl nl) hP frL.rf
              · refine v_iload_n hX d_S_addDigits_13 rfl rfl ?_
                refine v_bipush (v := 10) hX d_S_addDigits_14 (by decide) ?_
                refine v_idivE (v := 100) hX d_S_addDigits_16 (by decide) (by decide) ?_
                refine v_istore_n (lv' := [some (.ref (ob 2)), some (.int x), some (.int 100)]) hX d_S_addDigits_17 rfl (Nat.le_of_ble_eq_true rfl) rfl ?_
                refine v_goto hX d_S_addDigits_18 (tgt := 3) (by decide) ?_
                refine v_iload_n hX d_S_addDigits_3 rfl rfl ?_
                refine v_iconst (v := 1) hX d_S_addDigits_4 (by decide) ?_
                refine v_icmp_le hX d_S_addDigits_5 (tgt := 21) (by decide) (fun c => absurd c (by decide)) (fun _ => ?_)
                refine v_iload_n hX d_S_addDigits_8 rfl rfl ?_
                refine v_iload_n hX d_S_addDigits_9 rfl rfl ?_
                refine v_icmp_le hX d_S_addDigits_10 (tgt := 21) (by decide) (fun c10 => ?_) (fun c10 => ?_)
                · exact dig2 loc val (0) (0) a nl ph hS ⟨by omega, by omega⟩ (Nat.le_refl nl) hP frL.rf
                · refine v_iload_n hX d_S_addDigits_13 rfl rfl ?_
                  refine v_bipush (v := 10) hX d_S_addDigits_14 (by decide) ?_
                  refine v_idivE (v := 10) hX d_S_addDigits_16 (by decide) (by decide) ?_
                  refine v_istore_n (lv' := [some (.ref (ob 2)), some (.int x), some (.int 10)]) hX d_S_addDigits_17 rfl (Nat.le_of_ble_eq_true rfl) rfl ?_
                  refine v_goto hX d_S_addDigits_18 (tgt := 3) (by decide) ?_
                  refine v_iload_n hX d_S_addDigits_3 rfl rfl ?_
                  refine v_iconst (v := 1) hX d_S_addDigits_4 (by decide) ?_
                  refine v_icmp_le hX d_S_addDigits_5 (tgt := 21) (by decide) (fun c => absurd c (by decide)) (fun _ => ?_)
                  refine v_iload_n hX d_S_addDigits_8 rfl rfl ?_
                  refine v_iload_n hX d_S_addDigits_9 rfl rfl ?_
                  refine v_icmp_le hX d_S_addDigits_10 (tgt := 21) (by decide) (fun c10 => ?_) (fun c10 => ?_)
                  · exact dig1 loc val (0) (0) a nl ph hS ⟨by omega, by omega⟩ (Nat.le_refl nl) hP frL.rf
                  · refine v_iload_n hX d_S_addDigits_13 rfl rfl ?_
                    refine v_bipush (v := 10) hX d_S_addDigits_14 (by decide) ?_
                    refine v_idivE (v := 1) hX d_S_addDigits_16 (by decide) (by decide) ?_
                    refine v_istore_n (lv' := [some (.ref (ob 2)), some (.int x), some (.int 1)]) hX d_S_addDigits_17 rfl (Nat.le_of_ble_eq_true rfl) rfl ?_
                    refine v_goto hX d_S_addDigits_18 (tgt := 3) (by decide) ?_
                    refine v_iload_n hX d_S_addDigits_3 rfl rfl ?_
                    refine v_iconst (v := 1) hX d_S_addDigits_4 (by decide) ?_
                    refine v_icmp_le hX d_S_addDigits_5 (tgt := 21) (by decide) (fun _ => ?_) (fun c => absurd (by decide) c)
                    exact dig0 loc val (0) (0) a nl ph hS ⟨by omega, by omega⟩ (Nat.le_refl nl) hP frL.rf
set_option maxHeartbeats 4000000 in
set_option maxRecDepth 100000 in
theorem c_S_addSign {l : Launch} {D : va_G} {A : Nat → Prop} {cI cB cZ cJ cN : ClassId} {ob : Nat → Nat} {td w c a nl pf tl ph : Nat} {dom : Nat → Prop} {loc : Nat → Nat} {val : Nat → va_E} (hS : LayS cI ob td w c a a nl pf tl ph dom loc val) (x y : Int32) (ha : a + 12 ≤ 200) : kM l y_S_addSign (Cond.code y_S_addSign b_S_addSign 3 none :: TT) (rmP 5 ph) D CL (TY cI cB cZ cJ cN) A [.ref (ob 2), .int x, .int y] dom loc val (PSa cI ob td w c a 12 nl pf tl ph dom loc val) := by
  refine kM_of (lv0 := [some (.ref (ob 2)), some (.int x), some (.int y)]) (own := "ProsePages$Setter") (by decide) rfl (List.forall_mem_cons.mpr ⟨rfl, List.forall_mem_cons.mpr ⟨rfl, List.forall_mem_cons.mpr ⟨rfl, fun _ h => nomatch h⟩⟩⟩) (Nat.le_of_ble_eq_true rfl) rfl (Nat.le_of_ble_eq_true rfl) (fun X hl hX hE hin0 => ?_)
  have hP : 0 + ph ≤ ph ∧ 16 * 0 + ph ≤ ph := ⟨by omega, by omega⟩
  have hx : ph ≤ 2663816 := hS.phi
  refine v_iload_n hX d_S_addSign_0 rfl rfl ?_
  refine v_iconst (v := 5) hX d_S_addSign_1 (by decide) ?_
  refine v_icmp_ne hX d_S_addSign_2 (tgt := 16) (by decide) (fun c2 => ?_) (fun c2 => ?_)
  · refine v_aload_n hX d_S_addSign_16 rfl rfl ?_
    refine v_iload_n hX d_S_addSign_17 rfl rfl ?_
    refine c_V hX 2 (rest := []) hl (c_S_addDigits hS y (by omega)) ml_S_163 im_S_addDigits se_S_addDigits in_S cd_S_addDigits rfl q_S_addDigits ⟨(Nat.le_of_ble_eq_true rfl), (Nat.le_of_ble_eq_true rfl)⟩ hS.set.1 hS.set.2.1 hS.set.2.2 rfl rfl rfl rfl (Nat.le_of_ble_eq_true rfl) d_S_addSign_18 ⟨by have a := hP.2; have b := hx; show _ + (120 + (2663816 - ph) / 16) ≤ 120 + (2663816 - ph) / 16; omega, by have a := hP.1; have b := hx; show _ + (700000 + (2663816 - ph)) ≤ 700000 + (2663816 - ph); omega⟩ (fun rv d2 lo1 va1 kc1 ns1 hp => ?_)
    obtain ⟨rfl, rfl, ⟨aa1, nl1, ph1, ⟨hu1, hv1⟩, hS1, hm1, hp1⟩, hf1⟩ := hp
    show V X D CL A _ _ _ _ _ _ _ []
    have hP1 : (0 + ns1) + ph ≤ ph1 ∧ 16 * (0 + kc1) + ph ≤ ph1 := ⟨by have a := hP.1; have b := hp1.1; omega, by have a := hP.2; have b := hp1.2; omega⟩
    have hx1 : ph1 ≤ 2663816 := hS1.phi
    have hn1 : nl ≤ nl1 := Nat.le_trans (Nat.le_refl nl) hm1
    refine v_aload_n hX d_S_addSign_21 rfl rfl ?_
    refine v_bipush (v := 46) hX d_S_addSign_22 (by decide) ?_
    refine v_bipush (v := 32) hX d_S_addSign_24 (by decide) ?_
    refine c_V hX 2 (rest := []) hl (c_S_addAhead hS1 46 32 (by omega) (by omega)) ml_S_132 im_S_addAhead se_S_addAhead in_S cd_S_addAhead rfl q_S_addAhead ⟨(Nat.le_of_ble_eq_true rfl), (Nat.le_of_ble_eq_true rfl)⟩ hS1.set.1 hS1.set.2.1 hS1.set.2.2 rfl rfl rfl rfl (Nat.le_of_ble_eq_true rfl) d_S_addSign_26 ⟨by have a := hP1.2; have b := hx1; show _ + (120 + (2663816 - ph1) / 16) ≤ 120 + (2663816 - ph) / 16; omega, by have a := hP1.1; have b := hx1; show _ + (700000 + (2663816 - ph1)) ≤ 700000 + (2663816 - ph); omega⟩ (fun rv d2 lo2 va2 kc2 ns2 hp => ?_)
    obtain ⟨rfl, rfl, ⟨nl2, ph2, hS2, hm2, hp2⟩, hf2⟩ := hp
    show V X D CL A _ _ _ _ _ _ _ []
    have hP2 : (0 + ns1 + ns2) + ph ≤ ph2 ∧ 16 * (0 + kc1 + kc2) + ph ≤ ph2 := ⟨by have a := hP1.1; have b := hp2.1; omega, by have a := hP1.2; have b := hp2.2; omega⟩
    have hx2 : ph2 ≤ 2663816 := hS2.phi
    have hn2 : nl ≤ nl2 := Nat.le_trans hn1 hm2
    refine v_aload_n hX d_S_addSign_29 rfl rfl ?_
    refine v_bipush (v := 32) hX d_S_addSign_30 (by decide) ?_
    refine v_bipush (v := 32) hX d_S_addSign_32 (by decide) ?_
    refine c_V hX 2 (rest := []) hl (c_S_addAhead hS2 32 32 (by omega) (by omega)) ml_S_132 im_S_addAhead se_S_addAhead in_S cd_S_addAhead rfl q_S_addAhead ⟨(Nat.le_of_ble_eq_true rfl), (Nat.le_of_ble_eq_true rfl)⟩ hS2.set.1 hS2.set.2.1 hS2.set.2.2 rfl rfl rfl rfl (Nat.le_of_ble_eq_true rfl) d_S_addSign_34 ⟨by have a := hP2.2; have b := hx2; show _ + (120 + (2663816 - ph2) / 16) ≤ 120 + (2663816 - ph) / 16; omega, by have a := hP2.1; have b := hx2; show _ + (700000 + (2663816 - ph2)) ≤ 700000 + (2663816 - ph); omega⟩ (fun rv d2 lo3 va3 kc3 ns3 hp => ?_)
    obtain ⟨rfl, rfl, ⟨nl3, ph3, hS3, hm3, hp3⟩, hf3⟩ := hp
    show V X D CL A _ _ _ _ _ _ _ []
    have hP3 : (0 + ns1 + ns2 + ns3) + ph ≤ ph3 ∧ 16 * (0 + kc1 + kc2 + kc3) + ph ≤ ph3 := ⟨by have a := hP2.1; have b := hp3.1; omega, by have a := hP2.2; have b := hp3.2; omega⟩
    have hx3 : ph3 ≤ 2663816 := hS3.phi
    have hn3 : nl ≤ nl3 := Nat.le_trans hn2 hm3
    exact v_vret hX hE d_S_addSign_37 (by have a := hP3.2; have b := hx3; show _ ≤ 120 + (2663816 - ph) / 16; omega) (by have a := hP3.1; have b := hx3; show _ ≤ 700000 + (2663816 - ph); omega) ⟨rfl, rfl, ⟨((aa1 + 1) + 1), nl3, ph3, ⟨by omega, by omega⟩, hS3, hn3, by have a := hP3.1; have b := hP3.2; exact ⟨by omega, by omega⟩⟩, (((frL.rf.trans hf1).trans hf2).trans hf3)⟩
  · refine v_aload_n hX d_S_addSign_5 rfl rfl ?_
    refine v_bipush (v := 42) hX d_S_addSign_6 (by decide) ?_
    refine v_bipush (v := 32) hX d_S_addSign_8 (by decide) ?_
    refine c_V hX 2 (rest := []) hl (c_S_addAhead hS 42 32 (by omega) (by omega)) ml_S_132 im_S_addAhead se_S_addAhead in_S cd_S_addAhead rfl q_S_addAhead ⟨(Nat.le_of_ble_eq_true rfl), (Nat.le_of_ble_eq_true rfl)⟩ hS.set.1 hS.set.2.1 hS.set.2.2 rfl rfl rfl rfl (Nat.le_of_ble_eq_true rfl) d_S_addSign_10 ⟨by have a := hP.2; have b := hx; show _ + (120 + (2663816 - ph) / 16) ≤ 120 + (2663816 - ph) / 16; omega, by have a := hP.1; have b := hx; show _ + (700000 + (2663816 - ph)) ≤ 700000 + (2663816 - ph); omega⟩ (fun rv d2 lo4 va4 kc4 ns4 hp => ?_)
    obtain ⟨rfl, rfl, ⟨nl4, ph4, hS4, hm4, hp4⟩, hf4⟩ := hp
    show V X D CL A _ _ _ _ _ _ _ []
    have hP4 : (0 + ns4) + ph ≤ ph4 ∧ 16 * (0 + kc4) + ph ≤ ph4 := ⟨by have a := hP.1; have b := hp4.1; omega, by have a := hP.2; have b := hp4.2; omega⟩
    have hx4 : ph4 ≤ 2663816 := hS4.phi
    have hn4 : nl ≤ nl4 := Nat.le_trans (Nat.le_refl nl) hm4
    refine v_goto hX d_S_addSign_13 (tgt := 29) (by decide) ?_
    refine v_aload_n hX d_S_addSign_29 rfl rfl ?_
    refine v_bipush (v := 32) hX d_S_addSign_30 (by decide) ?_
    refine v_bipush (v := 32) hX d_S_addSign_32 (by decide) ?_
    refine c_V hX 2 (rest := []) hl (c_S_addAhead hS4 32 32 (by omega) (by omega)) ml_S_132 im_S_addAhead se_S_addAhead in_S cd_S_addAhead rfl q_S_addAhead ⟨(Nat.le_of_ble_eq_true rfl), (Nat.le_of_ble_eq_true rfl)⟩ hS4.set.1 hS4.set.2.1 hS4.set.2.2 rfl rfl rfl rfl (Nat.le_of_ble_eq_true rfl) d_S_addSign_34 ⟨by have a := hP4.2; have b := hx4; show _ + (120 + (2663816 - ph4) / 16) ≤ 120 + (2663816 - ph) / 16; omega, by have a := hP4.1; have b := hx4; show _ + (700000 + (2663816 - ph4)) ≤ 700000 + (2663816 - ph); omega⟩ (fun rv d2 lo5 va5 kc5 ns5 hp => ?_)
    obtain ⟨rfl, rfl, ⟨nl5, ph5, hS5, hm5, hp5⟩, hf5⟩ := hp
    show V X D CL A _ _ _ _ _ _ _ []
    have hP5 : (0 + ns4 + ns5) + ph ≤ ph5 ∧ 16 * (0 + kc4 + kc5) + ph ≤ ph5 := ⟨by have a := hP4.1; have b := hp5.1; omega, by have a := hP4.2; have b := hp5.2; omega⟩
    have hx5 : ph5 ≤ 2663816 := hS5.phi
    have hn5 : nl ≤ nl5 := Nat.le_trans hn4 hm5
    exact v_vret hX hE d_S_addSign_37 (by have a := hP5.2; have b := hx5; show _ ≤ 120 + (2663816 - ph) / 16; omega) (by have a := hP5.1; have b := hx5; show _ ≤ 700000 + (2663816 - ph); omega) ⟨rfl, rfl, ⟨((a + 1) + 1), nl5, ph5, ⟨by omega, by omega⟩, hS5, hn5, by have a := hP5.1; have b := hP5.2; exact ⟨by omega, by omega⟩⟩, ((frL.rf.trans hf4).trans hf5)⟩
end
section
section KN0
/-- the tree of nodes: kind, holder, depth, value, first, last, next -/
abbrev TR : Type := (Nat → Int32) × (Nat → Option Nat) × (Nat → Nat) × (Nat → Int32) × (Nat → Option Nat) × (Nat → Option Nat) × (Nat → Option Nat)
abbrev tK (T : TR) (i : Nat) : Int32 := T.1 i
abbrev tU (T : TR) (i : Nat) : Option Nat := T.2.1 i
abbrev tD (T : TR) (i : Nat) : Nat := T.2.2.1 i
abbrev tV (T : TR) (i : Nat) : Int32 := T.2.2.2.1 i
abbrev tF (T : TR) (i : Nat) : Option Nat := T.2.2.2.2.1 i
abbrev tL (T : TR) (i : Nat) : Option Nat := T.2.2.2.2.2.1 i
abbrev tN (T : TR) (i : Nat) : Option Nat := T.2.2.2.2.2.2 i
/-- a reference to a node, or null -/
def orf (ob : Nat → Nat) (o : Option Nat) : Value := va_rf (o.map (fun i => ob (1000 + i)))
def nodeC (ob : Nat → Nat) (T : TR) (i : Nat) (fr to at9 on : Int32) : va_E := .inr (0, [.int (nI i), .int (tK T i), orf ob (tU T i), .int (nI (tD T i)), .int fr, .int to, .int (tV T i), orf ob (tF T i), orf ob (tL T i), orf ob (tN T i), .int at9, .int on])
def NodesI (ob : Nat → Nat) (T : TR) (n : Nat) (dom : Nat → Prop) (loc : Nat → Nat) (val : Nat → va_E) : Prop := n ≤ 300 ∧ ∀ i, i < n → dom (1000 + i) ∧ loc (1000 + i) = ob (1000 + i) ∧ ∃ fr to at9 on, val (1000 + i) = nodeC ob T i fr to at9 on
/-- chains go up in number; what a node holds is one deeper -/
def TreeI (T : TR) (n : Nat) : Prop := (∀ i j, i < n → tN T i = some j → i < j ∧ j < n ∧ tD T j = tD T i) ∧ (∀ i j, i < n → tF T i = some j → i < j ∧ j < n ∧ tD T j = tD T i + 1) ∧ (∀ i, i < n → 1 ≤ tD T i ∧ tD T i ≤ 12)
variable {cI : ClassId} {ob : Nat → Nat} {T : TR} {n : Nat} {dom : Nat → Prop} {loc : Nat → Nat} {val : Nat → va_E} {lo : Nat → Nat} {va : Nat → va_E} {td w c a al nl pf tl ph : Nat}
theorem NodesI.fr (h : NodesI ob T n dom loc val) (hf : frL loc val lo va) : NodesI ob T n dom lo va := ⟨h.1, fun i hi => by
  have h1 := h.1
  obtain ⟨g1, g2, fr, to, at9, on, g3⟩ := h.2 i hi
  have hk := hf (1000 + i) (by omega) (by omega)
  exact ⟨g1, hk.1.trans g2, fr, to, at9, on, hk.2.trans g3⟩⟩
/-- all but the layout and the nodes is as it was -/
def frN (loc : Nat → Nat) (val : Nat → va_E) (lo : Nat → Nat) (va : Nat → va_E) : Prop := ∀ k, ¬ (3 ≤ k ∧ k ≤ 46) → k ≠ 2000 → ¬ (1000 ≤ k ∧ k < 1300) → lo k = loc k ∧ va k = val k
theorem frN.rf : frN loc val loc val := fun _ _ _ _ => ⟨rfl, rfl⟩
theorem frN.trans {l2 l3 : Nat → Nat} {v2 v3 : Nat → va_E} (h : frN loc val l2 v2) (h2 : frN l2 v2 l3 v3) : frN loc val l3 v3 := fun k x y z => ⟨(h2 k x y z).1.trans (h k x y z).1, (h2 k x y z).2.trans (h k x y z).2⟩
theorem frL.toN (h : frL loc val lo va) : frN loc val lo va := fun k x y _ => h k x y
/-- a node's number of a line is put -/
theorem node_put (hS : LayS cI ob td w c a al nl pf tl ph dom loc val) (hN : NodesI ob T n dom loc val) {i : Nat} (hi : i < n) (fr to at9 on : Int32) : LayS cI ob td w c a al nl pf tl ph dom loc (va_up val (1000 + i) (nodeC ob T i fr to at9 on)) ∧ NodesI ob T n dom loc (va_up val (1000 + i) (nodeC ob T i fr to at9 on)) ∧ frN loc val loc (va_up val (1000 + i) (nodeC ob T i fr to at9 on)) := by
  have h300 := hN.1
  refine ⟨?_, ⟨h300, fun k hk => ?_⟩, fun k _ _ z => ⟨rfl, va_up_ne _ _ (by omega)⟩⟩
  · obtain ⟨rs, sh, ⟨⟨h1, hn⟩, h2, h3, h4, h5⟩, hrest⟩ := hS
    have sheet : ∀ t, t ≤ 46 → SheetI ob sh dom loc val t → SheetI ob sh dom loc (va_up val (1000 + i) (nodeC ob T i fr to at9 on)) t := fun t ht z => ⟨z.1, z.2.1, kup_ne (by omega) z.2.2⟩
    refine ⟨rs, sh, ⟨⟨fun j hj => ?_, hn⟩, sheet 5 (by omega) h2, sheet 30 (by omega) h3, ⟨h4.1, h4.2.1, kup_ne (by omega) h4.2.2⟩, h5⟩, hrest⟩
    obtain ⟨g1, g2, g3, g4, g5⟩ := h1 j hj
    have hin := RK_in j hj
    exact ⟨g1, g2, g3, g4.kept (va_up_ne _ _ (by omega)) rfl (va_up_ne _ _ (by omega)), g5⟩
  · obtain ⟨g1, g2, f2, t2, a2, o2, g3⟩ := hN.2 k hk
    by_cases e : k = i
    · subst e
      exact ⟨g1, g2, fr, to, at9, on, va_up_self _ _ _⟩
    · exact ⟨g1, g2, f2, t2, a2, o2, kup_ne (by omega) g3⟩
/-- how far a chain can still go -/
def om (n : Nat) (o : Option Nat) : Nat := match o with
  | none => 0
  | some j => n - j
theorem om_next (hT : TreeI T n) {j k : Nat} (hj : j < n) (h : om n (some j) < k + 1) : om n (tN T j) < k := by
  have h1 : n - j < k + 1 := h
  cases hq : tN T j with
  | none => show 0 < k; omega
  | some e =>
    have := hT.1 j e hj hq
    show n - e < k
    omega
def oneOf (k s : Int32) : Int32 := if k < 0 then 0 else if 10 < k then 0 else if ¬ (s >>> (k &&& 31)) &&& 1 = 1 then 0 else 1
theorem oneOf_nar {x y : Int32} : narrow .boolean (.int (oneOf x y)) = .int (oneOf x y) := by
  unfold oneOf
  split
  · rfl
  · split
    · rfl
    · split <;> rfl
end KN0
end
section
theorem c_P_isOneOf {l : Launch} {D : va_G} {A : Nat → Prop} {cI cB cZ cJ cN : ClassId} {dom : Nat → Prop} {loc : Nat → Nat} {val : Nat → va_E} (x y : Int32) : kM l y_P_isOneOf (Cond.code y_P_isOneOf b_P_isOneOf 2 (some FieldType.boolean) :: TT) (rmL 1) D CL (TY cI cB cZ cJ cN) A [.int x, .int y] dom loc val (fun rv d lo va kc ns => rv = some (.int (oneOf x y)) ∧ dom = d ∧ loc = lo ∧ val = va ∧ kc = 0 ∧ ns = 0) := by
  refine kM_of (lv0 := [some (.int x), some (.int y)]) (own := "ProsePages") (by decide) rfl (List.forall_mem_cons.mpr ⟨rfl, List.forall_mem_cons.mpr ⟨rfl, fun _ h => nomatch h⟩⟩) (Nat.le_of_ble_eq_true rfl) rfl (Nat.le_of_ble_eq_true rfl) (fun X hl hX hE hin0 => ?_)
  refine v_iload_n hX d_P_isOneOf_0 rfl rfl ?_
  refine v_if_lt hX d_P_isOneOf_1 (tgt := 23) (by decide) (fun c1 => ?_) (fun c1 => ?_)
  · refine v_iconst (v := 0) hX d_P_isOneOf_23 (by decide) ?_
    exact v_zret hX hE (by first | decide | rfl | exact oneOf_nar | exact blk_nar | exact inl_nar | assumption) d_P_isOneOf_24 (Nat.le_of_ble_eq_true rfl) (Nat.le_of_ble_eq_true rfl) ⟨by simp [oneOf, c1], rfl, rfl, rfl, rfl, rfl⟩
  · refine v_iload_n hX d_P_isOneOf_4 rfl rfl ?_
    refine v_bipush (v := 10) hX d_P_isOneOf_5 (by decide) ?_
    refine v_icmp_gt hX d_P_isOneOf_7 (tgt := 23) (by decide) (fun c7 => ?_) (fun c7 => ?_)
    · refine v_iconst (v := 0) hX d_P_isOneOf_23 (by decide) ?_
      exact v_zret hX hE (by first | decide | rfl | exact oneOf_nar | exact blk_nar | exact inl_nar | assumption) d_P_isOneOf_24 (Nat.le_of_ble_eq_true rfl) (Nat.le_of_ble_eq_true rfl) ⟨by simp [oneOf, c1, c7], rfl, rfl, rfl, rfl, rfl⟩
    · refine v_iload_n hX d_P_isOneOf_10 rfl rfl ?_
      refine v_iload_n hX d_P_isOneOf_11 rfl rfl ?_
      refine v_ishr hX d_P_isOneOf_12 ?_
      refine v_iconst (v := 1) hX d_P_isOneOf_13 (by decide) ?_
      refine v_iand hX d_P_isOneOf_14 ?_
      refine v_iconst (v := 1) hX d_P_isOneOf_15 (by decide) ?_
      refine v_icmp_ne hX d_P_isOneOf_16 (tgt := 23) (by decide) (fun c16 => ?_) (fun c16 => ?_)
      · refine v_iconst (v := 0) hX d_P_isOneOf_23 (by decide) ?_
        exact v_zret hX hE (by first | decide | rfl | exact oneOf_nar | exact blk_nar | exact inl_nar | assumption) d_P_isOneOf_24 (Nat.le_of_ble_eq_true rfl) (Nat.le_of_ble_eq_true rfl) ⟨by simp [oneOf, c1, c7, c16], rfl, rfl, rfl, rfl, rfl⟩
      · refine v_iconst (v := 1) hX d_P_isOneOf_19 (by decide) ?_
        refine v_goto hX d_P_isOneOf_20 (tgt := 24) (by decide) ?_
        exact v_zret hX hE (by first | decide | rfl | exact oneOf_nar | exact blk_nar | exact inl_nar | assumption) d_P_isOneOf_24 (Nat.le_of_ble_eq_true rfl) (Nat.le_of_ble_eq_true rfl) ⟨by simp [oneOf, c1, c7, c16], rfl, rfl, rfl, rfl, rfl⟩
set_option maxHeartbeats 4000000 in
set_option maxRecDepth 100000 in
theorem c_N_isInline {l : Launch} {D : va_G} {A : Nat → Prop} {cI cB cZ cJ cN : ClassId} {ob : Nat → Nat} {dom : Nat → Prop} {loc : Nat → Nat} {val : Nat → va_E} {T : TR} {n : Nat} (hN : NodesI ob T n dom loc val) (hT : TreeI T n) {i : Nat} (hi : i < n) : kM l y_N_isInline (Cond.code y_N_isInline b_N_isInline 1 (some FieldType.boolean) :: TT) (rmL 2) D CL (TY cI cB cZ cJ cN) A [.ref (ob (1000 + i))] dom loc val (fun rv d lo va kc ns => rv = some (.int (oneOf (tK T i) 1792)) ∧ dom = d ∧ loc = lo ∧ val = va ∧ kc = 0 ∧ ns = 0) := by
  refine kM_of (lv0 := [some (.ref (ob (1000 + i)))]) (own := "ProsePages$Node") (by decide) rfl (List.forall_mem_cons.mpr ⟨rfl, fun _ h => nomatch h⟩) (Nat.le_of_ble_eq_true rfl) rfl (Nat.le_of_ble_eq_true rfl) (fun X hl hX hE hin0 => ?_)
  refine v_aload_n hX d_N_isInline_0 rfl rfl ?_
  refine v_get hX (1000 + i) (v := .int (tK T i)) inT0 (hN.2 i hi).1 (hN.2 i hi).2.1 (hN.2 i hi).2.2.choose_spec.choose_spec.choose_spec.choose_spec rfl 1 (by decide) fl_N_18 rfl rfl d_N_isInline_1 ?_
  refine v_sipush (v := 1792) hX d_N_isInline_4 (by decide) ?_
  refine c_SN hX (rest := []) hl (c_P_isOneOf (tK T i) 1792) (host := "ProsePages") (by decide) sm_P_isOneOf in_P cd_P_isOneOf q_P_isOneOf ⟨(Nat.le_of_ble_eq_true rfl), (Nat.le_of_ble_eq_true rfl)⟩ rfl rfl rfl (Nat.le_of_ble_eq_true rfl) d_N_isInline_7 ⟨(Nat.le_of_ble_eq_true rfl), (Nat.le_of_ble_eq_true rfl)⟩ (fun rv d2 lo2 va2 kc ns hp => ?_)
  obtain ⟨rfl, rfl, rfl, rfl, rfl, rfl⟩ := hp
  show V X D CL A _ _ _ _ _ _ _ (.int (oneOf (tK T i) 1792) :: [])
  exact v_zret hX hE (by first | decide | rfl | exact oneOf_nar | exact blk_nar | exact inl_nar | assumption) d_N_isInline_10 (Nat.le_of_ble_eq_true rfl) (Nat.le_of_ble_eq_true rfl) ⟨rfl, rfl, rfl, rfl, rfl, rfl⟩
set_option maxHeartbeats 4000000 in
set_option maxRecDepth 100000 in
theorem c_N_lastOfPart {l : Launch} {D : va_G} {A : Nat → Prop} {cI cB cZ cJ cN : ClassId} {ob : Nat → Nat} {dom : Nat → Prop} {loc : Nat → Nat} {val : Nat → va_E} {T : TR} {n : Nat} (hN : NodesI ob T n dom loc val) (hT : TreeI T n) {i : Nat} (hi : i < n) : kM l y_N_lastOfPart (Cond.code y_N_lastOfPart b_N_lastOfPart 2 (some (FieldType.object "ProsePages$Node")) :: TT) (rmL 3) D CL (TY cI cB cZ cJ cN) A [.ref (ob (1000 + i))] dom loc val (fun rv d lo va kc ns => (∃ e, e < n ∧ tD T e = tD T i ∧ rv = some (.ref (ob (1000 + e)))) ∧ dom = d ∧ loc = lo ∧ val = va ∧ kc = 0 ∧ ns = 0) := by
  refine kM_of (lv0 := [some (.ref (ob (1000 + i))), none]) (own := "ProsePages$Node") (by decide) rfl (List.forall_mem_cons.mpr ⟨rfl, fun _ h => nomatch h⟩) (Nat.le_of_ble_eq_true rfl) rfl (Nat.le_of_ble_eq_true rfl) (fun X hl hX hE hin0 => ?_)
  refine v_aload_n hX d_N_lastOfPart_0 rfl rfl ?_
  refine v_astore_n (lv' := [some (.ref (ob (1000 + i))), some (.ref (ob (1000 + i)))]) hX d_N_lastOfPart_1 rfl (Nat.le_of_ble_eq_true rfl) rfl ?_
  have loop : ∀ (m9 : Nat) (e : Nat), n - e < m9 → e < n → tD T e = tD T i → V X D CL A dom loc val (0) (0) 2 [some (.ref (ob (1000 + i))), some (.ref (ob (1000 + e)))] [] := by
    intro m9
    induction m9 with
    | zero => intro e hk he hd; exact absurd hk (Nat.not_lt_zero _)
    | succ m9 ih =>
      intro e hk he hd
      refine v_aload_n hX d_N_lastOfPart_2 rfl rfl ?_
      refine c_V hX (1000 + i) (rest := []) hl (c_N_isInline hN hT hi) ml_N_50 im_N_isInline se_N_isInline in_N cd_N_isInline rfl q_N_isInline ⟨(Nat.le_of_ble_eq_true rfl), (Nat.le_of_ble_eq_true rfl)⟩ (hN.2 i hi).1 (hN.2 i hi).2.1 (hN.2 i hi).2.2.choose_spec.choose_spec.choose_spec.choose_spec rfl rfl rfl rfl (Nat.le_of_ble_eq_true rfl) d_N_lastOfPart_3 ⟨(Nat.le_of_ble_eq_true rfl), (Nat.le_of_ble_eq_true rfl)⟩ (fun rv d2 lo2 va2 kc ns hp => ?_)
      obtain ⟨rfl, rfl, rfl, rfl, rfl, rfl⟩ := hp
      show V X D CL A _ _ _ _ _ _ _ (.int (oneOf (tK T i) 1792) :: [])
      refine v_if_eq hX d_N_lastOfPart_6 (tgt := 34) (by decide) (fun c6 => ?_) (fun c6 => ?_)
      · refine v_aload_n hX d_N_lastOfPart_34 rfl rfl ?_
        exact v_aret hX hE (some (ob (1000 + e))) d_N_lastOfPart_35 (Nat.le_of_ble_eq_true rfl) (Nat.le_of_ble_eq_true rfl) ⟨⟨e, he, hd, rfl⟩, rfl, rfl, rfl, rfl, rfl⟩
      · refine v_aload_n hX d_N_lastOfPart_9 rfl rfl ?_
        refine v_get hX (1000 + e) (v := orf ob (tN T e)) inT0 (hN.2 e he).1 (hN.2 e he).2.1 (hN.2 e he).2.2.choose_spec.choose_spec.choose_spec.choose_spec rfl 9 (by decide) fl_N_47 rfl rfl d_N_lastOfPart_10 ?_
        rcases hq1 : (tN T e) with _ | j1
        · refine v_ifnull hX none d_N_lastOfPart_13 (tgt := 34) (by decide) (fun _ => ?_) (fun _ h => nomatch h)
          refine v_aload_n hX d_N_lastOfPart_34 rfl rfl ?_
          exact v_aret hX hE (some (ob (1000 + e))) d_N_lastOfPart_35 (Nat.le_of_ble_eq_true rfl) (Nat.le_of_ble_eq_true rfl) ⟨⟨e, he, hd, rfl⟩, rfl, rfl, rfl, rfl, rfl⟩
        · have ht_j1 := hT.1 e j1 he hq1
          refine v_ifnull hX (some (ob (1000 + j1))) d_N_lastOfPart_13 (tgt := 34) (by decide) (fun h => nomatch h) (fun _ _ => ?_)
          refine v_aload_n hX d_N_lastOfPart_16 rfl rfl ?_
          refine v_get hX (1000 + e) (v := .ref (ob (1000 + j1))) inT0 (hN.2 e he).1 (hN.2 e he).2.1 (hN.2 e he).2.2.choose_spec.choose_spec.choose_spec.choose_spec rfl 9 (by decide) fl_N_47 rfl (by show some (orf ob (tN T e)) = _; rw [hq1]; rfl) d_N_lastOfPart_17 ?_
          refine c_V hX (1000 + j1) (rest := []) hl (c_N_isInline hN hT ht_j1.2.1) ml_N_50 im_N_isInline se_N_isInline in_N cd_N_isInline rfl q_N_isInline ⟨(Nat.le_of_ble_eq_true rfl), (Nat.le_of_ble_eq_true rfl)⟩ (hN.2 j1 ht_j1.2.1).1 (hN.2 j1 ht_j1.2.1).2.1 (hN.2 j1 ht_j1.2.1).2.2.choose_spec.choose_spec.choose_spec.choose_spec rfl rfl rfl rfl (Nat.le_of_ble_eq_true rfl) d_N_lastOfPart_20 ⟨(Nat.le_of_ble_eq_true rfl), (Nat.le_of_ble_eq_true rfl)⟩ (fun rv d2 lo2 va2 kc ns hp => ?_)
          obtain ⟨rfl, rfl, rfl, rfl, rfl, rfl⟩ := hp
          show V X D CL A _ _ _ _ _ _ _ (.int (oneOf (tK T j1) 1792) :: [])
          refine v_if_eq hX d_N_lastOfPart_23 (tgt := 34) (by decide) (fun c23 => ?_) (fun c23 => ?_)
          · refine v_aload_n hX d_N_lastOfPart_34 rfl rfl ?_
            exact v_aret hX hE (some (ob (1000 + e))) d_N_lastOfPart_35 (Nat.le_of_ble_eq_true rfl) (Nat.le_of_ble_eq_true rfl) ⟨⟨e, he, hd, rfl⟩, rfl, rfl, rfl, rfl, rfl⟩
          · refine v_aload_n hX d_N_lastOfPart_26 rfl rfl ?_
            refine v_get hX (1000 + e) (v := .ref (ob (1000 + j1))) inT0 (hN.2 e he).1 (hN.2 e he).2.1 (hN.2 e he).2.2.choose_spec.choose_spec.choose_spec.choose_spec rfl 9 (by decide) fl_N_47 rfl (by show some (orf ob (tN T e)) = _; rw [hq1]; rfl) d_N_lastOfPart_27 ?_
            refine v_astore_n (lv' := [some (.ref (ob (1000 + i))), some (.ref (ob (1000 + j1)))]) hX d_N_lastOfPart_30 rfl (Nat.le_of_ble_eq_true rfl) rfl ?_
            refine v_goto hX d_N_lastOfPart_31 (tgt := 2) (by decide) ?_
            exact ih j1 (by omega) ht_j1.2.1 (ht_j1.2.2.trans hd)
  exact loop _ _ (Nat.lt_succ_self _) hi rfl
end
section
set_option maxHeartbeats 4000000 in
set_option maxRecDepth 100000 in
theorem c_S_hasWords {l : Launch} {D : va_G} {A : Nat → Prop} {cI cB cZ cJ cN : ClassId} {ob : Nat → Nat} {td w c a al nl pf tl ph : Nat} {dom : Nat → Prop} {loc : Nat → Nat} {val : Nat → va_E} (hS : LayS cI ob td w c a al nl pf tl ph dom loc val) (x y : Int32) : kM l y_S_hasWords (Cond.code y_S_hasWords b_S_hasWords 4 (some FieldType.boolean) :: TT) (rmP 2 ph) D CL (TY cI cB cZ cJ cN) A [.ref (ob 2), .int x, .int y] dom loc val (fun rv d lo va kc ns => (∃ v, rv = some (.int v) ∧ narrow .boolean (.int v) = .int v) ∧ dom = d ∧ loc = lo ∧ val = va ∧ kc = 0 ∧ ns = 0) := by
  refine kM_of (lv0 := [some (.ref (ob 2)), some (.int x), some (.int y), none]) (own := "ProsePages$Setter") (by decide) rfl (List.forall_mem_cons.mpr ⟨rfl, List.forall_mem_cons.mpr ⟨rfl, List.forall_mem_cons.mpr ⟨rfl, fun _ h => nomatch h⟩⟩⟩) (Nat.le_of_ble_eq_true rfl) rfl (Nat.le_of_ble_eq_true rfl) (fun X hl hX hE hin0 => ?_)
  have hP : 0 + ph ≤ ph ∧ 16 * 0 + ph ≤ ph := ⟨by omega, by omega⟩
  have hx : ph ≤ 2663816 := hS.phi
  refine v_iload_n hX d_S_hasWords_0 rfl rfl ?_
  refine v_istore_n (lv' := [some (.ref (ob 2)), some (.int x), some (.int y), some (.int x)]) hX d_S_hasWords_1 rfl (Nat.le_of_ble_eq_true rfl) rfl ?_
  have loop : ∀ (m9 : Nat) (k : Int32), (y.toInt - k.toInt).toNat < m9 → V X D CL A dom loc val (0) (0) 2 [some (.ref (ob 2)), some (.int x), some (.int y), some (.int k)] [] := by
    intro m9
    induction m9 with
    | zero => intro k hk; exact absurd hk (Nat.not_lt_zero _)
    | succ m9 ih =>
      intro k hk
      refine v_iload_n hX d_S_hasWords_2 rfl rfl ?_
      refine v_iload_n hX d_S_hasWords_3 rfl rfl ?_
      refine v_icmp_ge hX d_S_hasWords_4 (tgt := 29) (by decide) (fun c4 => ?_) (fun c4 => ?_)
      · refine v_iconst (v := 0) hX d_S_hasWords_29 (by decide) ?_
        exact v_zret hX hE (by first | decide | rfl | exact oneOf_nar | exact blk_nar | exact inl_nar | assumption) d_S_hasWords_30 (by have a := hP.2; have b := hx; show _ ≤ 120 + (2663816 - ph) / 16; omega) (by have a := hP.1; have b := hx; show _ ≤ 700000 + (2663816 - ph); omega) ⟨⟨_, rfl, by first | decide | assumption⟩, rfl, rfl, rfl, rfl, rfl⟩
      · refine v_aload_n hX d_S_hasWords_7 rfl rfl ?_
        refine v_get hX 2 (v := .ref (ob 3)) inT2 hS.set.1 hS.set.2.1 hS.set.2.2 rfl 0 (by decide) fl_S_12 rfl rfl d_S_hasWords_8 ?_
        refine v_iload_n hX d_S_hasWords_11 rfl rfl ?_
        refine c_V hX 3 (rest := []) hl (S_get hS 3 (by decide) k) ml_S_125 im_R_get se_R_get in_R cd_R_get rfl q_R_get ⟨(Nat.le_of_ble_eq_true rfl), (Nat.le_of_ble_eq_true rfl)⟩ (hS.row 3 (by decide)).1 (hS.row 3 (by decide)).2.1 (hS.row 3 (by decide)).2.2.choose_spec rfl rfl rfl rfl (Nat.le_of_ble_eq_true rfl) d_S_hasWords_12 ⟨by have a := hP.2; have b := hx; show _ + 100 ≤ 120 + (2663816 - ph) / 16; omega, by have a := hP.1; have b := hx; show _ + 200000 ≤ 700000 + (2663816 - ph); omega⟩ (fun rv d2 lo2 va2 kc ns hp => ?_)
        obtain ⟨⟨v1, rfl⟩, rfl, rfl, rfl, rfl, rfl⟩ := hp
        show V X D CL A _ _ _ _ _ _ _ (.int v1 :: [])
        refine c_SN hX (rest := []) hl (c_P_isWhite v1) (host := "ProsePages") (by decide) sm_P_isWhite in_P cd_P_isWhite q_P_isWhite ⟨(Nat.le_of_ble_eq_true rfl), (Nat.le_of_ble_eq_true rfl)⟩ rfl rfl rfl (Nat.le_of_ble_eq_true rfl) d_S_hasWords_15 ⟨by have a := hP.2; have b := hx; show _ + 100 ≤ 120 + (2663816 - ph) / 16; omega, by have a := hP.1; have b := hx; show _ + 200000 ≤ 700000 + (2663816 - ph); omega⟩ (fun rv d2 lo2 va2 kc ns hp => ?_)
        obtain ⟨⟨v2, rfl⟩, rfl, rfl, rfl, rfl, rfl⟩ := hp
        show V X D CL A _ _ _ _ _ _ _ (.int v2 :: [])
        refine v_if_ne hX d_S_hasWords_18 (tgt := 23) (by decide) (fun c18 => ?_) (fun c18 => ?_)
        · refine v_iinc (y := (k + 1)) (lv' := [some (.ref (ob 2)), some (.int x), some (.int y), some (.int (k + 1))]) hX d_S_hasWords_23 rfl (by rfl) rfl ?_
          refine v_goto hX d_S_hasWords_26 (tgt := 2) (by decide) ?_
          exact ih _ (iter_lt (Int32.not_le.mp c4) hk)
        · refine v_iconst (v := 1) hX d_S_hasWords_21 (by decide) ?_
          exact v_zret hX hE (by first | decide | rfl | exact oneOf_nar | exact blk_nar | exact inl_nar | assumption) d_S_hasWords_22 (by have a := hP.2; have b := hx; show _ ≤ 120 + (2663816 - ph) / 16; omega) (by have a := hP.1; have b := hx; show _ ≤ 700000 + (2663816 - ph); omega) ⟨⟨_, rfl, by first | decide | assumption⟩, rfl, rfl, rfl, rfl, rfl⟩
  exact loop _ _ (Nat.lt_succ_self _)
set_option maxHeartbeats 4000000 in
set_option maxRecDepth 100000 in
theorem c_S_holdsPar {l : Launch} {D : va_G} {A : Nat → Prop} {cI cB cZ cJ cN : ClassId} {ob : Nat → Nat} {td w c a al nl pf tl ph : Nat} {dom : Nat → Prop} {loc : Nat → Nat} {val : Nat → va_E} (hS : LayS cI ob td w c a al nl pf tl ph dom loc val) {T : TR} {n : Nat} (hN : NodesI ob T n dom loc val) (hT : TreeI T n) {i : Nat} (hi : i < n) : kM l y_S_holdsParagraph (Cond.code y_S_holdsParagraph b_S_holdsParagraph 3 (some FieldType.boolean) :: TT) (rmP 3 ph) D CL (TY cI cB cZ cJ cN) A [.ref (ob 2), .ref (ob (1000 + i))] dom loc val (fun rv d lo va kc ns => (∃ v, rv = some (.int v) ∧ narrow .boolean (.int v) = .int v) ∧ dom = d ∧ loc = lo ∧ val = va ∧ kc = 0 ∧ ns = 0) := by
  refine kM_of (lv0 := [some (.ref (ob 2)), some (.ref (ob (1000 + i))), none]) (own := "ProsePages$Setter") (by decide) rfl (List.forall_mem_cons.mpr ⟨rfl, List.forall_mem_cons.mpr ⟨rfl, fun _ h => nomatch h⟩⟩) (Nat.le_of_ble_eq_true rfl) rfl (Nat.le_of_ble_eq_true rfl) (fun X hl hX hE hin0 => ?_)
  have hP : 0 + ph ≤ ph ∧ 16 * 0 + ph ≤ ph := ⟨by omega, by omega⟩
  have hx : ph ≤ 2663816 := hS.phi
  refine v_aload_n hX d_S_holdsParagraph_0 rfl rfl ?_
  refine v_get hX (1000 + i) (v := orf ob (tF T i)) inT0 (hN.2 i hi).1 (hN.2 i hi).2.1 (hN.2 i hi).2.2.choose_spec.choose_spec.choose_spec.choose_spec rfl 7 (by decide) fl_S_51 rfl rfl d_S_holdsParagraph_1 ?_
  refine v_astore_nQ (lv' := [some (.ref (ob 2)), some (.ref (ob (1000 + i))), some (orf ob (tF T i))]) hX ((tF T i).map (fun i => ob (1000 + i))) d_S_holdsParagraph_4 rfl (Nat.le_of_ble_eq_true rfl) rfl ?_
  have loop : ∀ (m9 : Nat) (o : Option Nat), om n o < m9 → (∀ j, o = some j → j < n) → V X D CL A dom loc val (0) (0) 5 [some (.ref (ob 2)), some (.ref (ob (1000 + i))), some (orf ob o)] [] := by
    intro m9
    induction m9 with
    | zero => intro o hk hO; exact absurd hk (Nat.not_lt_zero _)
    | succ m9 ih =>
      intro o hk hO
      refine v_aload_nQ hX (o.map (fun i => ob (1000 + i))) d_S_holdsParagraph_5 rfl rfl ?_
      rcases hq1 : o with _ | j1
      · refine v_ifnull hX none d_S_holdsParagraph_6 (tgt := 41) (by decide) (fun _ => ?_) (fun _ h => nomatch h)
        refine v_iconst (v := 0) hX d_S_holdsParagraph_41 (by decide) ?_
        exact v_zret hX hE (by first | decide | rfl | exact oneOf_nar | exact blk_nar | exact inl_nar | assumption) d_S_holdsParagraph_42 (by have a := hP.2; have b := hx; show _ ≤ 120 + (2663816 - ph) / 16; omega) (by have a := hP.1; have b := hx; show _ ≤ 700000 + (2663816 - ph); omega) ⟨⟨_, rfl, by first | decide | assumption⟩, rfl, rfl, rfl, rfl, rfl⟩
      · have ht_j1 : j1 < n := hO j1 hq1
        refine v_ifnull hX (some (ob (1000 + j1))) d_S_holdsParagraph_6 (tgt := 41) (by decide) (fun h => nomatch h) (fun _ _ => ?_)
        refine v_aload_n hX d_S_holdsParagraph_9 rfl rfl ?_
        refine v_get hX (1000 + j1) (v := .int (tK T j1)) inT0 (hN.2 j1 ht_j1).1 (hN.2 j1 ht_j1).2.1 (hN.2 j1 ht_j1).2.2.choose_spec.choose_spec.choose_spec.choose_spec rfl 1 (by decide) fl_S_41 rfl rfl d_S_holdsParagraph_10 ?_
        refine v_if_ne hX d_S_holdsParagraph_13 (tgt := 33) (by decide) (fun c13 => ?_) (fun c13 => ?_)
        · refine v_aload_n hX d_S_holdsParagraph_33 rfl rfl ?_
          refine v_get hX (1000 + j1) (v := orf ob (tN T j1)) inT0 (hN.2 j1 ht_j1).1 (hN.2 j1 ht_j1).2.1 (hN.2 j1 ht_j1).2.2.choose_spec.choose_spec.choose_spec.choose_spec rfl 9 (by decide) fl_S_70 rfl rfl d_S_holdsParagraph_34 ?_
          refine v_astore_nQ (lv' := [some (.ref (ob 2)), some (.ref (ob (1000 + i))), some (orf ob (tN T j1))]) hX ((tN T j1).map (fun i => ob (1000 + i))) d_S_holdsParagraph_37 rfl (Nat.le_of_ble_eq_true rfl) rfl ?_
          refine v_goto hX d_S_holdsParagraph_38 (tgt := 5) (by decide) ?_
          exact ih (tN T j1) (om_next hT ht_j1 (by rw [hq1] at hk; exact hk)) (fun e he => (hT.1 j1 e ht_j1 he).2.1)
        · refine v_aload_n hX d_S_holdsParagraph_16 rfl rfl ?_
          refine v_aload_n hX d_S_holdsParagraph_17 rfl rfl ?_
          refine v_get hX (1000 + j1) (v := .int ((hN.2 j1 ht_j1).2.2.choose)) inT0 (hN.2 j1 ht_j1).1 (hN.2 j1 ht_j1).2.1 (hN.2 j1 ht_j1).2.2.choose_spec.choose_spec.choose_spec.choose_spec rfl 4 (by decide) fl_S_83 rfl rfl d_S_holdsParagraph_18 ?_
          refine v_aload_n hX d_S_holdsParagraph_21 rfl rfl ?_
          refine v_get hX (1000 + j1) (v := .int ((hN.2 j1 ht_j1).2.2.choose_spec.choose)) inT0 (hN.2 j1 ht_j1).1 (hN.2 j1 ht_j1).2.1 (hN.2 j1 ht_j1).2.2.choose_spec.choose_spec.choose_spec.choose_spec rfl 5 (by decide) fl_S_86 rfl rfl d_S_holdsParagraph_22 ?_
          refine c_V hX 2 (rest := []) hl (c_S_hasWords hS ((hN.2 j1 ht_j1).2.2.choose) ((hN.2 j1 ht_j1).2.2.choose_spec.choose)) ml_S_170 im_S_hasWords se_S_hasWords in_S cd_S_hasWords rfl q_S_hasWords ⟨(Nat.le_of_ble_eq_true rfl), (Nat.le_of_ble_eq_true rfl)⟩ hS.set.1 hS.set.2.1 hS.set.2.2 rfl rfl rfl rfl (Nat.le_of_ble_eq_true rfl) d_S_holdsParagraph_25 ⟨by have a := hP.2; have b := hx; show _ + (120 + (2663816 - ph) / 16) ≤ 120 + (2663816 - ph) / 16; omega, by have a := hP.1; have b := hx; show _ + (700000 + (2663816 - ph)) ≤ 700000 + (2663816 - ph); omega⟩ (fun rv d2 lo2 va2 kc ns hp => ?_)
          obtain ⟨⟨v2, rfl, hv2⟩, rfl, rfl, rfl, rfl, rfl⟩ := hp
          show V X D CL A _ _ _ _ _ _ _ (.int v2 :: [])
          refine v_if_eq hX d_S_holdsParagraph_28 (tgt := 33) (by decide) (fun c28 => ?_) (fun c28 => ?_)
          · refine v_aload_n hX d_S_holdsParagraph_33 rfl rfl ?_
            refine v_get hX (1000 + j1) (v := orf ob (tN T j1)) inT0 (hN.2 j1 ht_j1).1 (hN.2 j1 ht_j1).2.1 (hN.2 j1 ht_j1).2.2.choose_spec.choose_spec.choose_spec.choose_spec rfl 9 (by decide) fl_S_70 rfl rfl d_S_holdsParagraph_34 ?_
            refine v_astore_nQ (lv' := [some (.ref (ob 2)), some (.ref (ob (1000 + i))), some (orf ob (tN T j1))]) hX ((tN T j1).map (fun i => ob (1000 + i))) d_S_holdsParagraph_37 rfl (Nat.le_of_ble_eq_true rfl) rfl ?_
            refine v_goto hX d_S_holdsParagraph_38 (tgt := 5) (by decide) ?_
            exact ih (tN T j1) (om_next hT ht_j1 (by rw [hq1] at hk; exact hk)) (fun e he => (hT.1 j1 e ht_j1 he).2.1)
          · refine v_iconst (v := 1) hX d_S_holdsParagraph_31 (by decide) ?_
            exact v_zret hX hE (by first | decide | rfl | exact oneOf_nar | exact blk_nar | exact inl_nar | assumption) d_S_holdsParagraph_32 (by have a := hP.2; have b := hx; show _ ≤ 120 + (2663816 - ph) / 16; omega) (by have a := hP.1; have b := hx; show _ ≤ 700000 + (2663816 - ph); omega) ⟨⟨_, rfl, by first | decide | assumption⟩, rfl, rfl, rfl, rfl, rfl⟩
  exact loop _ _ (Nat.lt_succ_self _) (fun e he => (hT.2.1 i e hi he).2.1)
end
section
set_option maxHeartbeats 4000000 in
set_option maxRecDepth 100000 in
theorem c_S_holdsLines {l : Launch} {D : va_G} {A : Nat → Prop} {cI cB cZ cJ cN : ClassId} {ob : Nat → Nat} {td w c a al nl pf tl ph : Nat} {dom : Nat → Prop} {loc : Nat → Nat} {val : Nat → va_E} (hS : LayS cI ob td w c a al nl pf tl ph dom loc val) {T : TR} {n : Nat} (hN : NodesI ob T n dom loc val) (hT : TreeI T n) (k : Nat) (H : ∀ i j, i < n → j < n → 13 ≤ tD T i + k → kM l y_S_hasLines (Cond.code y_S_hasLines b_S_hasLines 3 (some FieldType.boolean) :: TT) (rmP (4 + 2 * k) ph) D CL (TY cI cB cZ cJ cN) A [.ref (ob 2), .ref (ob (1000 + i)), .ref (ob (1000 + j))] dom loc val (fun rv d lo va kc ns => (∃ v, rv = some (.int v) ∧ narrow .boolean (.int v) = .int v) ∧ dom = d ∧ loc = lo ∧ val = va ∧ kc = 0 ∧ ns = 0)) {i : Nat} (hi : i < n) (hd : 13 ≤ tD T i + (k + 1)) : kM l y_S_holdsLines (Cond.code y_S_holdsLines b_S_holdsLines 3 (some FieldType.boolean) :: TT) (rmP (5 + 2 * k) ph) D CL (TY cI cB cZ cJ cN) A [.ref (ob 2), .ref (ob (1000 + i))] dom loc val (fun rv d lo va kc ns => (∃ v, rv = some (.int v) ∧ narrow .boolean (.int v) = .int v) ∧ dom = d ∧ loc = lo ∧ val = va ∧ kc = 0 ∧ ns = 0) := by
  refine kM_of (lv0 := [some (.ref (ob 2)), some (.ref (ob (1000 + i))), none]) (own := "ProsePages$Setter") (by decide) rfl (List.forall_mem_cons.mpr ⟨rfl, List.forall_mem_cons.mpr ⟨rfl, fun _ h => nomatch h⟩⟩) (Nat.le_of_ble_eq_true rfl) rfl (Nat.le_of_ble_eq_true rfl) (fun X hl hX hE hin0 => ?_)
  have hP : 0 + ph ≤ ph ∧ 16 * 0 + ph ≤ ph := ⟨by omega, by omega⟩
  have hx : ph ≤ 2663816 := hS.phi
  refine v_aload_n hX d_S_holdsLines_0 rfl rfl ?_
  refine v_get hX (1000 + i) (v := orf ob (tF T i)) inT0 (hN.2 i hi).1 (hN.2 i hi).2.1 (hN.2 i hi).2.2.choose_spec.choose_spec.choose_spec.choose_spec rfl 7 (by decide) fl_S_51 rfl rfl d_S_holdsLines_1 ?_
  refine v_astore_nQ (lv' := [some (.ref (ob 2)), some (.ref (ob (1000 + i))), some (orf ob (tF T i))]) hX ((tF T i).map (fun i => ob (1000 + i))) d_S_holdsLines_4 rfl (Nat.le_of_ble_eq_true rfl) rfl ?_
  have loop : ∀ (m9 : Nat) (o : Option Nat), om n o < m9 → (∀ j, o = some j → j < n ∧ tD T j = tD T i + 1) → V X D CL A dom loc val (0) (0) 5 [some (.ref (ob 2)), some (.ref (ob (1000 + i))), some (orf ob o)] [] := by
    intro m9
    induction m9 with
    | zero => intro o hk hO; exact absurd hk (Nat.not_lt_zero _)
    | succ m9 ih =>
      intro o hk hO
      refine v_aload_nQ hX (o.map (fun i => ob (1000 + i))) d_S_holdsLines_5 rfl rfl ?_
      rcases hq1 : o with _ | j1
      · refine v_ifnull hX none d_S_holdsLines_6 (tgt := 28) (by decide) (fun _ => ?_) (fun _ h => nomatch h)
        refine v_iconst (v := 0) hX d_S_holdsLines_28 (by decide) ?_
        exact v_zret hX hE (by first | decide | rfl | exact oneOf_nar | exact blk_nar | exact inl_nar | assumption) d_S_holdsLines_29 (by have a := hP.2; have b := hx; show _ ≤ 120 + (2663816 - ph) / 16; omega) (by have a := hP.1; have b := hx; show _ ≤ 700000 + (2663816 - ph); omega) ⟨⟨_, rfl, by first | decide | assumption⟩, rfl, rfl, rfl, rfl, rfl⟩
      · have ht_j1 := hO j1 hq1
        refine v_ifnull hX (some (ob (1000 + j1))) d_S_holdsLines_6 (tgt := 28) (by decide) (fun h => nomatch h) (fun _ _ => ?_)
        refine v_aload_n hX d_S_holdsLines_9 rfl rfl ?_
        refine v_aload_n hX d_S_holdsLines_10 rfl rfl ?_
        refine v_aload_n hX d_S_holdsLines_11 rfl rfl ?_
        refine c_V hX 2 (rest := []) hl (H j1 j1 ht_j1.1 ht_j1.1 (by omega)) ml_S_59 im_S_hasLines se_S_hasLines in_S cd_S_hasLines rfl q_S_hasLines ⟨by show 20 * (4 + 2 * k) + 20 + 1 ≤ 20 * (5 + 2 * k) + 20; omega, by show 8 + (3 + 11) + (300 * (4 + 2 * k) + 600) ≤ 300 * (5 + 2 * k) + 600; omega⟩ hS.set.1 hS.set.2.1 hS.set.2.2 rfl rfl rfl rfl (Nat.le_of_ble_eq_true rfl) d_S_holdsLines_12 ⟨by have a := hP.2; have b := hx; show _ + (120 + (2663816 - ph) / 16) ≤ 120 + (2663816 - ph) / 16; omega, by have a := hP.1; have b := hx; show _ + (700000 + (2663816 - ph)) ≤ 700000 + (2663816 - ph); omega⟩ (fun rv d2 lo2 va2 kc ns hp => ?_)
        obtain ⟨⟨v2, rfl, hv2⟩, rfl, rfl, rfl, rfl, rfl⟩ := hp
        show V X D CL A _ _ _ _ _ _ _ (.int v2 :: [])
        refine v_if_eq hX d_S_holdsLines_15 (tgt := 20) (by decide) (fun c15 => ?_) (fun c15 => ?_)
        · refine v_aload_n hX d_S_holdsLines_20 rfl rfl ?_
          refine v_get hX (1000 + j1) (v := orf ob (tN T j1)) inT0 (hN.2 j1 ht_j1.1).1 (hN.2 j1 ht_j1.1).2.1 (hN.2 j1 ht_j1.1).2.2.choose_spec.choose_spec.choose_spec.choose_spec rfl 9 (by decide) fl_S_70 rfl rfl d_S_holdsLines_21 ?_
          refine v_astore_nQ (lv' := [some (.ref (ob 2)), some (.ref (ob (1000 + i))), some (orf ob (tN T j1))]) hX ((tN T j1).map (fun i => ob (1000 + i))) d_S_holdsLines_24 rfl (Nat.le_of_ble_eq_true rfl) rfl ?_
          refine v_goto hX d_S_holdsLines_25 (tgt := 5) (by decide) ?_
          exact ih (tN T j1) (om_next hT ht_j1.1 (by rw [hq1] at hk; exact hk)) (fun e he => ⟨(hT.1 j1 e ht_j1.1 he).2.1, (hT.1 j1 e ht_j1.1 he).2.2.trans ht_j1.2⟩)
        · refine v_iconst (v := 1) hX d_S_holdsLines_18 (by decide) ?_
          exact v_zret hX hE (by first | decide | rfl | exact oneOf_nar | exact blk_nar | exact inl_nar | assumption) d_S_holdsLines_19 (by have a := hP.2; have b := hx; show _ ≤ 120 + (2663816 - ph) / 16; omega) (by have a := hP.1; have b := hx; show _ ≤ 700000 + (2663816 - ph); omega) ⟨⟨_, rfl, by first | decide | assumption⟩, rfl, rfl, rfl, rfl, rfl⟩
  exact loop _ _ (Nat.lt_succ_self _) (fun e he => ⟨(hT.2.1 i e hi he).2.1, (hT.2.1 i e hi he).2.2⟩)
set_option maxHeartbeats 4000000 in
set_option maxRecDepth 100000 in
theorem c_S_hasLines1 {l : Launch} {D : va_G} {A : Nat → Prop} {cI cB cZ cJ cN : ClassId} {ob : Nat → Nat} {td w c a al nl pf tl ph : Nat} {dom : Nat → Prop} {loc : Nat → Nat} {val : Nat → va_E} (hS : LayS cI ob td w c a al nl pf tl ph dom loc val) {T : TR} {n : Nat} (hN : NodesI ob T n dom loc val) (hT : TreeI T n) (k : Nat) (H : ∀ i j, i < n → j < n → 13 ≤ tD T i + k → kM l y_S_hasLines (Cond.code y_S_hasLines b_S_hasLines 3 (some FieldType.boolean) :: TT) (rmP (4 + 2 * k) ph) D CL (TY cI cB cZ cJ cN) A [.ref (ob 2), .ref (ob (1000 + i)), .ref (ob (1000 + j))] dom loc val (fun rv d lo va kc ns => (∃ v, rv = some (.int v) ∧ narrow .boolean (.int v) = .int v) ∧ dom = d ∧ loc = lo ∧ val = va ∧ kc = 0 ∧ ns = 0)) {i j : Nat} (hi : i < n) (hj : j < n) (hd : 13 ≤ tD T i + (k + 1)) : kM l y_S_hasLines (Cond.code y_S_hasLines b_S_hasLines 3 (some FieldType.boolean) :: TT) (rmP (4 + 2 * (k + 1)) ph) D CL (TY cI cB cZ cJ cN) A [.ref (ob 2), .ref (ob (1000 + i)), .ref (ob (1000 + j))] dom loc val (fun rv d lo va kc ns => (∃ v, rv = some (.int v) ∧ narrow .boolean (.int v) = .int v) ∧ dom = d ∧ loc = lo ∧ val = va ∧ kc = 0 ∧ ns = 0) := by
  refine kM_of (lv0 := [some (.ref (ob 2)), some (.ref (ob (1000 + i))), some (.ref (ob (1000 + j)))]) (own := "ProsePages$Setter") (by decide) rfl (List.forall_mem_cons.mpr ⟨rfl, List.forall_mem_cons.mpr ⟨rfl, List.forall_mem_cons.mpr ⟨rfl, fun _ h => nomatch h⟩⟩⟩) (Nat.le_of_ble_eq_true rfl) rfl (Nat.le_of_ble_eq_true rfl) (fun X hl hX hE hin0 => ?_)
  have hP : 0 + ph ≤ ph ∧ 16 * 0 + ph ≤ ph := ⟨by omega, by omega⟩
  have hx : ph ≤ 2663816 := hS.phi
  refine v_aload_n hX d_S_hasLines_0 rfl rfl ?_
  refine v_get hX (1000 + i) (v := .int (tK T i)) inT0 (hN.2 i hi).1 (hN.2 i hi).2.1 (hN.2 i hi).2.2.choose_spec.choose_spec.choose_spec.choose_spec rfl 1 (by decide) fl_S_41 rfl rfl d_S_hasLines_1 ?_
  by_cases hw : ((tK T i)).toInt < 1 ∨ 6 < ((tK T i)).toInt
  · refine v_tableOut hX d_S_hasLines_4 (tgt := 82) hw (by decide) ?_
    refine v_aload_n hX d_S_hasLines_82 rfl rfl ?_
    refine v_aload_n hX d_S_hasLines_83 rfl rfl ?_
    refine v_get hX (1000 + i) (v := .int ((hN.2 i hi).2.2.choose)) inT0 (hN.2 i hi).1 (hN.2 i hi).2.1 (hN.2 i hi).2.2.choose_spec.choose_spec.choose_spec.choose_spec rfl 4 (by decide) fl_S_83 rfl rfl d_S_hasLines_84 ?_
    refine v_aload_n hX d_S_hasLines_87 rfl rfl ?_
    refine v_get hX (1000 + j) (v := .int ((hN.2 j hj).2.2.choose_spec.choose)) inT0 (hN.2 j hj).1 (hN.2 j hj).2.1 (hN.2 j hj).2.2.choose_spec.choose_spec.choose_spec.choose_spec rfl 5 (by decide) fl_S_86 rfl rfl d_S_hasLines_88 ?_
    refine c_V hX 2 (rest := []) hl (c_S_hasWords hS ((hN.2 i hi).2.2.choose) ((hN.2 j hj).2.2.choose_spec.choose)) ml_S_170 im_S_hasWords se_S_hasWords in_S cd_S_hasWords rfl q_S_hasWords ⟨by show 20 * (2) + 20 + 1 ≤ 20 * (4 + 2 * (k + 1)) + 20; omega, by show 8 + (4 + 11) + (300 * (2) + 600) ≤ 300 * (4 + 2 * (k + 1)) + 600; omega⟩ hS.set.1 hS.set.2.1 hS.set.2.2 rfl rfl rfl rfl (Nat.le_of_ble_eq_true rfl) d_S_hasLines_91 ⟨by have a := hP.2; have b := hx; show _ + (120 + (2663816 - ph) / 16) ≤ 120 + (2663816 - ph) / 16; omega, by have a := hP.1; have b := hx; show _ + (700000 + (2663816 - ph)) ≤ 700000 + (2663816 - ph); omega⟩ (fun rv d2 lo2 va2 kc ns hp => ?_)
    obtain ⟨⟨v1, rfl, hv1⟩, rfl, rfl, rfl, rfl, rfl⟩ := hp
    show V X D CL A _ _ _ _ _ _ _ (.int v1 :: [])
    exact v_zret hX hE (by first | decide | rfl | exact oneOf_nar | exact blk_nar | exact inl_nar | assumption) d_S_hasLines_94 (by have a := hP.2; have b := hx; show _ ≤ 120 + (2663816 - ph) / 16; omega) (by have a := hP.1; have b := hx; show _ ≤ 700000 + (2663816 - ph); omega) ⟨⟨_, rfl, by first | decide | assumption⟩, rfl, rfl, rfl, rfl, rfl⟩
  · have hk9 : ((tK T i)).toInt = 1 ∨ ((tK T i)).toInt = 2 ∨ ((tK T i)).toInt = 3 ∨ ((tK T i)).toInt = 4 ∨ ((tK T i)).toInt = 5 ∨ ((tK T i)).toInt = 6 := by omega
    rcases hk9 with hk9 | hk9 | hk9 | hk9 | hk9 | hk9
    · refine v_tableIn hX d_S_hasLines_4 (tgt := 44) (by omega) (by omega) (off := 40) (by rw [hk9]; rfl) (by decide) ?_
      refine v_iconst (v := 1) hX d_S_hasLines_44 (by decide) ?_
      exact v_zret hX hE (by first | decide | rfl | exact oneOf_nar | exact blk_nar | exact inl_nar | assumption) d_S_hasLines_45 (by have a := hP.2; have b := hx; show _ ≤ 120 + (2663816 - ph) / 16; omega) (by have a := hP.1; have b := hx; show _ ≤ 700000 + (2663816 - ph); omega) ⟨⟨_, rfl, by first | decide | assumption⟩, rfl, rfl, rfl, rfl, rfl⟩
    · refine v_tableIn hX d_S_hasLines_4 (tgt := 44) (by omega) (by omega) (off := 40) (by rw [hk9]; rfl) (by decide) ?_
      refine v_iconst (v := 1) hX d_S_hasLines_44 (by decide) ?_
      exact v_zret hX hE (by first | decide | rfl | exact oneOf_nar | exact blk_nar | exact inl_nar | assumption) d_S_hasLines_45 (by have a := hP.2; have b := hx; show _ ≤ 120 + (2663816 - ph) / 16; omega) (by have a := hP.1; have b := hx; show _ ≤ 700000 + (2663816 - ph); omega) ⟨⟨_, rfl, by first | decide | assumption⟩, rfl, rfl, rfl, rfl, rfl⟩
    · refine v_tableIn hX d_S_hasLines_4 (tgt := 46) (by omega) (by omega) (off := 42) (by rw [hk9]; rfl) (by decide) ?_
      refine v_aload_n hX d_S_hasLines_46 rfl rfl ?_
      refine v_get hX (1000 + i) (v := .int ((hN.2 i hi).2.2.choose_spec.choose)) inT0 (hN.2 i hi).1 (hN.2 i hi).2.1 (hN.2 i hi).2.2.choose_spec.choose_spec.choose_spec.choose_spec rfl 5 (by decide) fl_S_86 rfl rfl d_S_hasLines_47 ?_
      refine v_aload_n hX d_S_hasLines_50 rfl rfl ?_
      refine v_get hX (1000 + i) (v := .int ((hN.2 i hi).2.2.choose)) inT0 (hN.2 i hi).1 (hN.2 i hi).2.1 (hN.2 i hi).2.2.choose_spec.choose_spec.choose_spec.choose_spec rfl 4 (by decide) fl_S_83 rfl rfl d_S_hasLines_51 ?_
      refine v_icmp_le hX d_S_hasLines_54 (tgt := 61) (by decide) (fun c54 => ?_) (fun c54 => ?_)
      · refine v_iconst (v := 0) hX d_S_hasLines_61 (by decide) ?_
        exact v_zret hX hE (by first | decide | rfl | exact oneOf_nar | exact blk_nar | exact inl_nar | assumption) d_S_hasLines_62 (by have a := hP.2; have b := hx; show _ ≤ 120 + (2663816 - ph) / 16; omega) (by have a := hP.1; have b := hx; show _ ≤ 700000 + (2663816 - ph); omega) ⟨⟨_, rfl, by first | decide | assumption⟩, rfl, rfl, rfl, rfl, rfl⟩
      · refine v_iconst (v := 1) hX d_S_hasLines_57 (by decide) ?_
        refine v_goto hX d_S_hasLines_58 (tgt := 62) (by decide) ?_
        exact v_zret hX hE (by first | decide | rfl | exact oneOf_nar | exact blk_nar | exact inl_nar | assumption) d_S_hasLines_62 (by have a := hP.2; have b := hx; show _ ≤ 120 + (2663816 - ph) / 16; omega) (by have a := hP.1; have b := hx; show _ ≤ 700000 + (2663816 - ph); omega) ⟨⟨_, rfl, by first | decide | assumption⟩, rfl, rfl, rfl, rfl, rfl⟩
    · refine v_tableIn hX d_S_hasLines_4 (tgt := 63) (by omega) (by omega) (off := 59) (by rw [hk9]; rfl) (by decide) ?_
      refine v_aload_n hX d_S_hasLines_63 rfl rfl ?_
      refine v_aload_n hX d_S_hasLines_64 rfl rfl ?_
      refine c_V hX 2 (rest := []) hl (c_S_holdsLines hS hN hT k H hi hd) ml_S_167 im_S_holdsLines se_S_holdsLines in_S cd_S_holdsLines rfl q_S_holdsLines ⟨by show 20 * (5 + 2 * k) + 20 + 1 ≤ 20 * (4 + 2 * (k + 1)) + 20; omega, by show 8 + (3 + 11) + (300 * (5 + 2 * k) + 600) ≤ 300 * (4 + 2 * (k + 1)) + 600; omega⟩ hS.set.1 hS.set.2.1 hS.set.2.2 rfl rfl rfl rfl (Nat.le_of_ble_eq_true rfl) d_S_hasLines_65 ⟨by have a := hP.2; have b := hx; show _ + (120 + (2663816 - ph) / 16) ≤ 120 + (2663816 - ph) / 16; omega, by have a := hP.1; have b := hx; show _ + (700000 + (2663816 - ph)) ≤ 700000 + (2663816 - ph); omega⟩ (fun rv d2 lo2 va2 kc ns hp => ?_)
      obtain ⟨⟨v2, rfl, hv2⟩, rfl, rfl, rfl, rfl, rfl⟩ := hp
      show V X D CL A _ _ _ _ _ _ _ (.int v2 :: [])
      exact v_zret hX hE (by first | decide | rfl | exact oneOf_nar | exact blk_nar | exact inl_nar | assumption) d_S_hasLines_68 (by have a := hP.2; have b := hx; show _ ≤ 120 + (2663816 - ph) / 16; omega) (by have a := hP.1; have b := hx; show _ ≤ 700000 + (2663816 - ph); omega) ⟨⟨_, rfl, by first | decide | assumption⟩, rfl, rfl, rfl, rfl, rfl⟩
    · refine v_tableIn hX d_S_hasLines_4 (tgt := 69) (by omega) (by omega) (off := 65) (by rw [hk9]; rfl) (by decide) ?_
      refine v_aload_n hX d_S_hasLines_69 rfl rfl ?_
      refine v_get hX (1000 + i) (v := orf ob (tF T i)) inT0 (hN.2 i hi).1 (hN.2 i hi).2.1 (hN.2 i hi).2.2.choose_spec.choose_spec.choose_spec.choose_spec rfl 7 (by decide) fl_S_51 rfl rfl d_S_hasLines_70 ?_
      rcases hq3 : (tF T i) with _ | j3
      · refine v_ifnull hX none d_S_hasLines_73 (tgt := 80) (by decide) (fun _ => ?_) (fun _ h => nomatch h)
        refine v_iconst (v := 0) hX d_S_hasLines_80 (by decide) ?_
        exact v_zret hX hE (by first | decide | rfl | exact oneOf_nar | exact blk_nar | exact inl_nar | assumption) d_S_hasLines_81 (by have a := hP.2; have b := hx; show _ ≤ 120 + (2663816 - ph) / 16; omega) (by have a := hP.1; have b := hx; show _ ≤ 700000 + (2663816 - ph); omega) ⟨⟨_, rfl, by first | decide | assumption⟩, rfl, rfl, rfl, rfl, rfl⟩
      · have ht_j3 := hT.2.1 i j3 hi hq3
        refine v_ifnull hX (some (ob (1000 + j3))) d_S_hasLines_73 (tgt := 80) (by decide) (fun h => nomatch h) (fun _ _ => ?_)
        refine v_iconst (v := 1) hX d_S_hasLines_76 (by decide) ?_
        refine v_goto hX d_S_hasLines_77 (tgt := 81) (by decide) ?_
        exact v_zret hX hE (by first | decide | rfl | exact oneOf_nar | exact blk_nar | exact inl_nar | assumption) d_S_hasLines_81 (by have a := hP.2; have b := hx; show _ ≤ 120 + (2663816 - ph) / 16; omega) (by have a := hP.1; have b := hx; show _ ≤ 700000 + (2663816 - ph); omega) ⟨⟨_, rfl, by first | decide | assumption⟩, rfl, rfl, rfl, rfl, rfl⟩
    · refine v_tableIn hX d_S_hasLines_4 (tgt := 69) (by omega) (by omega) (off := 65) (by rw [hk9]; rfl) (by decide) ?_
      refine v_aload_n hX d_S_hasLines_69 rfl rfl ?_
      refine v_get hX (1000 + i) (v := orf ob (tF T i)) inT0 (hN.2 i hi).1 (hN.2 i hi).2.1 (hN.2 i hi).2.2.choose_spec.choose_spec.choose_spec.choose_spec rfl 7 (by decide) fl_S_51 rfl rfl d_S_hasLines_70 ?_
      rcases hq4 : (tF T i) with _ | j4
      · refine v_ifnull hX none d_S_hasLines_73 (tgt := 80) (by decide) (fun _ => ?_) (fun _ h => nomatch h)
        refine v_iconst (v := 0) hX d_S_hasLines_80 (by decide) ?_
        exact v_zret hX hE (by first | decide | rfl | exact oneOf_nar | exact blk_nar | exact inl_nar | assumption) d_S_hasLines_81 (by have a := hP.2; have b := hx; show _ ≤ 120 + (2663816 - ph) / 16; omega) (by have a := hP.1; have b := hx; show _ ≤ 700000 + (2663816 - ph); omega) ⟨⟨_, rfl, by first | decide | assumption⟩, rfl, rfl, rfl, rfl, rfl⟩
      · have ht_j4 := hT.2.1 i j4 hi hq4
        refine v_ifnull hX (some (ob (1000 + j4))) d_S_hasLines_73 (tgt := 80) (by decide) (fun h => nomatch h) (fun _ _ => ?_)
        refine v_iconst (v := 1) hX d_S_hasLines_76 (by decide) ?_
        refine v_goto hX d_S_hasLines_77 (tgt := 81) (by decide) ?_
        exact v_zret hX hE (by first | decide | rfl | exact oneOf_nar | exact blk_nar | exact inl_nar | assumption) d_S_hasLines_81 (by have a := hP.2; have b := hx; show _ ≤ 120 + (2663816 - ph) / 16; omega) (by have a := hP.1; have b := hx; show _ ≤ 700000 + (2663816 - ph); omega) ⟨⟨_, rfl, by first | decide | assumption⟩, rfl, rfl, rfl, rfl, rfl⟩
theorem c_S_hasLines {l : Launch} {D : va_G} {A : Nat → Prop} {cI cB cZ cJ cN : ClassId} {ob : Nat → Nat} {td w c a al nl pf tl ph : Nat} {dom : Nat → Prop} {loc : Nat → Nat} {val : Nat → va_E} (hS : LayS cI ob td w c a al nl pf tl ph dom loc val) {T : TR} {n : Nat} (hN : NodesI ob T n dom loc val) (hT : TreeI T n) : ∀ (k i j : Nat), i < n → j < n → 13 ≤ tD T i + k → kM l y_S_hasLines (Cond.code y_S_hasLines b_S_hasLines 3 (some FieldType.boolean) :: TT) (rmP (4 + 2 * k) ph) D CL (TY cI cB cZ cJ cN) A [.ref (ob 2), .ref (ob (1000 + i)), .ref (ob (1000 + j))] dom loc val (fun rv d lo va kc ns => (∃ v, rv = some (.int v) ∧ narrow .boolean (.int v) = .int v) ∧ dom = d ∧ loc = lo ∧ val = va ∧ kc = 0 ∧ ns = 0) := by
  intro k
  induction k with
  | zero => intro i j hi hj hd; have := (hT.2.2 i hi).2; omega
  | succ k ih => intro i j hi hj hd; exact c_S_hasLines1 hS hN hT k ih hi hj hd
end
