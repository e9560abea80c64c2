section
-- ===== PART A: goes FIRST, ahead of the names: the tables' words, and 'selects' of the private methods out of them =====
/-- a private method of a class that the tables say can be made, by its rows of tables_1 -/
def lw_okq (q : MethodName × Nat) : Prop := (q.1.cls ≠ "java/lang/invoke/MethodHandle" ∧ q.1.cls ≠ "java/lang/invoke/VarHandle") ∧ Cond.instantiable q.1.cls q.2 ∈ tables_1 ∧ Cond.privateMethod q.1 ∈ tables_1 ∧ Cond.instanceMethod q.1 ∈ tables_1
theorem lw_p0 : lw_okq (⟨"OneManDesk$World", "addFact", "(IIIIIZ)I"⟩, 8) := ⟨⟨by decide +kernel, by decide +kernel⟩, List.mem_of_getElem? (i := 28) (by decide +kernel), List.mem_of_getElem? (i := 360) (by decide +kernel), List.mem_of_getElem? (i := 361) (by decide +kernel)⟩
theorem lw_p1 : lw_okq (⟨"OneManDesk$World", "valueOf", "(I)I"⟩, 8) := ⟨⟨by decide +kernel, by decide +kernel⟩, List.mem_of_getElem? (i := 28) (by decide +kernel), List.mem_of_getElem? (i := 374) (by decide +kernel), List.mem_of_getElem? (i := 375) (by decide +kernel)⟩
theorem lw_p2 : lw_okq (⟨"OneManDesk$World", "tells", "(IIII)Z"⟩, 8) := ⟨⟨by decide +kernel, by decide +kernel⟩, List.mem_of_getElem? (i := 28) (by decide +kernel), List.mem_of_getElem? (i := 387) (by decide +kernel), List.mem_of_getElem? (i := 388) (by decide +kernel)⟩
theorem lw_p3 : lw_okq (⟨"OneManDesk$Text", "append", "(JI)I"⟩, 8) := ⟨⟨by decide +kernel, by decide +kernel⟩, List.mem_of_getElem? (i := 191) (by decide +kernel), List.mem_of_getElem? (i := 399) (by decide +kernel), List.mem_of_getElem? (i := 400) (by decide +kernel)⟩
theorem lw_p4 : lw_okq (⟨"OneManDesk$Text", "empty", "()I"⟩, 8) := ⟨⟨by decide +kernel, by decide +kernel⟩, List.mem_of_getElem? (i := 191) (by decide +kernel), List.mem_of_getElem? (i := 408) (by decide +kernel), List.mem_of_getElem? (i := 409) (by decide +kernel)⟩
theorem lw_p5 : lw_okq (⟨"OneManDesk$Text", "firstFault", "(Z)I"⟩, 8) := ⟨⟨by decide +kernel, by decide +kernel⟩, List.mem_of_getElem? (i := 191) (by decide +kernel), List.mem_of_getElem? (i := 416) (by decide +kernel), List.mem_of_getElem? (i := 417) (by decide +kernel)⟩
theorem lw_p6 : lw_okq (⟨"OneManDesk$Text", "nextToken", "()V"⟩, 8) := ⟨⟨by decide +kernel, by decide +kernel⟩, List.mem_of_getElem? (i := 191) (by decide +kernel), List.mem_of_getElem? (i := 420) (by decide +kernel), List.mem_of_getElem? (i := 421) (by decide +kernel)⟩
theorem lw_p7 : lw_okq (⟨"OneManDesk$Text", "readLifeLine", "()Z"⟩, 8) := ⟨⟨by decide +kernel, by decide +kernel⟩, List.mem_of_getElem? (i := 191) (by decide +kernel), List.mem_of_getElem? (i := 430) (by decide +kernel), List.mem_of_getElem? (i := 431) (by decide +kernel)⟩
theorem lw_p8 : lw_okq (⟨"OneManDesk$Text", "passWord", "(Ljava/lang/String;)Z"⟩, 8) := ⟨⟨by decide +kernel, by decide +kernel⟩, List.mem_of_getElem? (i := 191) (by decide +kernel), List.mem_of_getElem? (i := 435) (by decide +kernel), List.mem_of_getElem? (i := 436) (by decide +kernel)⟩
theorem lw_p9 : lw_okq (⟨"OneManDesk$Text", "passNumber", "(II)I"⟩, 8) := ⟨⟨by decide +kernel, by decide +kernel⟩, List.mem_of_getElem? (i := 191) (by decide +kernel), List.mem_of_getElem? (i := 487) (by decide +kernel), List.mem_of_getElem? (i := 488) (by decide +kernel)⟩
theorem lw_p10 : lw_okq (⟨"OneManDesk$Text", "readTableLine", "()Z"⟩, 8) := ⟨⟨by decide +kernel, by decide +kernel⟩, List.mem_of_getElem? (i := 191) (by decide +kernel), List.mem_of_getElem? (i := 493) (by decide +kernel), List.mem_of_getElem? (i := 494) (by decide +kernel)⟩
theorem lw_p11 : lw_okq (⟨"OneManDesk$Agent", "live", "(LOneManDesk$Text;)I"⟩, 5) := ⟨⟨by decide +kernel, by decide +kernel⟩, List.mem_of_getElem? (i := 138) (by decide +kernel), List.mem_of_getElem? (i := 512) (by decide +kernel), List.mem_of_getElem? (i := 513) (by decide +kernel)⟩
theorem lw_p12 : lw_okq (⟨"OneManDesk$Reader", "weighBy", "(LOneManDesk$Text;)I"⟩, 5) := ⟨⟨by decide +kernel, by decide +kernel⟩, List.mem_of_getElem? (i := 162) (by decide +kernel), List.mem_of_getElem? (i := 520) (by decide +kernel), List.mem_of_getElem? (i := 521) (by decide +kernel)⟩
theorem lw_p13 : lw_okq (⟨"OneManDesk$Agent", "placeOn", "(I)I"⟩, 5) := ⟨⟨by decide +kernel, by decide +kernel⟩, List.mem_of_getElem? (i := 138) (by decide +kernel), List.mem_of_getElem? (i := 534) (by decide +kernel), List.mem_of_getElem? (i := 535) (by decide +kernel)⟩
theorem lw_p14 : lw_okq (⟨"OneManDesk$World", "seenBy", "(LOneManDesk$Agent;I)I"⟩, 8) := ⟨⟨by decide +kernel, by decide +kernel⟩, List.mem_of_getElem? (i := 28) (by decide +kernel), List.mem_of_getElem? (i := 542) (by decide +kernel), List.mem_of_getElem? (i := 543) (by decide +kernel)⟩
theorem lw_p15 : lw_okq (⟨"OneManDesk$Mail", "add", "(IIIII)I"⟩, 8) := ⟨⟨by decide +kernel, by decide +kernel⟩, List.mem_of_getElem? (i := 72) (by decide +kernel), List.mem_of_getElem? (i := 558) (by decide +kernel), List.mem_of_getElem? (i := 559) (by decide +kernel)⟩
def lw_privs_1 : List (MethodName × Nat) := [(⟨"OneManDesk$World", "addFact", "(IIIIIZ)I"⟩, 8), (⟨"OneManDesk$World", "valueOf", "(I)I"⟩, 8), (⟨"OneManDesk$World", "tells", "(IIII)Z"⟩, 8), (⟨"OneManDesk$Text", "append", "(JI)I"⟩, 8), (⟨"OneManDesk$Text", "empty", "()I"⟩, 8), (⟨"OneManDesk$Text", "firstFault", "(Z)I"⟩, 8), (⟨"OneManDesk$Text", "nextToken", "()V"⟩, 8), (⟨"OneManDesk$Text", "readLifeLine", "()Z"⟩, 8), (⟨"OneManDesk$Text", "passWord", "(Ljava/lang/String;)Z"⟩, 8), (⟨"OneManDesk$Text", "passNumber", "(II)I"⟩, 8), (⟨"OneManDesk$Text", "readTableLine", "()Z"⟩, 8), (⟨"OneManDesk$Agent", "live", "(LOneManDesk$Text;)I"⟩, 5), (⟨"OneManDesk$Reader", "weighBy", "(LOneManDesk$Text;)I"⟩, 5), (⟨"OneManDesk$Agent", "placeOn", "(I)I"⟩, 5), (⟨"OneManDesk$World", "seenBy", "(LOneManDesk$Agent;I)I"⟩, 8), (⟨"OneManDesk$Mail", "add", "(IIIII)I"⟩, 8)]
theorem lw_r1 : ∀ q ∈ lw_privs_1, lw_okq q := List.forall_mem_cons.mpr ⟨lw_p0, List.forall_mem_cons.mpr ⟨lw_p1, List.forall_mem_cons.mpr ⟨lw_p2, List.forall_mem_cons.mpr ⟨lw_p3, List.forall_mem_cons.mpr ⟨lw_p4, List.forall_mem_cons.mpr ⟨lw_p5, List.forall_mem_cons.mpr ⟨lw_p6, List.forall_mem_cons.mpr ⟨lw_p7, List.forall_mem_cons.mpr ⟨lw_p8, List.forall_mem_cons.mpr ⟨lw_p9, List.forall_mem_cons.mpr ⟨lw_p10, List.forall_mem_cons.mpr ⟨lw_p11, List.forall_mem_cons.mpr ⟨lw_p12, List.forall_mem_cons.mpr ⟨lw_p13, List.forall_mem_cons.mpr ⟨lw_p14, List.forall_mem_cons.mpr ⟨lw_p15, fun _ h => absurd h List.not_mem_nil⟩⟩⟩⟩⟩⟩⟩⟩⟩⟩⟩⟩⟩⟩⟩⟩
theorem lw_p16 : lw_okq (⟨"OneManDesk$Mail", "cameOn", "(I)I"⟩, 8) := ⟨⟨by decide +kernel, by decide +kernel⟩, List.mem_of_getElem? (i := 72) (by decide +kernel), List.mem_of_getElem? (i := 570) (by decide +kernel), List.mem_of_getElem? (i := 571) (by decide +kernel)⟩
theorem lw_p17 : lw_okq (⟨"OneManDesk$Mail", "unlike", "(I)I"⟩, 8) := ⟨⟨by decide +kernel, by decide +kernel⟩, List.mem_of_getElem? (i := 72) (by decide +kernel), List.mem_of_getElem? (i := 583) (by decide +kernel), List.mem_of_getElem? (i := 584) (by decide +kernel)⟩
theorem lw_p18 : lw_okq (⟨"OneManDesk$World", "wasSeen", "(ILOneManDesk$Agent;I)Z"⟩, 8) := ⟨⟨by decide +kernel, by decide +kernel⟩, List.mem_of_getElem? (i := 28) (by decide +kernel), List.mem_of_getElem? (i := 591) (by decide +kernel), List.mem_of_getElem? (i := 592) (by decide +kernel)⟩
theorem lw_p19 : lw_okq (⟨"OneManDesk$Mail", "mention", "(LOneManDesk$World;III)Z"⟩, 8) := ⟨⟨by decide +kernel, by decide +kernel⟩, List.mem_of_getElem? (i := 72) (by decide +kernel), List.mem_of_getElem? (i := 600) (by decide +kernel), List.mem_of_getElem? (i := 601) (by decide +kernel)⟩
theorem lw_p20 : lw_okq (⟨"OneManDesk$World", "showsSecret", "(LOneManDesk$Agent;I)Z"⟩, 8) := ⟨⟨by decide +kernel, by decide +kernel⟩, List.mem_of_getElem? (i := 28) (by decide +kernel), List.mem_of_getElem? (i := 612) (by decide +kernel), List.mem_of_getElem? (i := 613) (by decide +kernel)⟩
theorem lw_p21 : lw_okq (⟨"OneManDesk$Reader", "addEyes", "(III)I"⟩, 5) := ⟨⟨by decide +kernel, by decide +kernel⟩, List.mem_of_getElem? (i := 162) (by decide +kernel), List.mem_of_getElem? (i := 620) (by decide +kernel), List.mem_of_getElem? (i := 621) (by decide +kernel)⟩
theorem lw_p22 : lw_okq (⟨"OneManDesk$Scales", "trustIn", "(LOneManDesk$Reader;II)I"⟩, 4) := ⟨⟨by decide +kernel, by decide +kernel⟩, List.mem_of_getElem? (i := 116) (by decide +kernel), List.mem_of_getElem? (i := 632) (by decide +kernel), List.mem_of_getElem? (i := 633) (by decide +kernel)⟩
theorem lw_p23 : lw_okq (⟨"OneManDesk$Scales", "sumTrust", "(LOneManDesk$Reader;I)V"⟩, 4) := ⟨⟨by decide +kernel, by decide +kernel⟩, List.mem_of_getElem? (i := 116) (by decide +kernel), List.mem_of_getElem? (i := 636) (by decide +kernel), List.mem_of_getElem? (i := 637) (by decide +kernel)⟩
theorem lw_p24 : lw_okq (⟨"OneManDesk$Scales", "gain", "(LOneManDesk$Reader;LOneManDesk$Mail;II)I"⟩, 4) := ⟨⟨by decide +kernel, by decide +kernel⟩, List.mem_of_getElem? (i := 116) (by decide +kernel), List.mem_of_getElem? (i := 640) (by decide +kernel), List.mem_of_getElem? (i := 641) (by decide +kernel)⟩
theorem lw_p25 : lw_okq (⟨"OneManDesk$Reader", "knows", "(II)Z"⟩, 5) := ⟨⟨by decide +kernel, by decide +kernel⟩, List.mem_of_getElem? (i := 162) (by decide +kernel), List.mem_of_getElem? (i := 645) (by decide +kernel), List.mem_of_getElem? (i := 646) (by decide +kernel)⟩
theorem lw_p26 : lw_okq (⟨"OneManDesk$Scales", "conclude", "(LOneManDesk$Reader;II)I"⟩, 4) := ⟨⟨by decide +kernel, by decide +kernel⟩, List.mem_of_getElem? (i := 116) (by decide +kernel), List.mem_of_getElem? (i := 667) (by decide +kernel), List.mem_of_getElem? (i := 668) (by decide +kernel)⟩
theorem lw_p27 : lw_okq (⟨"OneManDesk$Scales", "judge", "(LOneManDesk$Reader;II)I"⟩, 4) := ⟨⟨by decide +kernel, by decide +kernel⟩, List.mem_of_getElem? (i := 116) (by decide +kernel), List.mem_of_getElem? (i := 671) (by decide +kernel), List.mem_of_getElem? (i := 672) (by decide +kernel)⟩
theorem lw_p28 : lw_okq (⟨"OneManDesk$Scales", "gather", "(II)V"⟩, 4) := ⟨⟨by decide +kernel, by decide +kernel⟩, List.mem_of_getElem? (i := 116) (by decide +kernel), List.mem_of_getElem? (i := 675) (by decide +kernel), List.mem_of_getElem? (i := 676) (by decide +kernel)⟩
theorem lw_p29 : lw_okq (⟨"OneManDesk$Scales", "heaviest", "(LOneManDesk$Reader;)I"⟩, 4) := ⟨⟨by decide +kernel, by decide +kernel⟩, List.mem_of_getElem? (i := 116) (by decide +kernel), List.mem_of_getElem? (i := 679) (by decide +kernel), List.mem_of_getElem? (i := 680) (by decide +kernel)⟩
theorem lw_p30 : lw_okq (⟨"OneManDesk$Scales", "weigh", "(LOneManDesk$Reader;I)I"⟩, 4) := ⟨⟨by decide +kernel, by decide +kernel⟩, List.mem_of_getElem? (i := 116) (by decide +kernel), List.mem_of_getElem? (i := 683) (by decide +kernel), List.mem_of_getElem? (i := 684) (by decide +kernel)⟩
theorem lw_p31 : lw_okq (⟨"OneManDesk$Story", "add", "(II)I"⟩, 3) := ⟨⟨by decide +kernel, by decide +kernel⟩, List.mem_of_getElem? (i := 230) (by decide +kernel), List.mem_of_getElem? (i := 705) (by decide +kernel), List.mem_of_getElem? (i := 706) (by decide +kernel)⟩
def lw_privs_2 : List (MethodName × Nat) := [(⟨"OneManDesk$Mail", "cameOn", "(I)I"⟩, 8), (⟨"OneManDesk$Mail", "unlike", "(I)I"⟩, 8), (⟨"OneManDesk$World", "wasSeen", "(ILOneManDesk$Agent;I)Z"⟩, 8), (⟨"OneManDesk$Mail", "mention", "(LOneManDesk$World;III)Z"⟩, 8), (⟨"OneManDesk$World", "showsSecret", "(LOneManDesk$Agent;I)Z"⟩, 8), (⟨"OneManDesk$Reader", "addEyes", "(III)I"⟩, 5), (⟨"OneManDesk$Scales", "trustIn", "(LOneManDesk$Reader;II)I"⟩, 4), (⟨"OneManDesk$Scales", "sumTrust", "(LOneManDesk$Reader;I)V"⟩, 4), (⟨"OneManDesk$Scales", "gain", "(LOneManDesk$Reader;LOneManDesk$Mail;II)I"⟩, 4), (⟨"OneManDesk$Reader", "knows", "(II)Z"⟩, 5), (⟨"OneManDesk$Scales", "conclude", "(LOneManDesk$Reader;II)I"⟩, 4), (⟨"OneManDesk$Scales", "judge", "(LOneManDesk$Reader;II)I"⟩, 4), (⟨"OneManDesk$Scales", "gather", "(II)V"⟩, 4), (⟨"OneManDesk$Scales", "heaviest", "(LOneManDesk$Reader;)I"⟩, 4), (⟨"OneManDesk$Scales", "weigh", "(LOneManDesk$Reader;I)I"⟩, 4), (⟨"OneManDesk$Story", "add", "(II)I"⟩, 3)]
theorem lw_r2 : ∀ q ∈ lw_privs_2, lw_okq q := List.forall_mem_cons.mpr ⟨lw_p16, List.forall_mem_cons.mpr ⟨lw_p17, List.forall_mem_cons.mpr ⟨lw_p18, List.forall_mem_cons.mpr ⟨lw_p19, List.forall_mem_cons.mpr ⟨lw_p20, List.forall_mem_cons.mpr ⟨lw_p21, List.forall_mem_cons.mpr ⟨lw_p22, List.forall_mem_cons.mpr ⟨lw_p23, List.forall_mem_cons.mpr ⟨lw_p24, List.forall_mem_cons.mpr ⟨lw_p25, List.forall_mem_cons.mpr ⟨lw_p26, List.forall_mem_cons.mpr ⟨lw_p27, List.forall_mem_cons.mpr ⟨lw_p28, List.forall_mem_cons.mpr ⟨lw_p29, List.forall_mem_cons.mpr ⟨lw_p30, List.forall_mem_cons.mpr ⟨lw_p31, fun _ h => absurd h List.not_mem_nil⟩⟩⟩⟩⟩⟩⟩⟩⟩⟩⟩⟩⟩⟩⟩⟩
theorem lw_p32 : lw_okq (⟨"OneManDesk$Scales", "heldLines", "(LOneManDesk$Reader;LOneManDesk$Story;I)I"⟩, 4) := ⟨⟨by decide +kernel, by decide +kernel⟩, List.mem_of_getElem? (i := 116) (by decide +kernel), List.mem_of_getElem? (i := 713) (by decide +kernel), List.mem_of_getElem? (i := 714) (by decide +kernel)⟩
theorem lw_p33 : lw_okq (⟨"OneManDesk$Story", "allLines", "()I"⟩, 3) := ⟨⟨by decide +kernel, by decide +kernel⟩, List.mem_of_getElem? (i := 230) (by decide +kernel), List.mem_of_getElem? (i := 721) (by decide +kernel), List.mem_of_getElem? (i := 722) (by decide +kernel)⟩
theorem lw_p34 : lw_okq (⟨"OneManDesk$Plan", "leastRisk", "(LOneManDesk$Reader;LOneManDesk$Story;I)I"⟩, 10) := ⟨⟨by decide +kernel, by decide +kernel⟩, List.mem_of_getElem? (i := 253) (by decide +kernel), List.mem_of_getElem? (i := 737) (by decide +kernel), List.mem_of_getElem? (i := 738) (by decide +kernel)⟩
theorem lw_p35 : lw_okq (⟨"OneManDesk$Plan", "opensLines", "(LOneManDesk$Reader;LOneManDesk$Story;I)Z"⟩, 10) := ⟨⟨by decide +kernel, by decide +kernel⟩, List.mem_of_getElem? (i := 253) (by decide +kernel), List.mem_of_getElem? (i := 741) (by decide +kernel), List.mem_of_getElem? (i := 742) (by decide +kernel)⟩
theorem lw_p36 : lw_okq (⟨"OneManDesk$Plan", "sumLetters", "(LOneManDesk$Reader;I)V"⟩, 10) := ⟨⟨by decide +kernel, by decide +kernel⟩, List.mem_of_getElem? (i := 253) (by decide +kernel), List.mem_of_getElem? (i := 747) (by decide +kernel), List.mem_of_getElem? (i := 748) (by decide +kernel)⟩
theorem lw_p37 : lw_okq (⟨"OneManDesk$Plan", "gatherLines", "(LOneManDesk$Story;I)V"⟩, 10) := ⟨⟨by decide +kernel, by decide +kernel⟩, List.mem_of_getElem? (i := 253) (by decide +kernel), List.mem_of_getElem? (i := 754) (by decide +kernel), List.mem_of_getElem? (i := 755) (by decide +kernel)⟩
theorem lw_p38 : lw_okq (⟨"OneManDesk$Plan", "usefulForStory", "(LOneManDesk$Story;I)I"⟩, 10) := ⟨⟨by decide +kernel, by decide +kernel⟩, List.mem_of_getElem? (i := 253) (by decide +kernel), List.mem_of_getElem? (i := 759) (by decide +kernel), List.mem_of_getElem? (i := 760) (by decide +kernel)⟩
theorem lw_p39 : lw_okq (⟨"OneManDesk$Plan", "addUp", "([II)I"⟩, 10) := ⟨⟨by decide +kernel, by decide +kernel⟩, List.mem_of_getElem? (i := 253) (by decide +kernel), List.mem_of_getElem? (i := 765) (by decide +kernel), List.mem_of_getElem? (i := 766) (by decide +kernel)⟩
theorem lw_p40 : lw_okq (⟨"OneManDesk$Plan", "holdsWith", "(ILOneManDesk$Reader;LOneManDesk$Story;)Z"⟩, 10) := ⟨⟨by decide +kernel, by decide +kernel⟩, List.mem_of_getElem? (i := 253) (by decide +kernel), List.mem_of_getElem? (i := 769) (by decide +kernel), List.mem_of_getElem? (i := 770) (by decide +kernel)⟩
theorem lw_p41 : lw_okq (⟨"OneManDesk$Plan", "gatherWith", "(II)V"⟩, 10) := ⟨⟨by decide +kernel, by decide +kernel⟩, List.mem_of_getElem? (i := 253) (by decide +kernel), List.mem_of_getElem? (i := 773) (by decide +kernel), List.mem_of_getElem? (i := 774) (by decide +kernel)⟩
theorem lw_p42 : lw_okq (⟨"OneManDesk$Plan", "leastCost", "(LOneManDesk$Reader;III)I"⟩, 10) := ⟨⟨by decide +kernel, by decide +kernel⟩, List.mem_of_getElem? (i := 253) (by decide +kernel), List.mem_of_getElem? (i := 782) (by decide +kernel), List.mem_of_getElem? (i := 783) (by decide +kernel)⟩
theorem lw_p43 : lw_okq (⟨"OneManDesk$Plan", "usefulForTrust", "(I)I"⟩, 10) := ⟨⟨by decide +kernel, by decide +kernel⟩, List.mem_of_getElem? (i := 253) (by decide +kernel), List.mem_of_getElem? (i := 786) (by decide +kernel), List.mem_of_getElem? (i := 787) (by decide +kernel)⟩
theorem lw_p44 : lw_okq (⟨"OneManDesk$Signs", "addQuestion", "(II)I"⟩, 4) := ⟨⟨by decide +kernel, by decide +kernel⟩, List.mem_of_getElem? (i := 292) (by decide +kernel), List.mem_of_getElem? (i := 795) (by decide +kernel), List.mem_of_getElem? (i := 796) (by decide +kernel)⟩
theorem lw_p45 : lw_okq (⟨"OneManDesk$Signs", "add", "(III)I"⟩, 4) := ⟨⟨by decide +kernel, by decide +kernel⟩, List.mem_of_getElem? (i := 292) (by decide +kernel), List.mem_of_getElem? (i := 799) (by decide +kernel), List.mem_of_getElem? (i := 800) (by decide +kernel)⟩
theorem lw_p46 : lw_okq (⟨"OneManDesk$Signs", "addPay", "(II)I"⟩, 4) := ⟨⟨by decide +kernel, by decide +kernel⟩, List.mem_of_getElem? (i := 292) (by decide +kernel), List.mem_of_getElem? (i := 807) (by decide +kernel), List.mem_of_getElem? (i := 808) (by decide +kernel)⟩
theorem lw_p47 : lw_okq (⟨"OneManDesk$Signs", "fit", "(LOneManDesk$Reader;LOneManDesk$Scales;)Z"⟩, 4) := ⟨⟨by decide +kernel, by decide +kernel⟩, List.mem_of_getElem? (i := 292) (by decide +kernel), List.mem_of_getElem? (i := 815) (by decide +kernel), List.mem_of_getElem? (i := 816) (by decide +kernel)⟩
def lw_privs_3 : List (MethodName × Nat) := [(⟨"OneManDesk$Scales", "heldLines", "(LOneManDesk$Reader;LOneManDesk$Story;I)I"⟩, 4), (⟨"OneManDesk$Story", "allLines", "()I"⟩, 3), (⟨"OneManDesk$Plan", "leastRisk", "(LOneManDesk$Reader;LOneManDesk$Story;I)I"⟩, 10), (⟨"OneManDesk$Plan", "opensLines", "(LOneManDesk$Reader;LOneManDesk$Story;I)Z"⟩, 10), (⟨"OneManDesk$Plan", "sumLetters", "(LOneManDesk$Reader;I)V"⟩, 10), (⟨"OneManDesk$Plan", "gatherLines", "(LOneManDesk$Story;I)V"⟩, 10), (⟨"OneManDesk$Plan", "usefulForStory", "(LOneManDesk$Story;I)I"⟩, 10), (⟨"OneManDesk$Plan", "addUp", "([II)I"⟩, 10), (⟨"OneManDesk$Plan", "holdsWith", "(ILOneManDesk$Reader;LOneManDesk$Story;)Z"⟩, 10), (⟨"OneManDesk$Plan", "gatherWith", "(II)V"⟩, 10), (⟨"OneManDesk$Plan", "leastCost", "(LOneManDesk$Reader;III)I"⟩, 10), (⟨"OneManDesk$Plan", "usefulForTrust", "(I)I"⟩, 10), (⟨"OneManDesk$Signs", "addQuestion", "(II)I"⟩, 4), (⟨"OneManDesk$Signs", "add", "(III)I"⟩, 4), (⟨"OneManDesk$Signs", "addPay", "(II)I"⟩, 4), (⟨"OneManDesk$Signs", "fit", "(LOneManDesk$Reader;LOneManDesk$Scales;)Z"⟩, 4)]
theorem lw_r3 : ∀ q ∈ lw_privs_3, lw_okq q := List.forall_mem_cons.mpr ⟨lw_p32, List.forall_mem_cons.mpr ⟨lw_p33, List.forall_mem_cons.mpr ⟨lw_p34, List.forall_mem_cons.mpr ⟨lw_p35, List.forall_mem_cons.mpr ⟨lw_p36, List.forall_mem_cons.mpr ⟨lw_p37, List.forall_mem_cons.mpr ⟨lw_p38, List.forall_mem_cons.mpr ⟨lw_p39, List.forall_mem_cons.mpr ⟨lw_p40, List.forall_mem_cons.mpr ⟨lw_p41, List.forall_mem_cons.mpr ⟨lw_p42, List.forall_mem_cons.mpr ⟨lw_p43, List.forall_mem_cons.mpr ⟨lw_p44, List.forall_mem_cons.mpr ⟨lw_p45, List.forall_mem_cons.mpr ⟨lw_p46, List.forall_mem_cons.mpr ⟨lw_p47, fun _ h => absurd h List.not_mem_nil⟩⟩⟩⟩⟩⟩⟩⟩⟩⟩⟩⟩⟩⟩⟩⟩
theorem lw_p48 : lw_okq (⟨"OneManDeskModel", "worldOf", "(III)I"⟩, 48) := ⟨⟨by decide +kernel, by decide +kernel⟩, List.mem_of_getElem? (i := 830) (by decide +kernel), List.mem_of_getElem? (i := 1010) (by decide +kernel), List.mem_of_getElem? (i := 1011) (by decide +kernel)⟩
theorem lw_p49 : lw_okq (⟨"OneManDeskModel", "faultAs", "(I)I"⟩, 48) := ⟨⟨by decide +kernel, by decide +kernel⟩, List.mem_of_getElem? (i := 830) (by decide +kernel), List.mem_of_getElem? (i := 1035) (by decide +kernel), List.mem_of_getElem? (i := 1036) (by decide +kernel)⟩
theorem lw_p50 : lw_okq (⟨"OneManDeskModel", "token", "()V"⟩, 48) := ⟨⟨by decide +kernel, by decide +kernel⟩, List.mem_of_getElem? (i := 830) (by decide +kernel), List.mem_of_getElem? (i := 1039) (by decide +kernel), List.mem_of_getElem? (i := 1040) (by decide +kernel)⟩
theorem lw_p51 : lw_okq (⟨"OneManDeskModel", "readsOne", "(I)Z"⟩, 48) := ⟨⟨by decide +kernel, by decide +kernel⟩, List.mem_of_getElem? (i := 830) (by decide +kernel), List.mem_of_getElem? (i := 1046) (by decide +kernel), List.mem_of_getElem? (i := 1047) (by decide +kernel)⟩
theorem lw_p52 : lw_okq (⟨"OneManDeskModel", "readsLife", "()Z"⟩, 48) := ⟨⟨by decide +kernel, by decide +kernel⟩, List.mem_of_getElem? (i := 830) (by decide +kernel), List.mem_of_getElem? (i := 1050) (by decide +kernel), List.mem_of_getElem? (i := 1051) (by decide +kernel)⟩
theorem lw_p53 : lw_okq (⟨"OneManDeskModel", "skips", "(II)Z"⟩, 48) := ⟨⟨by decide +kernel, by decide +kernel⟩, List.mem_of_getElem? (i := 830) (by decide +kernel), List.mem_of_getElem? (i := 1054) (by decide +kernel), List.mem_of_getElem? (i := 1055) (by decide +kernel)⟩
theorem lw_p54 : lw_okq (⟨"OneManDeskModel", "isWord", "(II)Z"⟩, 48) := ⟨⟨by decide +kernel, by decide +kernel⟩, List.mem_of_getElem? (i := 830) (by decide +kernel), List.mem_of_getElem? (i := 1058) (by decide +kernel), List.mem_of_getElem? (i := 1059) (by decide +kernel)⟩
theorem lw_p55 : lw_okq (⟨"OneManDeskModel", "skipsNumber", "(II)Z"⟩, 48) := ⟨⟨by decide +kernel, by decide +kernel⟩, List.mem_of_getElem? (i := 830) (by decide +kernel), List.mem_of_getElem? (i := 1062) (by decide +kernel), List.mem_of_getElem? (i := 1063) (by decide +kernel)⟩
theorem lw_p56 : lw_okq (⟨"OneManDeskModel", "readsTable", "()Z"⟩, 48) := ⟨⟨by decide +kernel, by decide +kernel⟩, List.mem_of_getElem? (i := 830) (by decide +kernel), List.mem_of_getElem? (i := 1067) (by decide +kernel), List.mem_of_getElem? (i := 1068) (by decide +kernel)⟩
theorem lw_p57 : lw_okq (⟨"OneManDeskModel", "whereIs", "(II)I"⟩, 48) := ⟨⟨by decide +kernel, by decide +kernel⟩, List.mem_of_getElem? (i := 830) (by decide +kernel), List.mem_of_getElem? (i := 1092) (by decide +kernel), List.mem_of_getElem? (i := 1093) (by decide +kernel)⟩
theorem lw_p58 : lw_okq (⟨"OneManDeskModel", "refuses", "(IIIIIII)I"⟩, 48) := ⟨⟨by decide +kernel, by decide +kernel⟩, List.mem_of_getElem? (i := 830) (by decide +kernel), List.mem_of_getElem? (i := 1113) (by decide +kernel), List.mem_of_getElem? (i := 1114) (by decide +kernel)⟩
theorem lw_p59 : lw_okq (⟨"OneManDeskModel", "lay", "(IIIIIIII)V"⟩, 48) := ⟨⟨by decide +kernel, by decide +kernel⟩, List.mem_of_getElem? (i := 830) (by decide +kernel), List.mem_of_getElem? (i := 1117) (by decide +kernel), List.mem_of_getElem? (i := 1118) (by decide +kernel)⟩
theorem lw_p60 : lw_okq (⟨"OneManDeskModel", "isLetter", "(I)Z"⟩, 48) := ⟨⟨by decide +kernel, by decide +kernel⟩, List.mem_of_getElem? (i := 830) (by decide +kernel), List.mem_of_getElem? (i := 1125) (by decide +kernel), List.mem_of_getElem? (i := 1126) (by decide +kernel)⟩
theorem lw_p61 : lw_okq (⟨"OneManDeskModel", "isRight", "(I)Z"⟩, 48) := ⟨⟨by decide +kernel, by decide +kernel⟩, List.mem_of_getElem? (i := 830) (by decide +kernel), List.mem_of_getElem? (i := 1129) (by decide +kernel), List.mem_of_getElem? (i := 1130) (by decide +kernel)⟩
theorem lw_p62 : lw_okq (⟨"OneManDeskModel", "comesOn", "(I)I"⟩, 48) := ⟨⟨by decide +kernel, by decide +kernel⟩, List.mem_of_getElem? (i := 830) (by decide +kernel), List.mem_of_getElem? (i := 1137) (by decide +kernel), List.mem_of_getElem? (i := 1138) (by decide +kernel)⟩
theorem lw_p63 : lw_okq (⟨"OneManDeskModel", "sawPlace", "(III)Z"⟩, 48) := ⟨⟨by decide +kernel, by decide +kernel⟩, List.mem_of_getElem? (i := 830) (by decide +kernel), List.mem_of_getElem? (i := 1145) (by decide +kernel), List.mem_of_getElem? (i := 1146) (by decide +kernel)⟩
def lw_privs_4 : List (MethodName × Nat) := [(⟨"OneManDeskModel", "worldOf", "(III)I"⟩, 48), (⟨"OneManDeskModel", "faultAs", "(I)I"⟩, 48), (⟨"OneManDeskModel", "token", "()V"⟩, 48), (⟨"OneManDeskModel", "readsOne", "(I)Z"⟩, 48), (⟨"OneManDeskModel", "readsLife", "()Z"⟩, 48), (⟨"OneManDeskModel", "skips", "(II)Z"⟩, 48), (⟨"OneManDeskModel", "isWord", "(II)Z"⟩, 48), (⟨"OneManDeskModel", "skipsNumber", "(II)Z"⟩, 48), (⟨"OneManDeskModel", "readsTable", "()Z"⟩, 48), (⟨"OneManDeskModel", "whereIs", "(II)I"⟩, 48), (⟨"OneManDeskModel", "refuses", "(IIIIIII)I"⟩, 48), (⟨"OneManDeskModel", "lay", "(IIIIIIII)V"⟩, 48), (⟨"OneManDeskModel", "isLetter", "(I)Z"⟩, 48), (⟨"OneManDeskModel", "isRight", "(I)Z"⟩, 48), (⟨"OneManDeskModel", "comesOn", "(I)I"⟩, 48), (⟨"OneManDeskModel", "sawPlace", "(III)Z"⟩, 48)]
theorem lw_r4 : ∀ q ∈ lw_privs_4, lw_okq q := List.forall_mem_cons.mpr ⟨lw_p48, List.forall_mem_cons.mpr ⟨lw_p49, List.forall_mem_cons.mpr ⟨lw_p50, List.forall_mem_cons.mpr ⟨lw_p51, List.forall_mem_cons.mpr ⟨lw_p52, List.forall_mem_cons.mpr ⟨lw_p53, List.forall_mem_cons.mpr ⟨lw_p54, List.forall_mem_cons.mpr ⟨lw_p55, List.forall_mem_cons.mpr ⟨lw_p56, List.forall_mem_cons.mpr ⟨lw_p57, List.forall_mem_cons.mpr ⟨lw_p58, List.forall_mem_cons.mpr ⟨lw_p59, List.forall_mem_cons.mpr ⟨lw_p60, List.forall_mem_cons.mpr ⟨lw_p61, List.forall_mem_cons.mpr ⟨lw_p62, List.forall_mem_cons.mpr ⟨lw_p63, fun _ h => absurd h List.not_mem_nil⟩⟩⟩⟩⟩⟩⟩⟩⟩⟩⟩⟩⟩⟩⟩⟩
theorem lw_p64 : lw_okq (⟨"OneManDeskModel", "areOfOne", "(II)Z"⟩, 48) := ⟨⟨by decide +kernel, by decide +kernel⟩, List.mem_of_getElem? (i := 830) (by decide +kernel), List.mem_of_getElem? (i := 1149) (by decide +kernel), List.mem_of_getElem? (i := 1150) (by decide +kernel)⟩
theorem lw_p65 : lw_okq (⟨"OneManDeskModel", "sawFact", "(III)Z"⟩, 48) := ⟨⟨by decide +kernel, by decide +kernel⟩, List.mem_of_getElem? (i := 830) (by decide +kernel), List.mem_of_getElem? (i := 1157) (by decide +kernel), List.mem_of_getElem? (i := 1158) (by decide +kernel)⟩
theorem lw_p66 : lw_okq (⟨"OneManDeskModel", "toldFact", "(III)Z"⟩, 48) := ⟨⟨by decide +kernel, by decide +kernel⟩, List.mem_of_getElem? (i := 830) (by decide +kernel), List.mem_of_getElem? (i := 1161) (by decide +kernel), List.mem_of_getElem? (i := 1162) (by decide +kernel)⟩
theorem lw_p67 : lw_okq (⟨"OneManDeskModel", "trustOf", "(III)I"⟩, 48) := ⟨⟨by decide +kernel, by decide +kernel⟩, List.mem_of_getElem? (i := 830) (by decide +kernel), List.mem_of_getElem? (i := 1181) (by decide +kernel), List.mem_of_getElem? (i := 1182) (by decide +kernel)⟩
theorem lw_p68 : lw_okq (⟨"OneManDeskModel", "isSent", "(I)Z"⟩, 48) := ⟨⟨by decide +kernel, by decide +kernel⟩, List.mem_of_getElem? (i := 830) (by decide +kernel), List.mem_of_getElem? (i := 1185) (by decide +kernel), List.mem_of_getElem? (i := 1186) (by decide +kernel)⟩
theorem lw_p69 : lw_okq (⟨"OneManDeskModel", "knows", "(IIII)Z"⟩, 48) := ⟨⟨by decide +kernel, by decide +kernel⟩, List.mem_of_getElem? (i := 830) (by decide +kernel), List.mem_of_getElem? (i := 1189) (by decide +kernel), List.mem_of_getElem? (i := 1190) (by decide +kernel)⟩
theorem lw_p70 : lw_okq (⟨"OneManDeskModel", "concludes", "(IIIII)I"⟩, 48) := ⟨⟨by decide +kernel, by decide +kernel⟩, List.mem_of_getElem? (i := 830) (by decide +kernel), List.mem_of_getElem? (i := 1197) (by decide +kernel), List.mem_of_getElem? (i := 1198) (by decide +kernel)⟩
theorem lw_p71 : lw_okq (⟨"OneManDeskModel", "tellers", "(IIIII)I"⟩, 48) := ⟨⟨by decide +kernel, by decide +kernel⟩, List.mem_of_getElem? (i := 830) (by decide +kernel), List.mem_of_getElem? (i := 1201) (by decide +kernel), List.mem_of_getElem? (i := 1202) (by decide +kernel)⟩
theorem lw_p72 : lw_okq (⟨"OneManDeskModel", "weightOf", "(III)I"⟩, 48) := ⟨⟨by decide +kernel, by decide +kernel⟩, List.mem_of_getElem? (i := 830) (by decide +kernel), List.mem_of_getElem? (i := 1205) (by decide +kernel), List.mem_of_getElem? (i := 1206) (by decide +kernel)⟩
theorem lw_p73 : lw_okq (⟨"OneManDeskModel", "heldOn", "(II)I"⟩, 48) := ⟨⟨by decide +kernel, by decide +kernel⟩, List.mem_of_getElem? (i := 830) (by decide +kernel), List.mem_of_getElem? (i := 1221) (by decide +kernel), List.mem_of_getElem? (i := 1222) (by decide +kernel)⟩
theorem lw_p74 : lw_okq (⟨"OneManDeskModel", "isHeld", "(II)Z"⟩, 48) := ⟨⟨by decide +kernel, by decide +kernel⟩, List.mem_of_getElem? (i := 830) (by decide +kernel), List.mem_of_getElem? (i := 1229) (by decide +kernel), List.mem_of_getElem? (i := 1230) (by decide +kernel)⟩
theorem lw_p75 : lw_okq (⟨"OneManDeskModel", "riskOf", "(I)I"⟩, 48) := ⟨⟨by decide +kernel, by decide +kernel⟩, List.mem_of_getElem? (i := 830) (by decide +kernel), List.mem_of_getElem? (i := 1247) (by decide +kernel), List.mem_of_getElem? (i := 1248) (by decide +kernel)⟩
theorem lw_p76 : lw_okq (⟨"OneManDeskModel", "costOf", "(I)I"⟩, 48) := ⟨⟨by decide +kernel, by decide +kernel⟩, List.mem_of_getElem? (i := 830) (by decide +kernel), List.mem_of_getElem? (i := 1256) (by decide +kernel), List.mem_of_getElem? (i := 1257) (by decide +kernel)⟩
theorem lw_p77 : lw_okq (⟨"OneManDeskModel", "sign", "(IIII)I"⟩, 48) := ⟨⟨by decide +kernel, by decide +kernel⟩, List.mem_of_getElem? (i := 830) (by decide +kernel), List.mem_of_getElem? (i := 1264) (by decide +kernel), List.mem_of_getElem? (i := 1265) (by decide +kernel)⟩
def lw_privs_5 : List (MethodName × Nat) := [(⟨"OneManDeskModel", "areOfOne", "(II)Z"⟩, 48), (⟨"OneManDeskModel", "sawFact", "(III)Z"⟩, 48), (⟨"OneManDeskModel", "toldFact", "(III)Z"⟩, 48), (⟨"OneManDeskModel", "trustOf", "(III)I"⟩, 48), (⟨"OneManDeskModel", "isSent", "(I)Z"⟩, 48), (⟨"OneManDeskModel", "knows", "(IIII)Z"⟩, 48), (⟨"OneManDeskModel", "concludes", "(IIIII)I"⟩, 48), (⟨"OneManDeskModel", "tellers", "(IIIII)I"⟩, 48), (⟨"OneManDeskModel", "weightOf", "(III)I"⟩, 48), (⟨"OneManDeskModel", "heldOn", "(II)I"⟩, 48), (⟨"OneManDeskModel", "isHeld", "(II)Z"⟩, 48), (⟨"OneManDeskModel", "riskOf", "(I)I"⟩, 48), (⟨"OneManDeskModel", "costOf", "(I)I"⟩, 48), (⟨"OneManDeskModel", "sign", "(IIII)I"⟩, 48)]
theorem lw_r5 : ∀ q ∈ lw_privs_5, lw_okq q := List.forall_mem_cons.mpr ⟨lw_p64, List.forall_mem_cons.mpr ⟨lw_p65, List.forall_mem_cons.mpr ⟨lw_p66, List.forall_mem_cons.mpr ⟨lw_p67, List.forall_mem_cons.mpr ⟨lw_p68, List.forall_mem_cons.mpr ⟨lw_p69, List.forall_mem_cons.mpr ⟨lw_p70, List.forall_mem_cons.mpr ⟨lw_p71, List.forall_mem_cons.mpr ⟨lw_p72, List.forall_mem_cons.mpr ⟨lw_p73, List.forall_mem_cons.mpr ⟨lw_p74, List.forall_mem_cons.mpr ⟨lw_p75, List.forall_mem_cons.mpr ⟨lw_p76, List.forall_mem_cons.mpr ⟨lw_p77, fun _ h => absurd h List.not_mem_nil⟩⟩⟩⟩⟩⟩⟩⟩⟩⟩⟩⟩⟩⟩
def lw_privs : List (MethodName × Nat) := lw_privs_1 ++ (lw_privs_2 ++ (lw_privs_3 ++ (lw_privs_4 ++ (lw_privs_5))))
def lw_tbl : List Cond := k2_sels lw_privs ++ tables_1
theorem lw_privs_ok : ∀ q ∈ lw_privs, lw_okq q := by
  show ∀ q ∈ lw_privs_1 ++ (lw_privs_2 ++ (lw_privs_3 ++ (lw_privs_4 ++ (lw_privs_5)))), lw_okq q
  exact List.forall_mem_append.mpr ⟨lw_r1, List.forall_mem_append.mpr ⟨lw_r2, List.forall_mem_append.mpr ⟨lw_r3, List.forall_mem_append.mpr ⟨lw_r4, lw_r5⟩⟩⟩⟩
end
section
def RX0 : String := "OneManDesk$Agent"
def TX0 : u_T := fun k => match k with
  | 0 => ("OneManDesk$Agent", "place", "[I", true)
  | 1 => ("OneManDesk$Agent", "from", "[I", true)
  | 2 => ("OneManDesk$Agent", "to", "[I", true)
  | 3 => ("OneManDesk$Agent", "home", "I", false)
  | _ => ("OneManDesk$Agent", "lines", "I", false)
def tyX0 : Nat → FieldType := fun k => match k with
  | 0 => .array .int
  | 1 => .array .int
  | 2 => .array .int
  | 3 => .int
  | _ => .int
theorem nmX0 : ∀ a, a < 5 → ∀ b, b < 5 → a ≠ b → (TX0 a).2.1 ≠ (TX0 b).2.1 := by decide +kernel
theorem tyX0_ok : ∀ k, k < 5 → parseFieldDescriptor (TX0 k).2.2.1 = some (tyX0 k) := by decide +kernel
abbrev cX0_init : ByteArray := prog_2_method_1_code
def yX0_init : MethodName := ⟨RX0, "<init>", "()V"⟩
abbrev cX0_live : ByteArray := prog_2_method_2_code
def yX0_live : MethodName := ⟨RX0, "live", "(LOneManDesk$Text;)I"⟩
abbrev cX0_placeOn : ByteArray := prog_2_method_3_code
def yX0_placeOn : MethodName := ⟨RX0, "placeOn", "(I)I"⟩
def RX1 : String := "OneManDesk$Mail"
def TX1 : u_T := fun k => match k with
  | 0 => ("OneManDesk$Mail", "agent", "[I", true)
  | 1 => ("OneManDesk$Mail", "sent", "[I", true)
  | 2 => ("OneManDesk$Mail", "way", "[I", true)
  | 3 => ("OneManDesk$Mail", "topic", "[I", true)
  | 4 => ("OneManDesk$Mail", "value", "[I", true)
  | 5 => ("OneManDesk$Mail", "postDays", "[I", true)
  | 6 => ("OneManDesk$Mail", "most", "I", true)
  | _ => ("OneManDesk$Mail", "size", "I", false)
def tyX1 : Nat → FieldType := fun k => match k with
  | 0 => .array .int
  | 1 => .array .int
  | 2 => .array .int
  | 3 => .array .int
  | 4 => .array .int
  | 5 => .array .int
  | 6 => .int
  | _ => .int
theorem nmX1 : ∀ a, a < 8 → ∀ b, b < 8 → a ≠ b → (TX1 a).2.1 ≠ (TX1 b).2.1 := by decide +kernel
theorem tyX1_ok : ∀ k, k < 8 → parseFieldDescriptor (TX1 k).2.2.1 = some (tyX1 k) := by decide +kernel
abbrev cX1_init : ByteArray := prog_3_method_1_code
def yX1_init : MethodName := ⟨RX1, "<init>", "(I[I)V"⟩
abbrev cX1_add : ByteArray := prog_3_method_2_code
def yX1_add : MethodName := ⟨RX1, "add", "(IIIII)I"⟩
abbrev cX1_cameOn : ByteArray := prog_3_method_3_code
def yX1_cameOn : MethodName := ⟨RX1, "cameOn", "(I)I"⟩
abbrev cX1_unlike : ByteArray := prog_3_method_4_code
def yX1_unlike : MethodName := ⟨RX1, "unlike", "(I)I"⟩
abbrev cX1_mention : ByteArray := prog_3_method_5_code
def yX1_mention : MethodName := ⟨RX1, "mention", "(LOneManDesk$World;III)Z"⟩
def RX2 : String := "OneManDesk$Plan"
def TX2 : u_T := fun k => match k with
  | 0 => ("OneManDesk$Plan", "land", "LOneManDesk$World;", true)
  | 1 => ("OneManDesk$Plan", "scales", "LOneManDesk$Scales;", true)
  | 2 => ("OneManDesk$Plan", "drafts", "LOneManDesk$Mail;", true)
  | 3 => ("OneManDesk$Plan", "risk", "[I", true)
  | 4 => ("OneManDesk$Plan", "cost", "[I", true)
  | 5 => ("OneManDesk$Plan", "gains", "[I", true)
  | 6 => ("OneManDesk$Plan", "bears", "[I", true)
  | 7 => ("OneManDesk$Plan", "sums", "[I", true)
  | 8 => ("OneManDesk$Plan", "tellers", "[I", true)
  | _ => ("OneManDesk$Plan", "open", "I", false)
def tyX2 : Nat → FieldType := fun k => match k with
  | 0 => .object "OneManDesk$World"
  | 1 => .object "OneManDesk$Scales"
  | 2 => .object "OneManDesk$Mail"
  | 3 => .array .int
  | 4 => .array .int
  | 5 => .array .int
  | 6 => .array .int
  | 7 => .array .int
  | 8 => .array .int
  | _ => .int
theorem nmX2 : ∀ a, a < 10 → ∀ b, b < 10 → a ≠ b → (TX2 a).2.1 ≠ (TX2 b).2.1 := by decide +kernel
theorem tyX2_ok : ∀ k, k < 10 → parseFieldDescriptor (TX2 k).2.2.1 = some (tyX2 k) := by decide +kernel
abbrev cX2_init : ByteArray := prog_4_method_1_code
def yX2_init : MethodName := ⟨RX2, "<init>", "(LOneManDesk$World;LOneManDesk$Scales;LOneManDesk$Mail;)V"⟩
abbrev cX2_leastRisk : ByteArray := prog_4_method_2_code
def yX2_leastRisk : MethodName := ⟨RX2, "leastRisk", "(LOneManDesk$Reader;LOneManDesk$Story;I)I"⟩
abbrev cX2_leastCost : ByteArray := prog_4_method_3_code
def yX2_leastCost : MethodName := ⟨RX2, "leastCost", "(LOneManDesk$Reader;III)I"⟩
abbrev cX2_opensLines : ByteArray := prog_4_method_4_code
def yX2_opensLines : MethodName := ⟨RX2, "opensLines", "(LOneManDesk$Reader;LOneManDesk$Story;I)Z"⟩
abbrev cX2_sumLetters : ByteArray := prog_4_method_5_code
def yX2_sumLetters : MethodName := ⟨RX2, "sumLetters", "(LOneManDesk$Reader;I)V"⟩
abbrev cX2_gatherLines : ByteArray := prog_4_method_6_code
def yX2_gatherLines : MethodName := ⟨RX2, "gatherLines", "(LOneManDesk$Story;I)V"⟩
abbrev cX2_usefulForStory : ByteArray := prog_4_method_7_code
def yX2_usefulForStory : MethodName := ⟨RX2, "usefulForStory", "(LOneManDesk$Story;I)I"⟩
abbrev cX2_usefulForTrust : ByteArray := prog_4_method_8_code
def yX2_usefulForTrust : MethodName := ⟨RX2, "usefulForTrust", "(I)I"⟩
abbrev cX2_addUp : ByteArray := prog_4_method_9_code
def yX2_addUp : MethodName := ⟨RX2, "addUp", "([II)I"⟩
abbrev cX2_holdsWith : ByteArray := prog_4_method_10_code
def yX2_holdsWith : MethodName := ⟨RX2, "holdsWith", "(ILOneManDesk$Reader;LOneManDesk$Story;)Z"⟩
abbrev cX2_gatherWith : ByteArray := prog_4_method_11_code
def yX2_gatherWith : MethodName := ⟨RX2, "gatherWith", "(II)V"⟩
def RX3 : String := "OneManDesk$Reader"
def TX3 : u_T := fun k => match k with
  | 0 => ("OneManDesk$Reader", "table", "[I", true)
  | 1 => ("OneManDesk$Reader", "place", "[I", true)
  | 2 => ("OneManDesk$Reader", "from", "[I", true)
  | 3 => ("OneManDesk$Reader", "to", "[I", true)
  | _ => ("OneManDesk$Reader", "eyesHad", "I", false)
def tyX3 : Nat → FieldType := fun k => match k with
  | 0 => .array .int
  | 1 => .array .int
  | 2 => .array .int
  | 3 => .array .int
  | _ => .int
theorem nmX3 : ∀ a, a < 5 → ∀ b, b < 5 → a ≠ b → (TX3 a).2.1 ≠ (TX3 b).2.1 := by decide +kernel
theorem tyX3_ok : ∀ k, k < 5 → parseFieldDescriptor (TX3 k).2.2.1 = some (tyX3 k) := by decide +kernel
abbrev cX3_init : ByteArray := prog_5_method_1_code
def yX3_init : MethodName := ⟨RX3, "<init>", "()V"⟩
abbrev cX3_weighBy : ByteArray := prog_5_method_2_code
def yX3_weighBy : MethodName := ⟨RX3, "weighBy", "(LOneManDesk$Text;)I"⟩
abbrev cX3_addEyes : ByteArray := prog_5_method_3_code
def yX3_addEyes : MethodName := ⟨RX3, "addEyes", "(III)I"⟩
abbrev cX3_knows : ByteArray := prog_5_method_4_code
def yX3_knows : MethodName := ⟨RX3, "knows", "(II)Z"⟩
def RX4 : String := "OneManDesk$Scales"
def TX4 : u_T := fun k => match k with
  | 0 => ("OneManDesk$Scales", "land", "LOneManDesk$World;", true)
  | 1 => ("OneManDesk$Scales", "letters", "LOneManDesk$Mail;", true)
  | 2 => ("OneManDesk$Scales", "sums", "[I", true)
  | _ => ("OneManDesk$Scales", "tellers", "[I", true)
def tyX4 : Nat → FieldType := fun k => match k with
  | 0 => .object "OneManDesk$World"
  | 1 => .object "OneManDesk$Mail"
  | 2 => .array .int
  | _ => .array .int
theorem nmX4 : ∀ a, a < 4 → ∀ b, b < 4 → a ≠ b → (TX4 a).2.1 ≠ (TX4 b).2.1 := by decide +kernel
theorem tyX4_ok : ∀ k, k < 4 → parseFieldDescriptor (TX4 k).2.2.1 = some (tyX4 k) := by decide +kernel
abbrev cX4_init : ByteArray := prog_6_method_1_code
def yX4_init : MethodName := ⟨RX4, "<init>", "(LOneManDesk$World;LOneManDesk$Mail;)V"⟩
abbrev cX4_gain : ByteArray := prog_6_method_2_code
def yX4_gain : MethodName := ⟨RX4, "gain", "(LOneManDesk$Reader;LOneManDesk$Mail;II)I"⟩
abbrev cX4_sumTrust : ByteArray := prog_6_method_3_code
def yX4_sumTrust : MethodName := ⟨RX4, "sumTrust", "(LOneManDesk$Reader;I)V"⟩
abbrev cX4_trustIn : ByteArray := prog_6_method_4_code
def yX4_trustIn : MethodName := ⟨RX4, "trustIn", "(LOneManDesk$Reader;II)I"⟩
abbrev cX4_bounded : ByteArray := prog_6_method_5_code
def yX4_bounded : MethodName := ⟨RX4, "bounded", "(I)I"⟩
abbrev cX4_gather : ByteArray := prog_6_method_6_code
def yX4_gather : MethodName := ⟨RX4, "gather", "(II)V"⟩
abbrev cX4_weigh : ByteArray := prog_6_method_7_code
def yX4_weigh : MethodName := ⟨RX4, "weigh", "(LOneManDesk$Reader;I)I"⟩
abbrev cX4_heaviest : ByteArray := prog_6_method_8_code
def yX4_heaviest : MethodName := ⟨RX4, "heaviest", "(LOneManDesk$Reader;)I"⟩
abbrev cX4_conclude : ByteArray := prog_6_method_9_code
def yX4_conclude : MethodName := ⟨RX4, "conclude", "(LOneManDesk$Reader;II)I"⟩
abbrev cX4_judge : ByteArray := prog_6_method_10_code
def yX4_judge : MethodName := ⟨RX4, "judge", "(LOneManDesk$Reader;II)I"⟩
abbrev cX4_heldLines : ByteArray := prog_6_method_11_code
def yX4_heldLines : MethodName := ⟨RX4, "heldLines", "(LOneManDesk$Reader;LOneManDesk$Story;I)I"⟩
def RX5 : String := "OneManDesk$Signs"
def TX5 : u_T := fun k => match k with
  | 0 => ("OneManDesk$Signs", "on", "[I", true)
  | 1 => ("OneManDesk$Signs", "topic", "[I", true)
  | 2 => ("OneManDesk$Signs", "agent", "[I", true)
  | _ => ("OneManDesk$Signs", "size", "I", false)
def tyX5 : Nat → FieldType := fun k => match k with
  | 0 => .array .int
  | 1 => .array .int
  | 2 => .array .int
  | _ => .int
theorem nmX5 : ∀ a, a < 4 → ∀ b, b < 4 → a ≠ b → (TX5 a).2.1 ≠ (TX5 b).2.1 := by decide +kernel
theorem tyX5_ok : ∀ k, k < 4 → parseFieldDescriptor (TX5 k).2.2.1 = some (tyX5 k) := by decide +kernel
abbrev cX5_init : ByteArray := prog_7_method_1_code
def yX5_init : MethodName := ⟨RX5, "<init>", "()V"⟩
abbrev cX5_addQuestion : ByteArray := prog_7_method_2_code
def yX5_addQuestion : MethodName := ⟨RX5, "addQuestion", "(II)I"⟩
abbrev cX5_addPay : ByteArray := prog_7_method_3_code
def yX5_addPay : MethodName := ⟨RX5, "addPay", "(II)I"⟩
abbrev cX5_add : ByteArray := prog_7_method_4_code
def yX5_add : MethodName := ⟨RX5, "add", "(III)I"⟩
abbrev cX5_fit : ByteArray := prog_7_method_5_code
def yX5_fit : MethodName := ⟨RX5, "fit", "(LOneManDesk$Reader;LOneManDesk$Scales;)Z"⟩
def RX6 : String := "OneManDesk$Story"
def TX6 : u_T := fun k => match k with
  | 0 => ("OneManDesk$Story", "topic", "[I", true)
  | 1 => ("OneManDesk$Story", "value", "[I", true)
  | _ => ("OneManDesk$Story", "size", "I", false)
def tyX6 : Nat → FieldType := fun k => match k with
  | 0 => .array .int
  | 1 => .array .int
  | _ => .int
theorem nmX6 : ∀ a, a < 3 → ∀ b, b < 3 → a ≠ b → (TX6 a).2.1 ≠ (TX6 b).2.1 := by decide +kernel
theorem tyX6_ok : ∀ k, k < 3 → parseFieldDescriptor (TX6 k).2.2.1 = some (tyX6 k) := by decide +kernel
abbrev cX6_init : ByteArray := prog_8_method_1_code
def yX6_init : MethodName := ⟨RX6, "<init>", "()V"⟩
abbrev cX6_add : ByteArray := prog_8_method_2_code
def yX6_add : MethodName := ⟨RX6, "add", "(II)I"⟩
abbrev cX6_allLines : ByteArray := prog_8_method_3_code
def yX6_allLines : MethodName := ⟨RX6, "allLines", "()I"⟩
def RX7 : String := "OneManDesk$Text"
def TX7 : u_T := fun k => match k with
  | 0 => ("OneManDesk$Text", "bytes", "[I", true)
  | 1 => ("OneManDesk$Text", "first", "[I", true)
  | 2 => ("OneManDesk$Text", "second", "[I", true)
  | 3 => ("OneManDesk$Text", "third", "[I", true)
  | 4 => ("OneManDesk$Text", "length", "I", false)
  | 5 => ("OneManDesk$Text", "lines", "I", false)
  | 6 => ("OneManDesk$Text", "tokenBegin", "I", false)
  | _ => ("OneManDesk$Text", "tokenEnd", "I", false)
def tyX7 : Nat → FieldType := fun k => match k with
  | 0 => .array .int
  | 1 => .array .int
  | 2 => .array .int
  | 3 => .array .int
  | 4 => .int
  | 5 => .int
  | 6 => .int
  | _ => .int
theorem nmX7 : ∀ a, a < 8 → ∀ b, b < 8 → a ≠ b → (TX7 a).2.1 ≠ (TX7 b).2.1 := by decide +kernel
theorem tyX7_ok : ∀ k, k < 8 → parseFieldDescriptor (TX7 k).2.2.1 = some (tyX7 k) := by decide +kernel
abbrev cX7_init : ByteArray := prog_9_method_1_code
def yX7_init : MethodName := ⟨RX7, "<init>", "()V"⟩
abbrev cX7_append : ByteArray := prog_9_method_2_code
def yX7_append : MethodName := ⟨RX7, "append", "(JI)I"⟩
abbrev cX7_empty : ByteArray := prog_9_method_3_code
def yX7_empty : MethodName := ⟨RX7, "empty", "()I"⟩
abbrev cX7_firstFault : ByteArray := prog_9_method_4_code
def yX7_firstFault : MethodName := ⟨RX7, "firstFault", "(Z)I"⟩
abbrev cX7_readLifeLine : ByteArray := prog_9_method_5_code
def yX7_readLifeLine : MethodName := ⟨RX7, "readLifeLine", "()Z"⟩
abbrev cX7_readTableLine : ByteArray := prog_9_method_6_code
def yX7_readTableLine : MethodName := ⟨RX7, "readTableLine", "()Z"⟩
abbrev cX7_tableWord : ByteArray := prog_9_method_7_code
def yX7_tableWord : MethodName := ⟨RX7, "tableWord", "(I)Ljava/lang/String;"⟩
abbrev cX7_passWord : ByteArray := prog_9_method_8_code
def yX7_passWord : MethodName := ⟨RX7, "passWord", "(Ljava/lang/String;)Z"⟩
abbrev cX7_passNumber : ByteArray := prog_9_method_9_code
def yX7_passNumber : MethodName := ⟨RX7, "passNumber", "(II)I"⟩
abbrev cX7_nextToken : ByteArray := prog_9_method_10_code
def yX7_nextToken : MethodName := ⟨RX7, "nextToken", "()V"⟩
abbrev cX7_isLetter : ByteArray := prog_9_method_11_code
def yX7_isLetter : MethodName := ⟨RX7, "isLetter", "(I)Z"⟩
abbrev cX7_isDigit : ByteArray := prog_9_method_12_code
def yX7_isDigit : MethodName := ⟨RX7, "isDigit", "(I)Z"⟩
def RX8 : String := "OneManDesk$World"
def TX8 : u_T := fun k => match k with
  | 0 => ("OneManDesk$World", "seen", "[I", true)
  | 1 => ("OneManDesk$World", "place", "[I", true)
  | 2 => ("OneManDesk$World", "kind", "[I", true)
  | 3 => ("OneManDesk$World", "from", "[I", true)
  | 4 => ("OneManDesk$World", "to", "[I", true)
  | 5 => ("OneManDesk$World", "value", "[I", true)
  | 6 => ("OneManDesk$World", "hidden", "[Z", true)
  | _ => ("OneManDesk$World", "facts", "I", false)
def tyX8 : Nat → FieldType := fun k => match k with
  | 0 => .array .int
  | 1 => .array .int
  | 2 => .array .int
  | 3 => .array .int
  | 4 => .array .int
  | 5 => .array .int
  | 6 => .array .boolean
  | _ => .int
theorem nmX8 : ∀ a, a < 8 → ∀ b, b < 8 → a ≠ b → (TX8 a).2.1 ≠ (TX8 b).2.1 := by decide +kernel
theorem tyX8_ok : ∀ k, k < 8 → parseFieldDescriptor (TX8 k).2.2.1 = some (tyX8 k) := by decide +kernel
abbrev cX8_init : ByteArray := prog_10_method_1_code
def yX8_init : MethodName := ⟨RX8, "<init>", "()V"⟩
abbrev cX8_addFact : ByteArray := prog_10_method_2_code
def yX8_addFact : MethodName := ⟨RX8, "addFact", "(IIIIIZ)I"⟩
abbrev cX8_tells : ByteArray := prog_10_method_3_code
def yX8_tells : MethodName := ⟨RX8, "tells", "(IIII)Z"⟩
abbrev cX8_valueOf : ByteArray := prog_10_method_4_code
def yX8_valueOf : MethodName := ⟨RX8, "valueOf", "(I)I"⟩
abbrev cX8_seenBy : ByteArray := prog_10_method_5_code
def yX8_seenBy : MethodName := ⟨RX8, "seenBy", "(LOneManDesk$Agent;I)I"⟩
abbrev cX8_wasSeen : ByteArray := prog_10_method_6_code
def yX8_wasSeen : MethodName := ⟨RX8, "wasSeen", "(ILOneManDesk$Agent;I)Z"⟩
abbrev cX8_showsSecret : ByteArray := prog_10_method_7_code
def yX8_showsSecret : MethodName := ⟨RX8, "showsSecret", "(LOneManDesk$Agent;I)Z"⟩
def RX9 : String := "OneManDesk"
def TX9 : u_T := fun k => match k with
  | 0 => ("OneManDesk", "land", "LOneManDesk$World;", true)
  | 1 => ("OneManDesk", "agents", "[LOneManDesk$Agent;", true)
  | 2 => ("OneManDesk", "text", "LOneManDesk$Text;", true)
  | 3 => ("OneManDesk", "postDays", "[I", true)
  | 4 => ("OneManDesk", "letters", "LOneManDesk$Mail;", true)
  | 5 => ("OneManDesk", "drafts", "LOneManDesk$Mail;", true)
  | 6 => ("OneManDesk", "readers", "[LOneManDesk$Reader;", true)
  | 7 => ("OneManDesk", "tale", "LOneManDesk$Story;", true)
  | 8 => ("OneManDesk", "scales", "LOneManDesk$Scales;", true)
  | 9 => ("OneManDesk", "plan", "LOneManDesk$Plan;", true)
  | _ => ("OneManDesk", "signs", "LOneManDesk$Signs;", true)
def tyX9 : Nat → FieldType := fun k => match k with
  | 0 => .object "OneManDesk$World"
  | 1 => .array (.object "OneManDesk$Agent")
  | 2 => .object "OneManDesk$Text"
  | 3 => .array .int
  | 4 => .object "OneManDesk$Mail"
  | 5 => .object "OneManDesk$Mail"
  | 6 => .array (.object "OneManDesk$Reader")
  | 7 => .object "OneManDesk$Story"
  | 8 => .object "OneManDesk$Scales"
  | 9 => .object "OneManDesk$Plan"
  | _ => .object "OneManDesk$Signs"
theorem nmX9 : ∀ a, a < 11 → ∀ b, b < 11 → a ≠ b → (TX9 a).2.1 ≠ (TX9 b).2.1 := by decide +kernel
theorem tyX9_ok : ∀ k, k < 11 → parseFieldDescriptor (TX9 k).2.2.1 = some (tyX9 k) := by decide +kernel
abbrev cX9_init : ByteArray := prog_1_method_1_code
def yX9_init : MethodName := ⟨RX9, "<init>", "()V"⟩
abbrev cX9_view : ByteArray := prog_1_method_2_code
def yX9_view : MethodName := ⟨RX9, "view", "(II)I"⟩
abbrev cX9_fact : ByteArray := prog_1_method_3_code
def yX9_fact : MethodName := ⟨RX9, "fact", "(IIIIIZ)I"⟩
abbrev cX9_world : ByteArray := prog_1_method_4_code
def yX9_world : MethodName := ⟨RX9, "world", "(III)I"⟩
abbrev cX9_home : ByteArray := prog_1_method_5_code
def yX9_home : MethodName := ⟨RX9, "home", "(II)I"⟩
abbrev cX9_write : ByteArray := prog_1_method_6_code
def yX9_write : MethodName := ⟨RX9, "write", "(JI)I"⟩
abbrev cX9_erase : ByteArray := prog_1_method_7_code
def yX9_erase : MethodName := ⟨RX9, "erase", "()I"⟩
abbrev cX9_fault : ByteArray := prog_1_method_8_code
def yX9_fault : MethodName := ⟨RX9, "fault", "(I)I"⟩
abbrev cX9_life : ByteArray := prog_1_method_9_code
def yX9_life : MethodName := ⟨RX9, "life", "(I)I"⟩
abbrev cX9_table : ByteArray := prog_1_method_10_code
def yX9_table : MethodName := ⟨RX9, "table", "(I)I"⟩
abbrev cX9_where : ByteArray := prog_1_method_11_code
def yX9_where : MethodName := ⟨RX9, "where", "(II)I"⟩
abbrev cX9_saw : ByteArray := prog_1_method_12_code
def yX9_saw : MethodName := ⟨RX9, "saw", "(II)I"⟩
abbrev cX9_post : ByteArray := prog_1_method_13_code
def yX9_post : MethodName := ⟨RX9, "post", "(II)I"⟩
abbrev cX9_send : ByteArray := prog_1_method_14_code
def yX9_send : MethodName := ⟨RX9, "send", "(IIIIIII)I"⟩
abbrev cX9_right : ByteArray := prog_1_method_15_code
def yX9_right : MethodName := ⟨RX9, "right", "(I)I"⟩
abbrev cX9_comes : ByteArray := prog_1_method_16_code
def yX9_comes : MethodName := ⟨RX9, "comes", "(I)I"⟩
abbrev cX9_slips : ByteArray := prog_1_method_17_code
def yX9_slips : MethodName := ⟨RX9, "slips", "(I)I"⟩
abbrev cX9_lacks : ByteArray := prog_1_method_18_code
def yX9_lacks : MethodName := ⟨RX9, "lacks", "(II)I"⟩
abbrev cX9_ill : ByteArray := prog_1_method_19_code
def yX9_ill : MethodName := ⟨RX9, "ill", "(I)I"⟩
abbrev cX9_eyes : ByteArray := prog_1_method_20_code
def yX9_eyes : MethodName := ⟨RX9, "eyes", "(IIII)I"⟩
abbrev cX9_told : ByteArray := prog_1_method_21_code
def yX9_told : MethodName := ⟨RX9, "told", "(II)I"⟩
abbrev cX9_trust : ByteArray := prog_1_method_22_code
def yX9_trust : MethodName := ⟨RX9, "trust", "(III)I"⟩
abbrev cX9_concluded : ByteArray := prog_1_method_23_code
def yX9_concluded : MethodName := ⟨RX9, "concluded", "(IIIII)I"⟩
abbrev cX9_weight : ByteArray := prog_1_method_24_code
def yX9_weight : MethodName := ⟨RX9, "weight", "(IIIIII)I"⟩
abbrev cX9_story : ByteArray := prog_1_method_25_code
def yX9_story : MethodName := ⟨RX9, "story", "(IIII)I"⟩
abbrev cX9_holds : ByteArray := prog_1_method_26_code
def yX9_holds : MethodName := ⟨RX9, "holds", "(II)I"⟩
abbrev cX9_keeps : ByteArray := prog_1_method_27_code
def yX9_keeps : MethodName := ⟨RX9, "keeps", "(II)I"⟩
abbrev cX9_draft : ByteArray := prog_1_method_28_code
def yX9_draft : MethodName := ⟨RX9, "draft", "(IIIIIII)I"⟩
abbrev cX9_mark : ByteArray := prog_1_method_29_code
def yX9_mark : MethodName := ⟨RX9, "mark", "(III)I"⟩
abbrev cX9_make : ByteArray := prog_1_method_30_code
def yX9_make : MethodName := ⟨RX9, "make", "(I)I"⟩
abbrev cX9_buy : ByteArray := prog_1_method_31_code
def yX9_buy : MethodName := ⟨RX9, "buy", "(III)I"⟩
abbrev cX9_question : ByteArray := prog_1_method_32_code
def yX9_question : MethodName := ⟨RX9, "question", "(IIII)I"⟩
abbrev cX9_pay : ByteArray := prog_1_method_33_code
def yX9_pay : MethodName := ⟨RX9, "pay", "(II)I"⟩
abbrev cX9_which : ByteArray := prog_1_method_34_code
def yX9_which : MethodName := ⟨RX9, "which", "()I"⟩
abbrev cX9_warning : ByteArray := prog_1_method_35_code
def yX9_warning : MethodName := ⟨RX9, "warning", "(III)I"⟩
abbrev cX9_count : ByteArray := prog_1_method_36_code
def yX9_count : MethodName := ⟨RX9, "count", "(I)I"⟩
abbrev cX9_isBelow : ByteArray := prog_1_method_37_code
def yX9_isBelow : MethodName := ⟨RX9, "isBelow", "(II)Z"⟩
abbrev cX9_isSpan : ByteArray := prog_1_method_38_code
def yX9_isSpan : MethodName := ⟨RX9, "isSpan", "(II)Z"⟩
abbrev cX9_hasBit : ByteArray := prog_1_method_39_code
def yX9_hasBit : MethodName := ⟨RX9, "hasBit", "(II)Z"⟩
abbrev cX9_refuseDayOf : ByteArray := prog_1_method_40_code
def yX9_refuseDayOf : MethodName := ⟨RX9, "refuseDayOf", "(III)I"⟩
abbrev cX9_refuseTopic : ByteArray := prog_1_method_41_code
def yX9_refuseTopic : MethodName := ⟨RX9, "refuseTopic", "(III)I"⟩
abbrev cX9_refuseReading : ByteArray := prog_1_method_42_code
def yX9_refuseReading : MethodName := ⟨RX9, "refuseReading", "(IIIII)I"⟩
abbrev cX9_refuseLetter : ByteArray := prog_1_method_43_code
def yX9_refuseLetter : MethodName := ⟨RX9, "refuseLetter", "(IIIIIII)I"⟩
abbrev cX9_topicOf : ByteArray := prog_1_method_44_code
def yX9_topicOf : MethodName := ⟨RX9, "topicOf", "(III)I"⟩
abbrev cX9_placeOf : ByteArray := prog_1_method_45_code
def yX9_placeOf : MethodName := ⟨RX9, "placeOf", "(I)I"⟩
abbrev cX9_kindOf : ByteArray := prog_1_method_46_code
def yX9_kindOf : MethodName := ⟨RX9, "kindOf", "(I)I"⟩
abbrev cX9_dayOf : ByteArray := prog_1_method_47_code
def yX9_dayOf : MethodName := ⟨RX9, "dayOf", "(I)I"⟩
def RX10 : String := "OneManDeskModel"
def TX10 : u_T := fun k => match k with
  | 0 => ("OneManDeskModel", "views", "[I", true)
  | 1 => ("OneManDeskModel", "factPlace", "[I", true)
  | 2 => ("OneManDeskModel", "factKind", "[I", true)
  | 3 => ("OneManDeskModel", "factFrom", "[I", true)
  | 4 => ("OneManDeskModel", "factTo", "[I", true)
  | 5 => ("OneManDeskModel", "factV", "[I", true)
  | 6 => ("OneManDeskModel", "isSecret", "[Z", true)
  | 7 => ("OneManDeskModel", "facts", "I", false)
  | 8 => ("OneManDeskModel", "homes", "[I", true)
  | 9 => ("OneManDeskModel", "text", "[I", true)
  | 10 => ("OneManDeskModel", "length", "I", false)
  | 11 => ("OneManDeskModel", "lifeMany", "[I", true)
  | 12 => ("OneManDeskModel", "lifePlace", "[I", true)
  | 13 => ("OneManDeskModel", "lifeFrom", "[I", true)
  | 14 => ("OneManDeskModel", "lifeTo", "[I", true)
  | 15 => ("OneManDeskModel", "table", "[I", true)
  | 16 => ("OneManDeskModel", "readMany", "I", false)
  | 17 => ("OneManDeskModel", "posts", "[I", true)
  | 18 => ("OneManDeskModel", "agents", "[I", true)
  | 19 => ("OneManDeskModel", "sents", "[I", true)
  | 20 => ("OneManDeskModel", "ways", "[I", true)
  | 21 => ("OneManDeskModel", "places", "[I", true)
  | 22 => ("OneManDeskModel", "kinds", "[I", true)
  | 23 => ("OneManDeskModel", "days", "[I", true)
  | 24 => ("OneManDeskModel", "values", "[I", true)
  | 25 => ("OneManDeskModel", "letters", "I", false)
  | 26 => ("OneManDeskModel", "drafts", "I", false)
  | 27 => ("OneManDeskModel", "risks", "[I", true)
  | 28 => ("OneManDeskModel", "costs", "[I", true)
  | 29 => ("OneManDeskModel", "eyePlace", "[I", true)
  | 30 => ("OneManDeskModel", "eyeFrom", "[I", true)
  | 31 => ("OneManDeskModel", "eyeTo", "[I", true)
  | 32 => ("OneManDeskModel", "eyeMany", "[I", true)
  | 33 => ("OneManDeskModel", "storyPlace", "[I", true)
  | 34 => ("OneManDeskModel", "storyKind", "[I", true)
  | 35 => ("OneManDeskModel", "storyDay", "[I", true)
  | 36 => ("OneManDeskModel", "storyV", "[I", true)
  | 37 => ("OneManDeskModel", "lines", "I", false)
  | 38 => ("OneManDeskModel", "signOn", "[I", true)
  | 39 => ("OneManDeskModel", "signPlace", "[I", true)
  | 40 => ("OneManDeskModel", "signOf", "[I", true)
  | 41 => ("OneManDeskModel", "signDay", "[I", true)
  | 42 => ("OneManDeskModel", "signs", "I", false)
  | 43 => ("OneManDeskModel", "at", "I", false)
  | 44 => ("OneManDeskModel", "place", "I", false)
  | 45 => ("OneManDeskModel", "end", "I", false)
  | 46 => ("OneManDeskModel", "figure", "I", false)
  | _ => ("OneManDeskModel", "beside", "I", false)
def tyX10 : Nat → FieldType := fun k => match k with
  | 0 => .array .int
  | 1 => .array .int
  | 2 => .array .int
  | 3 => .array .int
  | 4 => .array .int
  | 5 => .array .int
  | 6 => .array .boolean
  | 7 => .int
  | 8 => .array .int
  | 9 => .array .int
  | 10 => .int
  | 11 => .array .int
  | 12 => .array .int
  | 13 => .array .int
  | 14 => .array .int
  | 15 => .array .int
  | 16 => .int
  | 17 => .array .int
  | 18 => .array .int
  | 19 => .array .int
  | 20 => .array .int
  | 21 => .array .int
  | 22 => .array .int
  | 23 => .array .int
  | 24 => .array .int
  | 25 => .int
  | 26 => .int
  | 27 => .array .int
  | 28 => .array .int
  | 29 => .array .int
  | 30 => .array .int
  | 31 => .array .int
  | 32 => .array .int
  | 33 => .array .int
  | 34 => .array .int
  | 35 => .array .int
  | 36 => .array .int
  | 37 => .int
  | 38 => .array .int
  | 39 => .array .int
  | 40 => .array .int
  | 41 => .array .int
  | 42 => .int
  | 43 => .int
  | 44 => .int
  | 45 => .int
  | 46 => .int
  | _ => .int
theorem nmX10 : ∀ a, a < 48 → ∀ b, b < 48 → a ≠ b → (TX10 a).2.1 ≠ (TX10 b).2.1 := by decide +kernel
theorem tyX10_ok : ∀ k, k < 48 → parseFieldDescriptor (TX10 k).2.2.1 = some (tyX10 k) := by decide +kernel
abbrev cX10_init : ByteArray := prog_12_method_1_code
def yX10_init : MethodName := ⟨RX10, "<init>", "()V"⟩
abbrev cX10_in : ByteArray := prog_12_method_2_code
def yX10_in : MethodName := ⟨RX10, "in", "(JJJ)Z"⟩
abbrev cX10_isPlace : ByteArray := prog_12_method_3_code
def yX10_isPlace : MethodName := ⟨RX10, "isPlace", "(I)Z"⟩
abbrev cX10_isKind : ByteArray := prog_12_method_4_code
def yX10_isKind : MethodName := ⟨RX10, "isKind", "(I)Z"⟩
abbrev cX10_isDay : ByteArray := prog_12_method_5_code
def yX10_isDay : MethodName := ⟨RX10, "isDay", "(I)Z"⟩
abbrev cX10_isAgent : ByteArray := prog_12_method_6_code
def yX10_isAgent : MethodName := ⟨RX10, "isAgent", "(I)Z"⟩
abbrev cX10_isReader : ByteArray := prog_12_method_7_code
def yX10_isReader : MethodName := ⟨RX10, "isReader", "(I)Z"⟩
abbrev cX10_isWay : ByteArray := prog_12_method_8_code
def yX10_isWay : MethodName := ⟨RX10, "isWay", "(I)Z"⟩
abbrev cX10_view : ByteArray := prog_12_method_9_code
def yX10_view : MethodName := ⟨RX10, "view", "(II)I"⟩
abbrev cX10_fact : ByteArray := prog_12_method_10_code
def yX10_fact : MethodName := ⟨RX10, "fact", "(IIIIIZ)I"⟩
abbrev cX10_worldOf : ByteArray := prog_12_method_11_code
def yX10_worldOf : MethodName := ⟨RX10, "worldOf", "(III)I"⟩
abbrev cX10_world : ByteArray := prog_12_method_12_code
def yX10_world : MethodName := ⟨RX10, "world", "(III)I"⟩
abbrev cX10_home : ByteArray := prog_12_method_13_code
def yX10_home : MethodName := ⟨RX10, "home", "(II)I"⟩
abbrev cX10_write : ByteArray := prog_12_method_14_code
def yX10_write : MethodName := ⟨RX10, "write", "(JI)I"⟩
abbrev cX10_erase : ByteArray := prog_12_method_15_code
def yX10_erase : MethodName := ⟨RX10, "erase", "()I"⟩
abbrev cX10_sort : ByteArray := prog_12_method_16_code
def yX10_sort : MethodName := ⟨RX10, "sort", "(I)I"⟩
abbrev cX10_token : ByteArray := prog_12_method_17_code
def yX10_token : MethodName := ⟨RX10, "token", "()V"⟩
abbrev cX10_isWord : ByteArray := prog_12_method_18_code
def yX10_isWord : MethodName := ⟨RX10, "isWord", "(II)Z"⟩
abbrev cX10_skips : ByteArray := prog_12_method_19_code
def yX10_skips : MethodName := ⟨RX10, "skips", "(II)Z"⟩
abbrev cX10_skipsNumber : ByteArray := prog_12_method_20_code
def yX10_skipsNumber : MethodName := ⟨RX10, "skipsNumber", "(II)Z"⟩
abbrev cX10_readsLife : ByteArray := prog_12_method_21_code
def yX10_readsLife : MethodName := ⟨RX10, "readsLife", "()Z"⟩
abbrev cX10_readsTable : ByteArray := prog_12_method_22_code
def yX10_readsTable : MethodName := ⟨RX10, "readsTable", "()Z"⟩
abbrev cX10_readsOne : ByteArray := prog_12_method_23_code
def yX10_readsOne : MethodName := ⟨RX10, "readsOne", "(I)Z"⟩
abbrev cX10_faultAs : ByteArray := prog_12_method_24_code
def yX10_faultAs : MethodName := ⟨RX10, "faultAs", "(I)I"⟩
abbrev cX10_fault : ByteArray := prog_12_method_25_code
def yX10_fault : MethodName := ⟨RX10, "fault", "(I)I"⟩
abbrev cX10_life : ByteArray := prog_12_method_26_code
def yX10_life : MethodName := ⟨RX10, "life", "(I)I"⟩
abbrev cX10_table : ByteArray := prog_12_method_27_code
def yX10_table : MethodName := ⟨RX10, "table", "(I)I"⟩
abbrev cX10_whereIs : ByteArray := prog_12_method_28_code
def yX10_whereIs : MethodName := ⟨RX10, "whereIs", "(II)I"⟩
abbrev cX10_where : ByteArray := prog_12_method_29_code
def yX10_where : MethodName := ⟨RX10, "where", "(II)I"⟩
abbrev cX10_sawPlace : ByteArray := prog_12_method_30_code
def yX10_sawPlace : MethodName := ⟨RX10, "sawPlace", "(III)Z"⟩
abbrev cX10_saw : ByteArray := prog_12_method_31_code
def yX10_saw : MethodName := ⟨RX10, "saw", "(II)I"⟩
abbrev cX10_post : ByteArray := prog_12_method_32_code
def yX10_post : MethodName := ⟨RX10, "post", "(II)I"⟩
abbrev cX10_refuses : ByteArray := prog_12_method_33_code
def yX10_refuses : MethodName := ⟨RX10, "refuses", "(IIIIIII)I"⟩
abbrev cX10_lay : ByteArray := prog_12_method_34_code
def yX10_lay : MethodName := ⟨RX10, "lay", "(IIIIIIII)V"⟩
abbrev cX10_send : ByteArray := prog_12_method_35_code
def yX10_send : MethodName := ⟨RX10, "send", "(IIIIIII)I"⟩
abbrev cX10_isLetter : ByteArray := prog_12_method_36_code
def yX10_isLetter : MethodName := ⟨RX10, "isLetter", "(I)Z"⟩
abbrev cX10_isRight : ByteArray := prog_12_method_37_code
def yX10_isRight : MethodName := ⟨RX10, "isRight", "(I)Z"⟩
abbrev cX10_comesOn : ByteArray := prog_12_method_38_code
def yX10_comesOn : MethodName := ⟨RX10, "comesOn", "(I)I"⟩
abbrev cX10_right : ByteArray := prog_12_method_39_code
def yX10_right : MethodName := ⟨RX10, "right", "(I)I"⟩
abbrev cX10_comes : ByteArray := prog_12_method_40_code
def yX10_comes : MethodName := ⟨RX10, "comes", "(I)I"⟩
abbrev cX10_areOfOne : ByteArray := prog_12_method_41_code
def yX10_areOfOne : MethodName := ⟨RX10, "areOfOne", "(II)Z"⟩
abbrev cX10_slips : ByteArray := prog_12_method_42_code
def yX10_slips : MethodName := ⟨RX10, "slips", "(I)I"⟩
abbrev cX10_sawFact : ByteArray := prog_12_method_43_code
def yX10_sawFact : MethodName := ⟨RX10, "sawFact", "(III)Z"⟩
abbrev cX10_toldFact : ByteArray := prog_12_method_44_code
def yX10_toldFact : MethodName := ⟨RX10, "toldFact", "(III)Z"⟩
abbrev cX10_lacks : ByteArray := prog_12_method_45_code
def yX10_lacks : MethodName := ⟨RX10, "lacks", "(II)I"⟩
abbrev cX10_ill : ByteArray := prog_12_method_46_code
def yX10_ill : MethodName := ⟨RX10, "ill", "(I)I"⟩
abbrev cX10_isSent : ByteArray := prog_12_method_47_code
def yX10_isSent : MethodName := ⟨RX10, "isSent", "(I)Z"⟩
abbrev cX10_eyes : ByteArray := prog_12_method_48_code
def yX10_eyes : MethodName := ⟨RX10, "eyes", "(IIII)I"⟩
abbrev cX10_told : ByteArray := prog_12_method_49_code
def yX10_told : MethodName := ⟨RX10, "told", "(II)I"⟩
abbrev cX10_knows : ByteArray := prog_12_method_50_code
def yX10_knows : MethodName := ⟨RX10, "knows", "(IIII)Z"⟩
abbrev cX10_trustOf : ByteArray := prog_12_method_51_code
def yX10_trustOf : MethodName := ⟨RX10, "trustOf", "(III)I"⟩
abbrev cX10_trust : ByteArray := prog_12_method_52_code
def yX10_trust : MethodName := ⟨RX10, "trust", "(III)I"⟩
abbrev cX10_tellers : ByteArray := prog_12_method_53_code
def yX10_tellers : MethodName := ⟨RX10, "tellers", "(IIIII)I"⟩
abbrev cX10_weightOf : ByteArray := prog_12_method_54_code
def yX10_weightOf : MethodName := ⟨RX10, "weightOf", "(III)I"⟩
abbrev cX10_concludes : ByteArray := prog_12_method_55_code
def yX10_concludes : MethodName := ⟨RX10, "concludes", "(IIIII)I"⟩
abbrev cX10_concluded : ByteArray := prog_12_method_56_code
def yX10_concluded : MethodName := ⟨RX10, "concluded", "(IIIII)I"⟩
abbrev cX10_weight : ByteArray := prog_12_method_57_code
def yX10_weight : MethodName := ⟨RX10, "weight", "(IIIIII)I"⟩
abbrev cX10_story : ByteArray := prog_12_method_58_code
def yX10_story : MethodName := ⟨RX10, "story", "(IIII)I"⟩
abbrev cX10_heldOn : ByteArray := prog_12_method_59_code
def yX10_heldOn : MethodName := ⟨RX10, "heldOn", "(II)I"⟩
abbrev cX10_isHeld : ByteArray := prog_12_method_60_code
def yX10_isHeld : MethodName := ⟨RX10, "isHeld", "(II)Z"⟩
abbrev cX10_holds : ByteArray := prog_12_method_61_code
def yX10_holds : MethodName := ⟨RX10, "holds", "(II)I"⟩
abbrev cX10_keeps : ByteArray := prog_12_method_62_code
def yX10_keeps : MethodName := ⟨RX10, "keeps", "(II)I"⟩
abbrev cX10_draft : ByteArray := prog_12_method_63_code
def yX10_draft : MethodName := ⟨RX10, "draft", "(IIIIIII)I"⟩
abbrev cX10_mark : ByteArray := prog_12_method_64_code
def yX10_mark : MethodName := ⟨RX10, "mark", "(III)I"⟩
abbrev cX10_riskOf : ByteArray := prog_12_method_65_code
def yX10_riskOf : MethodName := ⟨RX10, "riskOf", "(I)I"⟩
abbrev cX10_costOf : ByteArray := prog_12_method_66_code
def yX10_costOf : MethodName := ⟨RX10, "costOf", "(I)I"⟩
abbrev cX10_make : ByteArray := prog_12_method_67_code
def yX10_make : MethodName := ⟨RX10, "make", "(I)I"⟩
abbrev cX10_buy : ByteArray := prog_12_method_68_code
def yX10_buy : MethodName := ⟨RX10, "buy", "(III)I"⟩
abbrev cX10_sign : ByteArray := prog_12_method_69_code
def yX10_sign : MethodName := ⟨RX10, "sign", "(IIII)I"⟩
abbrev cX10_question : ByteArray := prog_12_method_70_code
def yX10_question : MethodName := ⟨RX10, "question", "(IIII)I"⟩
abbrev cX10_pay : ByteArray := prog_12_method_71_code
def yX10_pay : MethodName := ⟨RX10, "pay", "(II)I"⟩
abbrev cX10_which : ByteArray := prog_12_method_72_code
def yX10_which : MethodName := ⟨RX10, "which", "()I"⟩
abbrev cX10_warning : ByteArray := prog_12_method_73_code
def yX10_warning : MethodName := ⟨RX10, "warning", "(III)I"⟩
abbrev cX10_count : ByteArray := prog_12_method_74_code
def yX10_count : MethodName := ⟨RX10, "count", "(I)I"⟩
def RJx8e188 : String := "java/lang/Cloneable"
def TJx8e188 : u_T := fun k => match k with
  | _ => ("", "", "", false)
def tyJx8e188 : Nat → FieldType := fun k => match k with
  | _ => .int
theorem nmJx8e188 : ∀ a, a < 0 → ∀ b, b < 0 → a ≠ b → (TJx8e188 a).2.1 ≠ (TJx8e188 b).2.1 := by decide +kernel
theorem tyJx8e188_ok : ∀ k, k < 0 → parseFieldDescriptor (TJx8e188 k).2.2.1 = some (tyJx8e188 k) := by decide +kernel
def RJ6 : String := "java/lang/Integer"
def TJ6 : u_T := fun k => match k with
  | _ => ("", "", "", false)
def tyJ6 : Nat → FieldType := fun k => match k with
  | _ => .int
theorem nmJ6 : ∀ a, a < 0 → ∀ b, b < 0 → a ≠ b → (TJ6 a).2.1 ≠ (TJ6 b).2.1 := by decide +kernel
theorem tyJ6_ok : ∀ k, k < 0 → parseFieldDescriptor (TJ6 k).2.2.1 = some (tyJ6 k) := by decide +kernel
abbrev cJ6_bitCount_0f7a4 : ByteArray := prog_14_method_49_code
def yJ6_bitCount_0f7a4 : MethodName := ⟨RJ6, "bitCount", "(I)I"⟩
def RJ9 : String := "java/lang/Math"
def TJ9 : u_T := fun k => match k with
  | _ => ("", "", "", false)
def tyJ9 : Nat → FieldType := fun k => match k with
  | _ => .int
theorem nmJ9 : ∀ a, a < 0 → ∀ b, b < 0 → a ≠ b → (TJ9 a).2.1 ≠ (TJ9 b).2.1 := by decide +kernel
theorem tyJ9_ok : ∀ k, k < 0 → parseFieldDescriptor (TJ9 k).2.2.1 = some (tyJ9 k) := by decide +kernel
abbrev cJ9_max_7cf53 : ByteArray := prog_15_method_65_code
def yJ9_max_7cf53 : MethodName := ⟨RJ9, "max", "(II)I"⟩
abbrev cJ9_min_7cf53 : ByteArray := prog_15_method_69_code
def yJ9_min_7cf53 : MethodName := ⟨RJ9, "min", "(II)I"⟩
def RJ0 : String := "java/lang/String"
def TJ0 : u_T := fun k => match k with
  | _ => ("", "", "", false)
def tyJ0 : Nat → FieldType := fun k => match k with
  | _ => .int
theorem nmJ0 : ∀ a, a < 0 → ∀ b, b < 0 → a ≠ b → (TJ0 a).2.1 ≠ (TJ0 b).2.1 := by decide +kernel
theorem tyJ0_ok : ∀ k, k < 0 → parseFieldDescriptor (TJ0 k).2.2.1 = some (tyJ0 k) := by decide +kernel
abbrev cJ0_length_8abf5 : ByteArray := prog_16_method_54_code
def yJ0_length_8abf5 : MethodName := ⟨RJ0, "length", "()I"⟩
abbrev cJ0_charAt_5068e : ByteArray := prog_16_method_56_code
def yJ0_charAt_5068e : MethodName := ⟨RJ0, "charAt", "(I)C"⟩
abbrev cJ0_coder_7d493 : ByteArray := prog_16_method_152_code
def yJ0_coder_7d493 : MethodName := ⟨RJ0, "coder", "()B"⟩
abbrev cJ0_isLatin1_aae02 : ByteArray := prog_16_method_154_code
def yJ0_isLatin1_aae02 : MethodName := ⟨RJ0, "isLatin1", "()Z"⟩
abbrev cJ0_checkIndex_df160 : ByteArray := prog_16_method_155_code
def yJ0_checkIndex_df160 : MethodName := ⟨RJ0, "checkIndex", "(II)V"⟩
def RJ1 : String := "java/lang/StringLatin1"
def TJ1 : u_T := fun k => match k with
  | _ => ("", "", "", false)
def tyJ1 : Nat → FieldType := fun k => match k with
  | _ => .int
theorem nmJ1 : ∀ a, a < 0 → ∀ b, b < 0 → a ≠ b → (TJ1 a).2.1 ≠ (TJ1 b).2.1 := by decide +kernel
theorem tyJ1_ok : ∀ k, k < 0 → parseFieldDescriptor (TJ1 k).2.2.1 = some (tyJ1 k) := by decide +kernel
abbrev cJ1_charAt_3b067 : ByteArray := prog_17_method_2_code
def yJ1_charAt_3b067 : MethodName := ⟨RJ1, "charAt", "([BI)C"⟩
def RJ2 : String := "java/lang/StringUTF16"
def TJ2 : u_T := fun k => match k with
  | _ => ("", "", "", false)
def tyJ2 : Nat → FieldType := fun k => match k with
  | _ => .int
theorem nmJ2 : ∀ a, a < 0 → ∀ b, b < 0 → a ≠ b → (TJ2 a).2.1 ≠ (TJ2 b).2.1 := by decide +kernel
theorem tyJ2_ok : ∀ k, k < 0 → parseFieldDescriptor (TJ2 k).2.2.1 = some (tyJ2 k) := by decide +kernel
abbrev cJ2_getChar_3b067 : ByteArray := prog_18_method_5_code
def yJ2_getChar_3b067 : MethodName := ⟨RJ2, "getChar", "([BI)C"⟩
abbrev cJ2_length_9d52b : ByteArray := prog_18_method_6_code
def yJ2_length_9d52b : MethodName := ⟨RJ2, "length", "([B)I"⟩
abbrev cJ2_charAt_3b067 : ByteArray := prog_18_method_83_code
def yJ2_charAt_3b067 : MethodName := ⟨RJ2, "charAt", "([BI)C"⟩
abbrev cJ2_checkIndex_2214a : ByteArray := prog_18_method_91_code
def yJ2_checkIndex_2214a : MethodName := ⟨RJ2, "checkIndex", "(I[B)V"⟩
def RJ10 : String := "java/lang/System"
def TJ10 : u_T := fun k => match k with
  | _ => ("", "", "", false)
def tyJ10 : Nat → FieldType := fun k => match k with
  | _ => .int
theorem nmJ10 : ∀ a, a < 0 → ∀ b, b < 0 → a ≠ b → (TJ10 a).2.1 ≠ (TJ10 b).2.1 := by decide +kernel
theorem tyJ10_ok : ∀ k, k < 0 → parseFieldDescriptor (TJ10 k).2.2.1 = some (tyJ10 k) := by decide +kernel
def RJ3 : String := "jdk/internal/util/Preconditions"
def TJ3 : u_T := fun k => match k with
  | _ => ("", "", "", false)
def tyJ3 : Nat → FieldType := fun k => match k with
  | _ => .int
theorem nmJ3 : ∀ a, a < 0 → ∀ b, b < 0 → a ≠ b → (TJ3 a).2.1 ≠ (TJ3 b).2.1 := by decide +kernel
theorem tyJ3_ok : ∀ k, k < 0 → parseFieldDescriptor (TJ3 k).2.2.1 = some (tyJ3 k) := by decide +kernel
abbrev cJ3_checkIndex_8e157 : ByteArray := prog_20_method_11_code
def yJ3_checkIndex_8e157 : MethodName := ⟨RJ3, "checkIndex", "(IILjava/util/function/BiFunction;)I"⟩
def RL : String := "OneManDeskLaw"
abbrev cL_law : ByteArray := code
def yL_law : MethodName := ⟨RL, "law", "([I)Z"⟩
abbrev vwCl : List vw_C := [(RX0, TX0, 5), (RX1, TX1, 8), (RX2, TX2, 10), (RX3, TX3, 5), (RX4, TX4, 4), (RX5, TX5, 4), (RX6, TX6, 3), (RX7, TX7, 8), (RX8, TX8, 8), (RX9, TX9, 11), (RX10, TX10, 48)]
end
section
theorem dX0_init_0 : decode cX0_init 0 = .ok (.aload_n 0, 1) := by decide +kernel
theorem dX0_init_1 : decode cX0_init 1 = .ok (.invokespecial 3, 3) := by decide +kernel
theorem dX0_init_4 : decode cX0_init 4 = .ok (.aload_n 0, 1) := by decide +kernel
theorem dX0_init_5 : decode cX0_init 5 = .ok (.bipush 8, 2) := by decide +kernel
theorem dX0_init_7 : decode cX0_init 7 = .ok (.newarray .int, 2) := by decide +kernel
theorem dX0_init_9 : decode cX0_init 9 = .ok (.putfield 9, 3) := by decide +kernel
theorem dX0_init_12 : decode cX0_init 12 = .ok (.aload_n 0, 1) := by decide +kernel
theorem dX0_init_13 : decode cX0_init 13 = .ok (.bipush 8, 2) := by decide +kernel
theorem dX0_init_15 : decode cX0_init 15 = .ok (.newarray .int, 2) := by decide +kernel
theorem dX0_init_17 : decode cX0_init 17 = .ok (.putfield 15, 3) := by decide +kernel
theorem dX0_init_20 : decode cX0_init 20 = .ok (.aload_n 0, 1) := by decide +kernel
theorem dX0_init_21 : decode cX0_init 21 = .ok (.bipush 8, 2) := by decide +kernel
theorem dX0_init_23 : decode cX0_init 23 = .ok (.newarray .int, 2) := by decide +kernel
theorem dX0_init_25 : decode cX0_init 25 = .ok (.putfield 18, 3) := by decide +kernel
theorem dX0_init_28 : decode cX0_init 28 = .ok (.aload_n 0, 1) := by decide +kernel
theorem dX0_init_29 : decode cX0_init 29 = .ok (.iconst 0, 1) := by decide +kernel
theorem dX0_init_30 : decode cX0_init 30 = .ok (.putfield 21, 3) := by decide +kernel
theorem dX0_init_33 : decode cX0_init 33 = .ok (.aload_n 0, 1) := by decide +kernel
theorem dX0_init_34 : decode cX0_init 34 = .ok (.iconst 0, 1) := by decide +kernel
theorem dX0_init_35 : decode cX0_init 35 = .ok (.putfield 25, 3) := by decide +kernel
theorem dX0_init_38 : decode cX0_init 38 = .ok (.return_, 1) := by decide +kernel
theorem dX0_live_0 : decode cX0_live 0 = .ok (.aload_n 0, 1) := by decide +kernel
theorem dX0_live_1 : decode cX0_live 1 = .ok (.aload_n 1, 1) := by decide +kernel
theorem dX0_live_2 : decode cX0_live 2 = .ok (.getfield 28, 3) := by decide +kernel
theorem dX0_live_5 : decode cX0_live 5 = .ok (.putfield 25, 3) := by decide +kernel
theorem dX0_live_8 : decode cX0_live 8 = .ok (.iconst 0, 1) := by decide +kernel
theorem dX0_live_9 : decode cX0_live 9 = .ok (.istore_n 2, 1) := by decide +kernel
theorem dX0_live_10 : decode cX0_live 10 = .ok (.iload_n 2, 1) := by decide +kernel
theorem dX0_live_11 : decode cX0_live 11 = .ok (.aload_n 0, 1) := by decide +kernel
theorem dX0_live_12 : decode cX0_live 12 = .ok (.getfield 25, 3) := by decide +kernel
theorem dX0_live_15 : decode cX0_live 15 = .ok (.if_icmp .ge 45, 3) := by decide +kernel
theorem dX0_live_18 : decode cX0_live 18 = .ok (.aload_n 0, 1) := by decide +kernel
theorem dX0_live_19 : decode cX0_live 19 = .ok (.getfield 9, 3) := by decide +kernel
theorem dX0_live_22 : decode cX0_live 22 = .ok (.iload_n 2, 1) := by decide +kernel
theorem dX0_live_23 : decode cX0_live 23 = .ok (.aload_n 1, 1) := by decide +kernel
theorem dX0_live_24 : decode cX0_live 24 = .ok (.getfield 31, 3) := by decide +kernel
theorem dX0_live_27 : decode cX0_live 27 = .ok (.iload_n 2, 1) := by decide +kernel
theorem dX0_live_28 : decode cX0_live 28 = .ok (.iaload, 1) := by decide +kernel
theorem dX0_live_29 : decode cX0_live 29 = .ok (.iastore, 1) := by decide +kernel
theorem dX0_live_30 : decode cX0_live 30 = .ok (.aload_n 0, 1) := by decide +kernel
theorem dX0_live_31 : decode cX0_live 31 = .ok (.getfield 15, 3) := by decide +kernel
theorem dX0_live_34 : decode cX0_live 34 = .ok (.iload_n 2, 1) := by decide +kernel
theorem dX0_live_35 : decode cX0_live 35 = .ok (.aload_n 1, 1) := by decide +kernel
theorem dX0_live_36 : decode cX0_live 36 = .ok (.getfield 34, 3) := by decide +kernel
theorem dX0_live_39 : decode cX0_live 39 = .ok (.iload_n 2, 1) := by decide +kernel
theorem dX0_live_40 : decode cX0_live 40 = .ok (.iaload, 1) := by decide +kernel
theorem dX0_live_41 : decode cX0_live 41 = .ok (.iastore, 1) := by decide +kernel
theorem dX0_live_42 : decode cX0_live 42 = .ok (.aload_n 0, 1) := by decide +kernel
theorem dX0_live_43 : decode cX0_live 43 = .ok (.getfield 18, 3) := by decide +kernel
theorem dX0_live_46 : decode cX0_live 46 = .ok (.iload_n 2, 1) := by decide +kernel
theorem dX0_live_47 : decode cX0_live 47 = .ok (.aload_n 1, 1) := by decide +kernel
theorem dX0_live_48 : decode cX0_live 48 = .ok (.getfield 37, 3) := by decide +kernel
theorem dX0_live_51 : decode cX0_live 51 = .ok (.iload_n 2, 1) := by decide +kernel
theorem dX0_live_52 : decode cX0_live 52 = .ok (.iaload, 1) := by decide +kernel
theorem dX0_live_53 : decode cX0_live 53 = .ok (.iastore, 1) := by decide +kernel
theorem dX0_live_54 : decode cX0_live 54 = .ok (.iinc 2 1, 3) := by decide +kernel
theorem dX0_live_57 : decode cX0_live 57 = .ok (.goto (-47), 3) := by decide +kernel
theorem dX0_live_60 : decode cX0_live 60 = .ok (.aload_n 0, 1) := by decide +kernel
theorem dX0_live_61 : decode cX0_live 61 = .ok (.getfield 25, 3) := by decide +kernel
theorem dX0_live_64 : decode cX0_live 64 = .ok (.ireturn, 1) := by decide +kernel
theorem dX0_placeOn_0 : decode cX0_placeOn 0 = .ok (.aload_n 0, 1) := by decide +kernel
theorem dX0_placeOn_1 : decode cX0_placeOn 1 = .ok (.getfield 25, 3) := by decide +kernel
theorem dX0_placeOn_4 : decode cX0_placeOn 4 = .ok (.iconst 1, 1) := by decide +kernel
theorem dX0_placeOn_5 : decode cX0_placeOn 5 = .ok (.isub, 1) := by decide +kernel
theorem dX0_placeOn_6 : decode cX0_placeOn 6 = .ok (.istore_n 2, 1) := by decide +kernel
theorem dX0_placeOn_7 : decode cX0_placeOn 7 = .ok (.iload_n 2, 1) := by decide +kernel
theorem dX0_placeOn_8 : decode cX0_placeOn 8 = .ok (.ifCond .lt 36, 3) := by decide +kernel
theorem dX0_placeOn_11 : decode cX0_placeOn 11 = .ok (.aload_n 0, 1) := by decide +kernel
theorem dX0_placeOn_12 : decode cX0_placeOn 12 = .ok (.getfield 15, 3) := by decide +kernel
theorem dX0_placeOn_15 : decode cX0_placeOn 15 = .ok (.iload_n 2, 1) := by decide +kernel
theorem dX0_placeOn_16 : decode cX0_placeOn 16 = .ok (.iaload, 1) := by decide +kernel
theorem dX0_placeOn_17 : decode cX0_placeOn 17 = .ok (.iload_n 1, 1) := by decide +kernel
theorem dX0_placeOn_18 : decode cX0_placeOn 18 = .ok (.if_icmp .gt 20, 3) := by decide +kernel
theorem dX0_placeOn_21 : decode cX0_placeOn 21 = .ok (.iload_n 1, 1) := by decide +kernel
theorem dX0_placeOn_22 : decode cX0_placeOn 22 = .ok (.aload_n 0, 1) := by decide +kernel
theorem dX0_placeOn_23 : decode cX0_placeOn 23 = .ok (.getfield 18, 3) := by decide +kernel
theorem dX0_placeOn_26 : decode cX0_placeOn 26 = .ok (.iload_n 2, 1) := by decide +kernel
theorem dX0_placeOn_27 : decode cX0_placeOn 27 = .ok (.iaload, 1) := by decide +kernel
theorem dX0_placeOn_28 : decode cX0_placeOn 28 = .ok (.if_icmp .gt 10, 3) := by decide +kernel
theorem dX0_placeOn_31 : decode cX0_placeOn 31 = .ok (.aload_n 0, 1) := by decide +kernel
theorem dX0_placeOn_32 : decode cX0_placeOn 32 = .ok (.getfield 9, 3) := by decide +kernel
theorem dX0_placeOn_35 : decode cX0_placeOn 35 = .ok (.iload_n 2, 1) := by decide +kernel
theorem dX0_placeOn_36 : decode cX0_placeOn 36 = .ok (.iaload, 1) := by decide +kernel
theorem dX0_placeOn_37 : decode cX0_placeOn 37 = .ok (.ireturn, 1) := by decide +kernel
theorem dX0_placeOn_38 : decode cX0_placeOn 38 = .ok (.iinc 2 (-1), 3) := by decide +kernel
theorem dX0_placeOn_41 : decode cX0_placeOn 41 = .ok (.goto (-34), 3) := by decide +kernel
theorem dX0_placeOn_44 : decode cX0_placeOn 44 = .ok (.aload_n 0, 1) := by decide +kernel
theorem dX0_placeOn_45 : decode cX0_placeOn 45 = .ok (.getfield 21, 3) := by decide +kernel
theorem dX0_placeOn_48 : decode cX0_placeOn 48 = .ok (.ireturn, 1) := by decide +kernel
theorem dX1_init_0 : decode cX1_init 0 = .ok (.aload_n 0, 1) := by decide +kernel
theorem dX1_init_1 : decode cX1_init 1 = .ok (.invokespecial 3, 3) := by decide +kernel
theorem dX1_init_4 : decode cX1_init 4 = .ok (.aload_n 0, 1) := by decide +kernel
theorem dX1_init_5 : decode cX1_init 5 = .ok (.iconst 0, 1) := by decide +kernel
theorem dX1_init_6 : decode cX1_init 6 = .ok (.putfield 9, 3) := by decide +kernel
theorem dX1_init_9 : decode cX1_init 9 = .ok (.aload_n 0, 1) := by decide +kernel
theorem dX1_init_10 : decode cX1_init 10 = .ok (.iload_n 1, 1) := by decide +kernel
theorem dX1_init_11 : decode cX1_init 11 = .ok (.putfield 15, 3) := by decide +kernel
theorem dX1_init_14 : decode cX1_init 14 = .ok (.aload_n 0, 1) := by decide +kernel
theorem dX1_init_15 : decode cX1_init 15 = .ok (.aload_n 2, 1) := by decide +kernel
theorem dX1_init_16 : decode cX1_init 16 = .ok (.putfield 18, 3) := by decide +kernel
theorem dX1_init_19 : decode cX1_init 19 = .ok (.aload_n 0, 1) := by decide +kernel
theorem dX1_init_20 : decode cX1_init 20 = .ok (.iload_n 1, 1) := by decide +kernel
theorem dX1_init_21 : decode cX1_init 21 = .ok (.newarray .int, 2) := by decide +kernel
theorem dX1_init_23 : decode cX1_init 23 = .ok (.putfield 22, 3) := by decide +kernel
theorem dX1_init_26 : decode cX1_init 26 = .ok (.aload_n 0, 1) := by decide +kernel
theorem dX1_init_27 : decode cX1_init 27 = .ok (.iload_n 1, 1) := by decide +kernel
theorem dX1_init_28 : decode cX1_init 28 = .ok (.newarray .int, 2) := by decide +kernel
theorem dX1_init_30 : decode cX1_init 30 = .ok (.putfield 25, 3) := by decide +kernel
theorem dX1_init_33 : decode cX1_init 33 = .ok (.aload_n 0, 1) := by decide +kernel
theorem dX1_init_34 : decode cX1_init 34 = .ok (.iload_n 1, 1) := by decide +kernel
theorem dX1_init_35 : decode cX1_init 35 = .ok (.newarray .int, 2) := by decide +kernel
theorem dX1_init_37 : decode cX1_init 37 = .ok (.putfield 28, 3) := by decide +kernel
theorem dX1_init_40 : decode cX1_init 40 = .ok (.aload_n 0, 1) := by decide +kernel
theorem dX1_init_41 : decode cX1_init 41 = .ok (.iload_n 1, 1) := by decide +kernel
theorem dX1_init_42 : decode cX1_init 42 = .ok (.newarray .int, 2) := by decide +kernel
theorem dX1_init_44 : decode cX1_init 44 = .ok (.putfield 31, 3) := by decide +kernel
theorem dX1_init_47 : decode cX1_init 47 = .ok (.aload_n 0, 1) := by decide +kernel
theorem dX1_init_48 : decode cX1_init 48 = .ok (.iload_n 1, 1) := by decide +kernel
theorem dX1_init_49 : decode cX1_init 49 = .ok (.newarray .int, 2) := by decide +kernel
theorem dX1_init_51 : decode cX1_init 51 = .ok (.putfield 34, 3) := by decide +kernel
theorem dX1_init_54 : decode cX1_init 54 = .ok (.return_, 1) := by decide +kernel
theorem dX1_add_0 : decode cX1_add 0 = .ok (.aload_n 0, 1) := by decide +kernel
theorem dX1_add_1 : decode cX1_add 1 = .ok (.getfield 9, 3) := by decide +kernel
theorem dX1_add_4 : decode cX1_add 4 = .ok (.aload_n 0, 1) := by decide +kernel
theorem dX1_add_5 : decode cX1_add 5 = .ok (.getfield 15, 3) := by decide +kernel
theorem dX1_add_8 : decode cX1_add 8 = .ok (.if_icmp .lt 6, 3) := by decide +kernel
theorem dX1_add_11 : decode cX1_add 11 = .ok (.bipush (-5), 2) := by decide +kernel
theorem dX1_add_13 : decode cX1_add 13 = .ok (.ireturn, 1) := by decide +kernel
theorem dX1_add_14 : decode cX1_add 14 = .ok (.aload_n 0, 1) := by decide +kernel
theorem dX1_add_15 : decode cX1_add 15 = .ok (.getfield 22, 3) := by decide +kernel
theorem dX1_add_18 : decode cX1_add 18 = .ok (.aload_n 0, 1) := by decide +kernel
theorem dX1_add_19 : decode cX1_add 19 = .ok (.getfield 9, 3) := by decide +kernel
theorem dX1_add_22 : decode cX1_add 22 = .ok (.iload_n 1, 1) := by decide +kernel
theorem dX1_add_23 : decode cX1_add 23 = .ok (.iastore, 1) := by decide +kernel
theorem dX1_add_24 : decode cX1_add 24 = .ok (.aload_n 0, 1) := by decide +kernel
theorem dX1_add_25 : decode cX1_add 25 = .ok (.getfield 25, 3) := by decide +kernel
theorem dX1_add_28 : decode cX1_add 28 = .ok (.aload_n 0, 1) := by decide +kernel
theorem dX1_add_29 : decode cX1_add 29 = .ok (.getfield 9, 3) := by decide +kernel
theorem dX1_add_32 : decode cX1_add 32 = .ok (.iload_n 2, 1) := by decide +kernel
theorem dX1_add_33 : decode cX1_add 33 = .ok (.iastore, 1) := by decide +kernel
theorem dX1_add_34 : decode cX1_add 34 = .ok (.aload_n 0, 1) := by decide +kernel
theorem dX1_add_35 : decode cX1_add 35 = .ok (.getfield 28, 3) := by decide +kernel
theorem dX1_add_38 : decode cX1_add 38 = .ok (.aload_n 0, 1) := by decide +kernel
theorem dX1_add_39 : decode cX1_add 39 = .ok (.getfield 9, 3) := by decide +kernel
theorem dX1_add_42 : decode cX1_add 42 = .ok (.iload_n 3, 1) := by decide +kernel
theorem dX1_add_43 : decode cX1_add 43 = .ok (.iastore, 1) := by decide +kernel
theorem dX1_add_44 : decode cX1_add 44 = .ok (.aload_n 0, 1) := by decide +kernel
theorem dX1_add_45 : decode cX1_add 45 = .ok (.getfield 31, 3) := by decide +kernel
theorem dX1_add_48 : decode cX1_add 48 = .ok (.aload_n 0, 1) := by decide +kernel
theorem dX1_add_49 : decode cX1_add 49 = .ok (.getfield 9, 3) := by decide +kernel
theorem dX1_add_52 : decode cX1_add 52 = .ok (.iload 4, 2) := by decide +kernel
theorem dX1_add_54 : decode cX1_add 54 = .ok (.iastore, 1) := by decide +kernel
theorem dX1_add_55 : decode cX1_add 55 = .ok (.aload_n 0, 1) := by decide +kernel
theorem dX1_add_56 : decode cX1_add 56 = .ok (.getfield 34, 3) := by decide +kernel
theorem dX1_add_59 : decode cX1_add 59 = .ok (.aload_n 0, 1) := by decide +kernel
theorem dX1_add_60 : decode cX1_add 60 = .ok (.getfield 9, 3) := by decide +kernel
theorem dX1_add_63 : decode cX1_add 63 = .ok (.iload 5, 2) := by decide +kernel
theorem dX1_add_65 : decode cX1_add 65 = .ok (.iastore, 1) := by decide +kernel
theorem dX1_add_66 : decode cX1_add 66 = .ok (.aload_n 0, 1) := by decide +kernel
theorem dX1_add_67 : decode cX1_add 67 = .ok (.dup, 1) := by decide +kernel
theorem dX1_add_68 : decode cX1_add 68 = .ok (.getfield 9, 3) := by decide +kernel
theorem dX1_add_71 : decode cX1_add 71 = .ok (.iconst 1, 1) := by decide +kernel
theorem dX1_add_72 : decode cX1_add 72 = .ok (.iadd, 1) := by decide +kernel
theorem dX1_add_73 : decode cX1_add 73 = .ok (.putfield 9, 3) := by decide +kernel
theorem dX1_add_76 : decode cX1_add 76 = .ok (.aload_n 0, 1) := by decide +kernel
theorem dX1_add_77 : decode cX1_add 77 = .ok (.getfield 9, 3) := by decide +kernel
theorem dX1_add_80 : decode cX1_add 80 = .ok (.iconst 1, 1) := by decide +kernel
theorem dX1_add_81 : decode cX1_add 81 = .ok (.isub, 1) := by decide +kernel
theorem dX1_add_82 : decode cX1_add 82 = .ok (.ireturn, 1) := by decide +kernel
theorem dX1_cameOn_0 : decode cX1_cameOn 0 = .ok (.aload_n 0, 1) := by decide +kernel
theorem dX1_cameOn_1 : decode cX1_cameOn 1 = .ok (.getfield 25, 3) := by decide +kernel
theorem dX1_cameOn_4 : decode cX1_cameOn 4 = .ok (.iload_n 1, 1) := by decide +kernel
theorem dX1_cameOn_5 : decode cX1_cameOn 5 = .ok (.iaload, 1) := by decide +kernel
theorem dX1_cameOn_6 : decode cX1_cameOn 6 = .ok (.aload_n 0, 1) := by decide +kernel
theorem dX1_cameOn_7 : decode cX1_cameOn 7 = .ok (.getfield 18, 3) := by decide +kernel
theorem dX1_cameOn_10 : decode cX1_cameOn 10 = .ok (.aload_n 0, 1) := by decide +kernel
theorem dX1_cameOn_11 : decode cX1_cameOn 11 = .ok (.getfield 28, 3) := by decide +kernel
theorem dX1_cameOn_14 : decode cX1_cameOn 14 = .ok (.iload_n 1, 1) := by decide +kernel
theorem dX1_cameOn_15 : decode cX1_cameOn 15 = .ok (.iaload, 1) := by decide +kernel
theorem dX1_cameOn_16 : decode cX1_cameOn 16 = .ok (.iaload, 1) := by decide +kernel
theorem dX1_cameOn_17 : decode cX1_cameOn 17 = .ok (.iadd, 1) := by decide +kernel
theorem dX1_cameOn_18 : decode cX1_cameOn 18 = .ok (.ireturn, 1) := by decide +kernel
theorem dX1_unlike_0 : decode cX1_unlike 0 = .ok (.iconst 0, 1) := by decide +kernel
theorem dX1_unlike_1 : decode cX1_unlike 1 = .ok (.istore_n 2, 1) := by decide +kernel
theorem dX1_unlike_2 : decode cX1_unlike 2 = .ok (.iconst 0, 1) := by decide +kernel
theorem dX1_unlike_3 : decode cX1_unlike 3 = .ok (.istore_n 3, 1) := by decide +kernel
theorem dX1_unlike_4 : decode cX1_unlike 4 = .ok (.iload_n 3, 1) := by decide +kernel
theorem dX1_unlike_5 : decode cX1_unlike 5 = .ok (.aload_n 0, 1) := by decide +kernel
theorem dX1_unlike_6 : decode cX1_unlike 6 = .ok (.getfield 9, 3) := by decide +kernel
theorem dX1_unlike_9 : decode cX1_unlike 9 = .ok (.if_icmp .ge 63, 3) := by decide +kernel
theorem dX1_unlike_12 : decode cX1_unlike 12 = .ok (.aload_n 0, 1) := by decide +kernel
theorem dX1_unlike_13 : decode cX1_unlike 13 = .ok (.getfield 31, 3) := by decide +kernel
theorem dX1_unlike_16 : decode cX1_unlike 16 = .ok (.iload_n 3, 1) := by decide +kernel
theorem dX1_unlike_17 : decode cX1_unlike 17 = .ok (.iaload, 1) := by decide +kernel
theorem dX1_unlike_18 : decode cX1_unlike 18 = .ok (.aload_n 0, 1) := by decide +kernel
theorem dX1_unlike_19 : decode cX1_unlike 19 = .ok (.getfield 31, 3) := by decide +kernel
theorem dX1_unlike_22 : decode cX1_unlike 22 = .ok (.iload_n 1, 1) := by decide +kernel
theorem dX1_unlike_23 : decode cX1_unlike 23 = .ok (.iaload, 1) := by decide +kernel
theorem dX1_unlike_24 : decode cX1_unlike 24 = .ok (.if_icmp .ne 42, 3) := by decide +kernel
theorem dX1_unlike_27 : decode cX1_unlike 27 = .ok (.aload_n 0, 1) := by decide +kernel
theorem dX1_unlike_28 : decode cX1_unlike 28 = .ok (.getfield 34, 3) := by decide +kernel
theorem dX1_unlike_31 : decode cX1_unlike 31 = .ok (.iload_n 3, 1) := by decide +kernel
theorem dX1_unlike_32 : decode cX1_unlike 32 = .ok (.iaload, 1) := by decide +kernel
theorem dX1_unlike_33 : decode cX1_unlike 33 = .ok (.aload_n 0, 1) := by decide +kernel
theorem dX1_unlike_34 : decode cX1_unlike 34 = .ok (.getfield 34, 3) := by decide +kernel
theorem dX1_unlike_37 : decode cX1_unlike 37 = .ok (.iload_n 1, 1) := by decide +kernel
theorem dX1_unlike_38 : decode cX1_unlike 38 = .ok (.iaload, 1) := by decide +kernel
theorem dX1_unlike_39 : decode cX1_unlike 39 = .ok (.if_icmp .eq 27, 3) := by decide +kernel
theorem dX1_unlike_42 : decode cX1_unlike 42 = .ok (.iload_n 2, 1) := by decide +kernel
theorem dX1_unlike_43 : decode cX1_unlike 43 = .ok (.aload_n 0, 1) := by decide +kernel
theorem dX1_unlike_44 : decode cX1_unlike 44 = .ok (.getfield 22, 3) := by decide +kernel
theorem dX1_unlike_47 : decode cX1_unlike 47 = .ok (.iload_n 3, 1) := by decide +kernel
theorem dX1_unlike_48 : decode cX1_unlike 48 = .ok (.iaload, 1) := by decide +kernel
theorem dX1_unlike_49 : decode cX1_unlike 49 = .ok (.aload_n 0, 1) := by decide +kernel
theorem dX1_unlike_50 : decode cX1_unlike 50 = .ok (.getfield 22, 3) := by decide +kernel
theorem dX1_unlike_53 : decode cX1_unlike 53 = .ok (.iload_n 1, 1) := by decide +kernel
theorem dX1_unlike_54 : decode cX1_unlike 54 = .ok (.iaload, 1) := by decide +kernel
theorem dX1_unlike_55 : decode cX1_unlike 55 = .ok (.if_icmp .ne 7, 3) := by decide +kernel
theorem dX1_unlike_58 : decode cX1_unlike 58 = .ok (.iconst 4, 1) := by decide +kernel
theorem dX1_unlike_59 : decode cX1_unlike 59 = .ok (.goto 5, 3) := by decide +kernel
theorem dX1_unlike_62 : decode cX1_unlike 62 = .ok (.bipush 8, 2) := by decide +kernel
theorem dX1_unlike_64 : decode cX1_unlike 64 = .ok (.ior, 1) := by decide +kernel
theorem dX1_unlike_65 : decode cX1_unlike 65 = .ok (.istore_n 2, 1) := by decide +kernel
theorem dX1_unlike_66 : decode cX1_unlike 66 = .ok (.iinc 3 1, 3) := by decide +kernel
theorem dX1_unlike_69 : decode cX1_unlike 69 = .ok (.goto (-65), 3) := by decide +kernel
theorem dX1_unlike_72 : decode cX1_unlike 72 = .ok (.iload_n 2, 1) := by decide +kernel
theorem dX1_unlike_73 : decode cX1_unlike 73 = .ok (.ireturn, 1) := by decide +kernel
theorem dX1_mention_0 : decode cX1_mention 0 = .ok (.iconst 0, 1) := by decide +kernel
theorem dX1_mention_1 : decode cX1_mention 1 = .ok (.istore 5, 2) := by decide +kernel
theorem dX1_mention_3 : decode cX1_mention 3 = .ok (.iload 5, 2) := by decide +kernel
theorem dX1_mention_5 : decode cX1_mention 5 = .ok (.aload_n 0, 1) := by decide +kernel
theorem dX1_mention_6 : decode cX1_mention 6 = .ok (.getfield 9, 3) := by decide +kernel
theorem dX1_mention_9 : decode cX1_mention 9 = .ok (.if_icmp .ge 72, 3) := by decide +kernel
theorem dX1_mention_12 : decode cX1_mention 12 = .ok (.aload_n 0, 1) := by decide +kernel
theorem dX1_mention_13 : decode cX1_mention 13 = .ok (.getfield 22, 3) := by decide +kernel
theorem dX1_mention_16 : decode cX1_mention 16 = .ok (.iload 5, 2) := by decide +kernel
theorem dX1_mention_18 : decode cX1_mention 18 = .ok (.iaload, 1) := by decide +kernel
theorem dX1_mention_19 : decode cX1_mention 19 = .ok (.iload_n 3, 1) := by decide +kernel
theorem dX1_mention_20 : decode cX1_mention 20 = .ok (.if_icmp .ne 55, 3) := by decide +kernel
theorem dX1_mention_23 : decode cX1_mention 23 = .ok (.aload_n 0, 1) := by decide +kernel
theorem dX1_mention_24 : decode cX1_mention 24 = .ok (.getfield 25, 3) := by decide +kernel
theorem dX1_mention_27 : decode cX1_mention 27 = .ok (.iload 5, 2) := by decide +kernel
theorem dX1_mention_29 : decode cX1_mention 29 = .ok (.iaload, 1) := by decide +kernel
theorem dX1_mention_30 : decode cX1_mention 30 = .ok (.iload 4, 2) := by decide +kernel
theorem dX1_mention_32 : decode cX1_mention 32 = .ok (.if_icmp .gt 43, 3) := by decide +kernel
theorem dX1_mention_35 : decode cX1_mention 35 = .ok (.aload_n 1, 1) := by decide +kernel
theorem dX1_mention_36 : decode cX1_mention 36 = .ok (.iload_n 2, 1) := by decide +kernel
theorem dX1_mention_37 : decode cX1_mention 37 = .ok (.aload_n 0, 1) := by decide +kernel
theorem dX1_mention_38 : decode cX1_mention 38 = .ok (.getfield 31, 3) := by decide +kernel
theorem dX1_mention_41 : decode cX1_mention 41 = .ok (.iload 5, 2) := by decide +kernel
theorem dX1_mention_43 : decode cX1_mention 43 = .ok (.iaload, 1) := by decide +kernel
theorem dX1_mention_44 : decode cX1_mention 44 = .ok (.invokestatic 37, 3) := by decide +kernel
theorem dX1_mention_47 : decode cX1_mention 47 = .ok (.aload_n 0, 1) := by decide +kernel
theorem dX1_mention_48 : decode cX1_mention 48 = .ok (.getfield 31, 3) := by decide +kernel
theorem dX1_mention_51 : decode cX1_mention 51 = .ok (.iload 5, 2) := by decide +kernel
theorem dX1_mention_53 : decode cX1_mention 53 = .ok (.iaload, 1) := by decide +kernel
theorem dX1_mention_54 : decode cX1_mention 54 = .ok (.invokestatic 41, 3) := by decide +kernel
theorem dX1_mention_57 : decode cX1_mention 57 = .ok (.aload_n 0, 1) := by decide +kernel
theorem dX1_mention_58 : decode cX1_mention 58 = .ok (.getfield 31, 3) := by decide +kernel
theorem dX1_mention_61 : decode cX1_mention 61 = .ok (.iload 5, 2) := by decide +kernel
theorem dX1_mention_63 : decode cX1_mention 63 = .ok (.iaload, 1) := by decide +kernel
theorem dX1_mention_64 : decode cX1_mention 64 = .ok (.invokestatic 44, 3) := by decide +kernel
theorem dX1_mention_67 : decode cX1_mention 67 = .ok (.invokevirtual 47, 3) := by decide +kernel
theorem dX1_mention_70 : decode cX1_mention 70 = .ok (.ifCond .eq 5, 3) := by decide +kernel
theorem dX1_mention_73 : decode cX1_mention 73 = .ok (.iconst 1, 1) := by decide +kernel
theorem dX1_mention_74 : decode cX1_mention 74 = .ok (.ireturn, 1) := by decide +kernel
theorem dX1_mention_75 : decode cX1_mention 75 = .ok (.iinc 5 1, 3) := by decide +kernel
theorem dX1_mention_78 : decode cX1_mention 78 = .ok (.goto (-75), 3) := by decide +kernel
theorem dX1_mention_81 : decode cX1_mention 81 = .ok (.iconst 0, 1) := by decide +kernel
theorem dX1_mention_82 : decode cX1_mention 82 = .ok (.ireturn, 1) := by decide +kernel
theorem dX2_init_0 : decode cX2_init 0 = .ok (.aload_n 0, 1) := by decide +kernel
theorem dX2_init_1 : decode cX2_init 1 = .ok (.invokespecial 3, 3) := by decide +kernel
theorem dX2_init_4 : decode cX2_init 4 = .ok (.aload_n 0, 1) := by decide +kernel
theorem dX2_init_5 : decode cX2_init 5 = .ok (.bipush 10, 2) := by decide +kernel
theorem dX2_init_7 : decode cX2_init 7 = .ok (.newarray .int, 2) := by decide +kernel
theorem dX2_init_9 : decode cX2_init 9 = .ok (.putfield 9, 3) := by decide +kernel
theorem dX2_init_12 : decode cX2_init 12 = .ok (.aload_n 0, 1) := by decide +kernel
theorem dX2_init_13 : decode cX2_init 13 = .ok (.bipush 10, 2) := by decide +kernel
theorem dX2_init_15 : decode cX2_init 15 = .ok (.newarray .int, 2) := by decide +kernel
theorem dX2_init_17 : decode cX2_init 17 = .ok (.putfield 15, 3) := by decide +kernel
theorem dX2_init_20 : decode cX2_init 20 = .ok (.aload_n 0, 1) := by decide +kernel
theorem dX2_init_21 : decode cX2_init 21 = .ok (.bipush 10, 2) := by decide +kernel
theorem dX2_init_23 : decode cX2_init 23 = .ok (.newarray .int, 2) := by decide +kernel
theorem dX2_init_25 : decode cX2_init 25 = .ok (.putfield 18, 3) := by decide +kernel
theorem dX2_init_28 : decode cX2_init 28 = .ok (.aload_n 0, 1) := by decide +kernel
theorem dX2_init_29 : decode cX2_init 29 = .ok (.bipush 10, 2) := by decide +kernel
theorem dX2_init_31 : decode cX2_init 31 = .ok (.newarray .int, 2) := by decide +kernel
theorem dX2_init_33 : decode cX2_init 33 = .ok (.putfield 21, 3) := by decide +kernel
theorem dX2_init_36 : decode cX2_init 36 = .ok (.aload_n 0, 1) := by decide +kernel
theorem dX2_init_37 : decode cX2_init 37 = .ok (.bipush 6, 2) := by decide +kernel
theorem dX2_init_39 : decode cX2_init 39 = .ok (.newarray .int, 2) := by decide +kernel
theorem dX2_init_41 : decode cX2_init 41 = .ok (.putfield 24, 3) := by decide +kernel
theorem dX2_init_44 : decode cX2_init 44 = .ok (.aload_n 0, 1) := by decide +kernel
theorem dX2_init_45 : decode cX2_init 45 = .ok (.bipush 40, 2) := by decide +kernel
theorem dX2_init_47 : decode cX2_init 47 = .ok (.newarray .int, 2) := by decide +kernel
theorem dX2_init_49 : decode cX2_init 49 = .ok (.putfield 27, 3) := by decide +kernel
theorem dX2_init_52 : decode cX2_init 52 = .ok (.aload_n 0, 1) := by decide +kernel
theorem dX2_init_53 : decode cX2_init 53 = .ok (.iconst 0, 1) := by decide +kernel
theorem dX2_init_54 : decode cX2_init 54 = .ok (.putfield 30, 3) := by decide +kernel
theorem dX2_init_57 : decode cX2_init 57 = .ok (.aload_n 0, 1) := by decide +kernel
theorem dX2_init_58 : decode cX2_init 58 = .ok (.aload_n 1, 1) := by decide +kernel
theorem dX2_init_59 : decode cX2_init 59 = .ok (.putfield 34, 3) := by decide +kernel
theorem dX2_init_62 : decode cX2_init 62 = .ok (.aload_n 0, 1) := by decide +kernel
theorem dX2_init_63 : decode cX2_init 63 = .ok (.aload_n 2, 1) := by decide +kernel
theorem dX2_init_64 : decode cX2_init 64 = .ok (.putfield 38, 3) := by decide +kernel
theorem dX2_init_67 : decode cX2_init 67 = .ok (.aload_n 0, 1) := by decide +kernel
theorem dX2_init_68 : decode cX2_init 68 = .ok (.aload_n 3, 1) := by decide +kernel
theorem dX2_init_69 : decode cX2_init 69 = .ok (.putfield 42, 3) := by decide +kernel
theorem dX2_init_72 : decode cX2_init 72 = .ok (.return_, 1) := by decide +kernel
theorem dX2_leastRisk_0 : decode cX2_leastRisk 0 = .ok (.aload_n 0, 1) := by decide +kernel
theorem dX2_leastRisk_1 : decode cX2_leastRisk 1 = .ok (.aload_n 1, 1) := by decide +kernel
theorem dX2_leastRisk_2 : decode cX2_leastRisk 2 = .ok (.aload_n 2, 1) := by decide +kernel
theorem dX2_leastRisk_3 : decode cX2_leastRisk 3 = .ok (.iload_n 3, 1) := by decide +kernel
theorem dX2_leastRisk_4 : decode cX2_leastRisk 4 = .ok (.invokevirtual 46, 3) := by decide +kernel
theorem dX2_leastRisk_7 : decode cX2_leastRisk 7 = .ok (.ifCond .ne 5, 3) := by decide +kernel
theorem dX2_leastRisk_10 : decode cX2_leastRisk 10 = .ok (.iconst (-1), 1) := by decide +kernel
theorem dX2_leastRisk_11 : decode cX2_leastRisk 11 = .ok (.ireturn, 1) := by decide +kernel
theorem dX2_leastRisk_12 : decode cX2_leastRisk 12 = .ok (.aload_n 0, 1) := by decide +kernel
theorem dX2_leastRisk_13 : decode cX2_leastRisk 13 = .ok (.aload_n 1, 1) := by decide +kernel
theorem dX2_leastRisk_14 : decode cX2_leastRisk 14 = .ok (.iload_n 3, 1) := by decide +kernel
theorem dX2_leastRisk_15 : decode cX2_leastRisk 15 = .ok (.invokevirtual 50, 3) := by decide +kernel
theorem dX2_leastRisk_18 : decode cX2_leastRisk 18 = .ok (.aload_n 0, 1) := by decide +kernel
theorem dX2_leastRisk_19 : decode cX2_leastRisk 19 = .ok (.aload_n 2, 1) := by decide +kernel
theorem dX2_leastRisk_20 : decode cX2_leastRisk 20 = .ok (.iload_n 3, 1) := by decide +kernel
theorem dX2_leastRisk_21 : decode cX2_leastRisk 21 = .ok (.invokevirtual 54, 3) := by decide +kernel
theorem dX2_leastRisk_24 : decode cX2_leastRisk 24 = .ok (.aload_n 0, 1) := by decide +kernel
theorem dX2_leastRisk_25 : decode cX2_leastRisk 25 = .ok (.aload_n 2, 1) := by decide +kernel
theorem dX2_leastRisk_26 : decode cX2_leastRisk 26 = .ok (.iload_n 3, 1) := by decide +kernel
theorem dX2_leastRisk_27 : decode cX2_leastRisk 27 = .ok (.invokevirtual 58, 3) := by decide +kernel
theorem dX2_leastRisk_30 : decode cX2_leastRisk 30 = .ok (.istore 4, 2) := by decide +kernel
theorem dX2_leastRisk_32 : decode cX2_leastRisk 32 = .ok (.iconst (-1), 1) := by decide +kernel
theorem dX2_leastRisk_33 : decode cX2_leastRisk 33 = .ok (.istore 5, 2) := by decide +kernel
theorem dX2_leastRisk_35 : decode cX2_leastRisk 35 = .ok (.sipush 991, 3) := by decide +kernel
theorem dX2_leastRisk_38 : decode cX2_leastRisk 38 = .ok (.istore 6, 2) := by decide +kernel
theorem dX2_leastRisk_40 : decode cX2_leastRisk 40 = .ok (.iconst 0, 1) := by decide +kernel
theorem dX2_leastRisk_41 : decode cX2_leastRisk 41 = .ok (.istore 7, 2) := by decide +kernel
theorem dX2_leastRisk_43 : decode cX2_leastRisk 43 = .ok (.iload 7, 2) := by decide +kernel
theorem dX2_leastRisk_45 : decode cX2_leastRisk 45 = .ok (.iconst 1, 1) := by decide +kernel
theorem dX2_leastRisk_46 : decode cX2_leastRisk 46 = .ok (.aload_n 0, 1) := by decide +kernel
theorem dX2_leastRisk_47 : decode cX2_leastRisk 47 = .ok (.getfield 42, 3) := by decide +kernel
theorem dX2_leastRisk_50 : decode cX2_leastRisk 50 = .ok (.getfield 62, 3) := by decide +kernel
theorem dX2_leastRisk_53 : decode cX2_leastRisk 53 = .ok (.ishl, 1) := by decide +kernel
theorem dX2_leastRisk_54 : decode cX2_leastRisk 54 = .ok (.if_icmp .ge 62, 3) := by decide +kernel
theorem dX2_leastRisk_57 : decode cX2_leastRisk 57 = .ok (.iload 7, 2) := by decide +kernel
theorem dX2_leastRisk_59 : decode cX2_leastRisk 59 = .ok (.iload 4, 2) := by decide +kernel
theorem dX2_leastRisk_61 : decode cX2_leastRisk 61 = .ok (.iconst (-1), 1) := by decide +kernel
theorem dX2_leastRisk_62 : decode cX2_leastRisk 62 = .ok (.ixor, 1) := by decide +kernel
theorem dX2_leastRisk_63 : decode cX2_leastRisk 63 = .ok (.iand, 1) := by decide +kernel
theorem dX2_leastRisk_64 : decode cX2_leastRisk 64 = .ok (.ifCond .eq 8, 3) := by decide +kernel
theorem dX2_leastRisk_67 : decode cX2_leastRisk 67 = .ok (.iload 6, 2) := by decide +kernel
theorem dX2_leastRisk_69 : decode cX2_leastRisk 69 = .ok (.goto 13, 3) := by decide +kernel
theorem dX2_leastRisk_72 : decode cX2_leastRisk 72 = .ok (.aload_n 0, 1) := by decide +kernel
theorem dX2_leastRisk_73 : decode cX2_leastRisk 73 = .ok (.aload_n 0, 1) := by decide +kernel
theorem dX2_leastRisk_74 : decode cX2_leastRisk 74 = .ok (.getfield 9, 3) := by decide +kernel
theorem dX2_leastRisk_77 : decode cX2_leastRisk 77 = .ok (.iload 7, 2) := by decide +kernel
theorem dX2_leastRisk_79 : decode cX2_leastRisk 79 = .ok (.invokevirtual 67, 3) := by decide +kernel
theorem dX2_leastRisk_82 : decode cX2_leastRisk 82 = .ok (.istore 8, 2) := by decide +kernel
theorem dX2_leastRisk_84 : decode cX2_leastRisk 84 = .ok (.iload 8, 2) := by decide +kernel
theorem dX2_leastRisk_86 : decode cX2_leastRisk 86 = .ok (.iload 6, 2) := by decide +kernel
theorem dX2_leastRisk_88 : decode cX2_leastRisk 88 = .ok (.if_icmp .ge 22, 3) := by decide +kernel
theorem dX2_leastRisk_91 : decode cX2_leastRisk 91 = .ok (.aload_n 0, 1) := by decide +kernel
theorem dX2_leastRisk_92 : decode cX2_leastRisk 92 = .ok (.iload 7, 2) := by decide +kernel
theorem dX2_leastRisk_94 : decode cX2_leastRisk 94 = .ok (.aload_n 1, 1) := by decide +kernel
theorem dX2_leastRisk_95 : decode cX2_leastRisk 95 = .ok (.aload_n 2, 1) := by decide +kernel
theorem dX2_leastRisk_96 : decode cX2_leastRisk 96 = .ok (.invokevirtual 71, 3) := by decide +kernel
theorem dX2_leastRisk_99 : decode cX2_leastRisk 99 = .ok (.ifCond .eq 11, 3) := by decide +kernel
theorem dX2_leastRisk_102 : decode cX2_leastRisk 102 = .ok (.iload 7, 2) := by decide +kernel
theorem dX2_leastRisk_104 : decode cX2_leastRisk 104 = .ok (.istore 5, 2) := by decide +kernel
theorem dX2_leastRisk_106 : decode cX2_leastRisk 106 = .ok (.iload 8, 2) := by decide +kernel
theorem dX2_leastRisk_108 : decode cX2_leastRisk 108 = .ok (.istore 6, 2) := by decide +kernel
theorem dX2_leastRisk_110 : decode cX2_leastRisk 110 = .ok (.iinc 7 1, 3) := by decide +kernel
theorem dX2_leastRisk_113 : decode cX2_leastRisk 113 = .ok (.goto (-70), 3) := by decide +kernel
theorem dX2_leastRisk_116 : decode cX2_leastRisk 116 = .ok (.iload 5, 2) := by decide +kernel
theorem dX2_leastRisk_118 : decode cX2_leastRisk 118 = .ok (.ireturn, 1) := by decide +kernel
theorem dX2_leastCost_0 : decode cX2_leastCost 0 = .ok (.aload_n 0, 1) := by decide +kernel
theorem dX2_leastCost_1 : decode cX2_leastCost 1 = .ok (.aload_n 1, 1) := by decide +kernel
theorem dX2_leastCost_2 : decode cX2_leastCost 2 = .ok (.iload_n 3, 1) := by decide +kernel
theorem dX2_leastCost_3 : decode cX2_leastCost 3 = .ok (.invokevirtual 50, 3) := by decide +kernel
theorem dX2_leastCost_6 : decode cX2_leastCost 6 = .ok (.aload_n 0, 1) := by decide +kernel
theorem dX2_leastCost_7 : decode cX2_leastCost 7 = .ok (.iload_n 2, 1) := by decide +kernel
theorem dX2_leastCost_8 : decode cX2_leastCost 8 = .ok (.invokevirtual 75, 3) := by decide +kernel
theorem dX2_leastCost_11 : decode cX2_leastCost 11 = .ok (.istore 5, 2) := by decide +kernel
theorem dX2_leastCost_13 : decode cX2_leastCost 13 = .ok (.iconst (-1), 1) := by decide +kernel
theorem dX2_leastCost_14 : decode cX2_leastCost 14 = .ok (.istore 6, 2) := by decide +kernel
theorem dX2_leastCost_16 : decode cX2_leastCost 16 = .ok (.sipush 991, 3) := by decide +kernel
theorem dX2_leastCost_19 : decode cX2_leastCost 19 = .ok (.istore 7, 2) := by decide +kernel
theorem dX2_leastCost_21 : decode cX2_leastCost 21 = .ok (.iconst 0, 1) := by decide +kernel
theorem dX2_leastCost_22 : decode cX2_leastCost 22 = .ok (.istore 8, 2) := by decide +kernel
theorem dX2_leastCost_24 : decode cX2_leastCost 24 = .ok (.iload 8, 2) := by decide +kernel
theorem dX2_leastCost_26 : decode cX2_leastCost 26 = .ok (.iconst 1, 1) := by decide +kernel
theorem dX2_leastCost_27 : decode cX2_leastCost 27 = .ok (.aload_n 0, 1) := by decide +kernel
theorem dX2_leastCost_28 : decode cX2_leastCost 28 = .ok (.getfield 42, 3) := by decide +kernel
theorem dX2_leastCost_31 : decode cX2_leastCost 31 = .ok (.getfield 62, 3) := by decide +kernel
theorem dX2_leastCost_34 : decode cX2_leastCost 34 = .ok (.ishl, 1) := by decide +kernel
theorem dX2_leastCost_35 : decode cX2_leastCost 35 = .ok (.if_icmp .ge 76, 3) := by decide +kernel
theorem dX2_leastCost_38 : decode cX2_leastCost 38 = .ok (.iload 8, 2) := by decide +kernel
theorem dX2_leastCost_40 : decode cX2_leastCost 40 = .ok (.iload 5, 2) := by decide +kernel
theorem dX2_leastCost_42 : decode cX2_leastCost 42 = .ok (.iconst (-1), 1) := by decide +kernel
theorem dX2_leastCost_43 : decode cX2_leastCost 43 = .ok (.ixor, 1) := by decide +kernel
theorem dX2_leastCost_44 : decode cX2_leastCost 44 = .ok (.iand, 1) := by decide +kernel
theorem dX2_leastCost_45 : decode cX2_leastCost 45 = .ok (.ifCond .eq 8, 3) := by decide +kernel
theorem dX2_leastCost_48 : decode cX2_leastCost 48 = .ok (.iload 7, 2) := by decide +kernel
theorem dX2_leastCost_50 : decode cX2_leastCost 50 = .ok (.goto 13, 3) := by decide +kernel
theorem dX2_leastCost_53 : decode cX2_leastCost 53 = .ok (.aload_n 0, 1) := by decide +kernel
theorem dX2_leastCost_54 : decode cX2_leastCost 54 = .ok (.aload_n 0, 1) := by decide +kernel
theorem dX2_leastCost_55 : decode cX2_leastCost 55 = .ok (.getfield 15, 3) := by decide +kernel
theorem dX2_leastCost_58 : decode cX2_leastCost 58 = .ok (.iload 8, 2) := by decide +kernel
theorem dX2_leastCost_60 : decode cX2_leastCost 60 = .ok (.invokevirtual 67, 3) := by decide +kernel
theorem dX2_leastCost_63 : decode cX2_leastCost 63 = .ok (.istore 9, 2) := by decide +kernel
theorem dX2_leastCost_65 : decode cX2_leastCost 65 = .ok (.iload 9, 2) := by decide +kernel
theorem dX2_leastCost_67 : decode cX2_leastCost 67 = .ok (.iload 7, 2) := by decide +kernel
theorem dX2_leastCost_69 : decode cX2_leastCost 69 = .ok (.if_icmp .ge 36, 3) := by decide +kernel
theorem dX2_leastCost_72 : decode cX2_leastCost 72 = .ok (.aload_n 0, 1) := by decide +kernel
theorem dX2_leastCost_73 : decode cX2_leastCost 73 = .ok (.getfield 24, 3) := by decide +kernel
theorem dX2_leastCost_76 : decode cX2_leastCost 76 = .ok (.iload_n 2, 1) := by decide +kernel
theorem dX2_leastCost_77 : decode cX2_leastCost 77 = .ok (.iaload, 1) := by decide +kernel
theorem dX2_leastCost_78 : decode cX2_leastCost 78 = .ok (.aload_n 0, 1) := by decide +kernel
theorem dX2_leastCost_79 : decode cX2_leastCost 79 = .ok (.aload_n 0, 1) := by decide +kernel
theorem dX2_leastCost_80 : decode cX2_leastCost 80 = .ok (.getfield 18, 3) := by decide +kernel
theorem dX2_leastCost_83 : decode cX2_leastCost 83 = .ok (.iload 8, 2) := by decide +kernel
theorem dX2_leastCost_85 : decode cX2_leastCost 85 = .ok (.invokevirtual 67, 3) := by decide +kernel
theorem dX2_leastCost_88 : decode cX2_leastCost 88 = .ok (.iadd, 1) := by decide +kernel
theorem dX2_leastCost_89 : decode cX2_leastCost 89 = .ok (.invokestatic 79, 3) := by decide +kernel
theorem dX2_leastCost_92 : decode cX2_leastCost 92 = .ok (.iload 4, 2) := by decide +kernel
theorem dX2_leastCost_94 : decode cX2_leastCost 94 = .ok (.if_icmp .lt 11, 3) := by decide +kernel
theorem dX2_leastCost_97 : decode cX2_leastCost 97 = .ok (.iload 8, 2) := by decide +kernel
theorem dX2_leastCost_99 : decode cX2_leastCost 99 = .ok (.istore 6, 2) := by decide +kernel
theorem dX2_leastCost_101 : decode cX2_leastCost 101 = .ok (.iload 9, 2) := by decide +kernel
theorem dX2_leastCost_103 : decode cX2_leastCost 103 = .ok (.istore 7, 2) := by decide +kernel
theorem dX2_leastCost_105 : decode cX2_leastCost 105 = .ok (.iinc 8 1, 3) := by decide +kernel
theorem dX2_leastCost_108 : decode cX2_leastCost 108 = .ok (.goto (-84), 3) := by decide +kernel
theorem dX2_leastCost_111 : decode cX2_leastCost 111 = .ok (.iload 6, 2) := by decide +kernel
theorem dX2_leastCost_113 : decode cX2_leastCost 113 = .ok (.ireturn, 1) := by decide +kernel
theorem dX2_opensLines_0 : decode cX2_opensLines 0 = .ok (.aload_n 0, 1) := by decide +kernel
theorem dX2_opensLines_1 : decode cX2_opensLines 1 = .ok (.iconst 0, 1) := by decide +kernel
theorem dX2_opensLines_2 : decode cX2_opensLines 2 = .ok (.putfield 30, 3) := by decide +kernel
theorem dX2_opensLines_5 : decode cX2_opensLines 5 = .ok (.iconst 0, 1) := by decide +kernel
theorem dX2_opensLines_6 : decode cX2_opensLines 6 = .ok (.istore 4, 2) := by decide +kernel
theorem dX2_opensLines_8 : decode cX2_opensLines 8 = .ok (.iload 4, 2) := by decide +kernel
theorem dX2_opensLines_10 : decode cX2_opensLines 10 = .ok (.aload_n 2, 1) := by decide +kernel
theorem dX2_opensLines_11 : decode cX2_opensLines 11 = .ok (.getfield 84, 3) := by decide +kernel
theorem dX2_opensLines_14 : decode cX2_opensLines 14 = .ok (.if_icmp .ge 66, 3) := by decide +kernel
theorem dX2_opensLines_17 : decode cX2_opensLines 17 = .ok (.aload_n 1, 1) := by decide +kernel
theorem dX2_opensLines_18 : decode cX2_opensLines 18 = .ok (.aload_n 2, 1) := by decide +kernel
theorem dX2_opensLines_19 : decode cX2_opensLines 19 = .ok (.getfield 87, 3) := by decide +kernel
theorem dX2_opensLines_22 : decode cX2_opensLines 22 = .ok (.iload 4, 2) := by decide +kernel
theorem dX2_opensLines_24 : decode cX2_opensLines 24 = .ok (.iaload, 1) := by decide +kernel
theorem dX2_opensLines_25 : decode cX2_opensLines 25 = .ok (.iload_n 3, 1) := by decide +kernel
theorem dX2_opensLines_26 : decode cX2_opensLines 26 = .ok (.invokevirtual 90, 3) := by decide +kernel
theorem dX2_opensLines_29 : decode cX2_opensLines 29 = .ok (.ifCond .ne 19, 3) := by decide +kernel
theorem dX2_opensLines_32 : decode cX2_opensLines 32 = .ok (.aload_n 0, 1) := by decide +kernel
theorem dX2_opensLines_33 : decode cX2_opensLines 33 = .ok (.dup, 1) := by decide +kernel
theorem dX2_opensLines_34 : decode cX2_opensLines 34 = .ok (.getfield 30, 3) := by decide +kernel
theorem dX2_opensLines_37 : decode cX2_opensLines 37 = .ok (.iconst 1, 1) := by decide +kernel
theorem dX2_opensLines_38 : decode cX2_opensLines 38 = .ok (.iload 4, 2) := by decide +kernel
theorem dX2_opensLines_40 : decode cX2_opensLines 40 = .ok (.ishl, 1) := by decide +kernel
theorem dX2_opensLines_41 : decode cX2_opensLines 41 = .ok (.ior, 1) := by decide +kernel
theorem dX2_opensLines_42 : decode cX2_opensLines 42 = .ok (.putfield 30, 3) := by decide +kernel
theorem dX2_opensLines_45 : decode cX2_opensLines 45 = .ok (.goto 29, 3) := by decide +kernel
theorem dX2_opensLines_48 : decode cX2_opensLines 48 = .ok (.aload_n 0, 1) := by decide +kernel
theorem dX2_opensLines_49 : decode cX2_opensLines 49 = .ok (.getfield 34, 3) := by decide +kernel
theorem dX2_opensLines_52 : decode cX2_opensLines 52 = .ok (.aload_n 2, 1) := by decide +kernel
theorem dX2_opensLines_53 : decode cX2_opensLines 53 = .ok (.getfield 87, 3) := by decide +kernel
theorem dX2_opensLines_56 : decode cX2_opensLines 56 = .ok (.iload 4, 2) := by decide +kernel
theorem dX2_opensLines_58 : decode cX2_opensLines 58 = .ok (.iaload, 1) := by decide +kernel
theorem dX2_opensLines_59 : decode cX2_opensLines 59 = .ok (.invokevirtual 96, 3) := by decide +kernel
theorem dX2_opensLines_62 : decode cX2_opensLines 62 = .ok (.aload_n 2, 1) := by decide +kernel
theorem dX2_opensLines_63 : decode cX2_opensLines 63 = .ok (.getfield 101, 3) := by decide +kernel
theorem dX2_opensLines_66 : decode cX2_opensLines 66 = .ok (.iload 4, 2) := by decide +kernel
theorem dX2_opensLines_68 : decode cX2_opensLines 68 = .ok (.iaload, 1) := by decide +kernel
theorem dX2_opensLines_69 : decode cX2_opensLines 69 = .ok (.if_icmp .eq 5, 3) := by decide +kernel
theorem dX2_opensLines_72 : decode cX2_opensLines 72 = .ok (.iconst 0, 1) := by decide +kernel
theorem dX2_opensLines_73 : decode cX2_opensLines 73 = .ok (.ireturn, 1) := by decide +kernel
theorem dX2_opensLines_74 : decode cX2_opensLines 74 = .ok (.iinc 4 1, 3) := by decide +kernel
theorem dX2_opensLines_77 : decode cX2_opensLines 77 = .ok (.goto (-69), 3) := by decide +kernel
theorem dX2_opensLines_80 : decode cX2_opensLines 80 = .ok (.iconst 1, 1) := by decide +kernel
theorem dX2_opensLines_81 : decode cX2_opensLines 81 = .ok (.ireturn, 1) := by decide +kernel
theorem dX2_sumLetters_0 : decode cX2_sumLetters 0 = .ok (.aload_n 0, 1) := by decide +kernel
theorem dX2_sumLetters_1 : decode cX2_sumLetters 1 = .ok (.getfield 38, 3) := by decide +kernel
theorem dX2_sumLetters_4 : decode cX2_sumLetters 4 = .ok (.aload_n 1, 1) := by decide +kernel
theorem dX2_sumLetters_5 : decode cX2_sumLetters 5 = .ok (.iload_n 2, 1) := by decide +kernel
theorem dX2_sumLetters_6 : decode cX2_sumLetters 6 = .ok (.invokevirtual 104, 3) := by decide +kernel
theorem dX2_sumLetters_9 : decode cX2_sumLetters 9 = .ok (.aload_n 0, 1) := by decide +kernel
theorem dX2_sumLetters_10 : decode cX2_sumLetters 10 = .ok (.getfield 38, 3) := by decide +kernel
theorem dX2_sumLetters_13 : decode cX2_sumLetters 13 = .ok (.getfield 107, 3) := by decide +kernel
theorem dX2_sumLetters_16 : decode cX2_sumLetters 16 = .ok (.iconst 0, 1) := by decide +kernel
theorem dX2_sumLetters_17 : decode cX2_sumLetters 17 = .ok (.aload_n 0, 1) := by decide +kernel
theorem dX2_sumLetters_18 : decode cX2_sumLetters 18 = .ok (.getfield 24, 3) := by decide +kernel
theorem dX2_sumLetters_21 : decode cX2_sumLetters 21 = .ok (.iconst 0, 1) := by decide +kernel
theorem dX2_sumLetters_22 : decode cX2_sumLetters 22 = .ok (.bipush 6, 2) := by decide +kernel
theorem dX2_sumLetters_24 : decode cX2_sumLetters 24 = .ok (.invokestatic 108, 3) := by decide +kernel
theorem dX2_sumLetters_27 : decode cX2_sumLetters 27 = .ok (.iconst 0, 1) := by decide +kernel
theorem dX2_sumLetters_28 : decode cX2_sumLetters 28 = .ok (.istore_n 3, 1) := by decide +kernel
theorem dX2_sumLetters_29 : decode cX2_sumLetters 29 = .ok (.iload_n 3, 1) := by decide +kernel
theorem dX2_sumLetters_30 : decode cX2_sumLetters 30 = .ok (.aload_n 0, 1) := by decide +kernel
theorem dX2_sumLetters_31 : decode cX2_sumLetters 31 = .ok (.getfield 42, 3) := by decide +kernel
theorem dX2_sumLetters_34 : decode cX2_sumLetters 34 = .ok (.getfield 62, 3) := by decide +kernel
theorem dX2_sumLetters_37 : decode cX2_sumLetters 37 = .ok (.if_icmp .ge 29, 3) := by decide +kernel
theorem dX2_sumLetters_40 : decode cX2_sumLetters 40 = .ok (.aload_n 0, 1) := by decide +kernel
theorem dX2_sumLetters_41 : decode cX2_sumLetters 41 = .ok (.getfield 18, 3) := by decide +kernel
theorem dX2_sumLetters_44 : decode cX2_sumLetters 44 = .ok (.iload_n 3, 1) := by decide +kernel
theorem dX2_sumLetters_45 : decode cX2_sumLetters 45 = .ok (.aload_n 0, 1) := by decide +kernel
theorem dX2_sumLetters_46 : decode cX2_sumLetters 46 = .ok (.getfield 38, 3) := by decide +kernel
theorem dX2_sumLetters_49 : decode cX2_sumLetters 49 = .ok (.aload_n 1, 1) := by decide +kernel
theorem dX2_sumLetters_50 : decode cX2_sumLetters 50 = .ok (.aload_n 0, 1) := by decide +kernel
theorem dX2_sumLetters_51 : decode cX2_sumLetters 51 = .ok (.getfield 42, 3) := by decide +kernel
theorem dX2_sumLetters_54 : decode cX2_sumLetters 54 = .ok (.iload_n 3, 1) := by decide +kernel
theorem dX2_sumLetters_55 : decode cX2_sumLetters 55 = .ok (.iload_n 2, 1) := by decide +kernel
theorem dX2_sumLetters_56 : decode cX2_sumLetters 56 = .ok (.invokevirtual 114, 3) := by decide +kernel
theorem dX2_sumLetters_59 : decode cX2_sumLetters 59 = .ok (.iastore, 1) := by decide +kernel
theorem dX2_sumLetters_60 : decode cX2_sumLetters 60 = .ok (.iinc 3 1, 3) := by decide +kernel
theorem dX2_sumLetters_63 : decode cX2_sumLetters 63 = .ok (.goto (-34), 3) := by decide +kernel
theorem dX2_sumLetters_66 : decode cX2_sumLetters 66 = .ok (.return_, 1) := by decide +kernel
theorem dX2_gatherLines_0 : decode cX2_gatherLines 0 = .ok (.iconst 0, 1) := by decide +kernel
theorem dX2_gatherLines_1 : decode cX2_gatherLines 1 = .ok (.istore_n 3, 1) := by decide +kernel
theorem dX2_gatherLines_2 : decode cX2_gatherLines 2 = .ok (.iload_n 3, 1) := by decide +kernel
theorem dX2_gatherLines_3 : decode cX2_gatherLines 3 = .ok (.aload_n 1, 1) := by decide +kernel
theorem dX2_gatherLines_4 : decode cX2_gatherLines 4 = .ok (.getfield 84, 3) := by decide +kernel
theorem dX2_gatherLines_7 : decode cX2_gatherLines 7 = .ok (.if_icmp .ge 44, 3) := by decide +kernel
theorem dX2_gatherLines_10 : decode cX2_gatherLines 10 = .ok (.aload_n 0, 1) := by decide +kernel
theorem dX2_gatherLines_11 : decode cX2_gatherLines 11 = .ok (.getfield 38, 3) := by decide +kernel
theorem dX2_gatherLines_14 : decode cX2_gatherLines 14 = .ok (.aload_n 1, 1) := by decide +kernel
theorem dX2_gatherLines_15 : decode cX2_gatherLines 15 = .ok (.getfield 87, 3) := by decide +kernel
theorem dX2_gatherLines_18 : decode cX2_gatherLines 18 = .ok (.iload_n 3, 1) := by decide +kernel
theorem dX2_gatherLines_19 : decode cX2_gatherLines 19 = .ok (.iaload, 1) := by decide +kernel
theorem dX2_gatherLines_20 : decode cX2_gatherLines 20 = .ok (.iload_n 2, 1) := by decide +kernel
theorem dX2_gatherLines_21 : decode cX2_gatherLines 21 = .ok (.invokevirtual 118, 3) := by decide +kernel
theorem dX2_gatherLines_24 : decode cX2_gatherLines 24 = .ok (.aload_n 0, 1) := by decide +kernel
theorem dX2_gatherLines_25 : decode cX2_gatherLines 25 = .ok (.getfield 38, 3) := by decide +kernel
theorem dX2_gatherLines_28 : decode cX2_gatherLines 28 = .ok (.getfield 122, 3) := by decide +kernel
theorem dX2_gatherLines_31 : decode cX2_gatherLines 31 = .ok (.iconst 0, 1) := by decide +kernel
theorem dX2_gatherLines_32 : decode cX2_gatherLines 32 = .ok (.aload_n 0, 1) := by decide +kernel
theorem dX2_gatherLines_33 : decode cX2_gatherLines 33 = .ok (.getfield 27, 3) := by decide +kernel
theorem dX2_gatherLines_36 : decode cX2_gatherLines 36 = .ok (.iload_n 3, 1) := by decide +kernel
theorem dX2_gatherLines_37 : decode cX2_gatherLines 37 = .ok (.bipush 10, 2) := by decide +kernel
theorem dX2_gatherLines_39 : decode cX2_gatherLines 39 = .ok (.imul, 1) := by decide +kernel
theorem dX2_gatherLines_40 : decode cX2_gatherLines 40 = .ok (.bipush 10, 2) := by decide +kernel
theorem dX2_gatherLines_42 : decode cX2_gatherLines 42 = .ok (.invokestatic 108, 3) := by decide +kernel
theorem dX2_gatherLines_45 : decode cX2_gatherLines 45 = .ok (.iinc 3 1, 3) := by decide +kernel
theorem dX2_gatherLines_48 : decode cX2_gatherLines 48 = .ok (.goto (-46), 3) := by decide +kernel
theorem dX2_gatherLines_51 : decode cX2_gatherLines 51 = .ok (.return_, 1) := by decide +kernel
theorem dX2_usefulForStory_0 : decode cX2_usefulForStory 0 = .ok (.iconst 0, 1) := by decide +kernel
theorem dX2_usefulForStory_1 : decode cX2_usefulForStory 1 = .ok (.istore_n 3, 1) := by decide +kernel
theorem dX2_usefulForStory_2 : decode cX2_usefulForStory 2 = .ok (.iconst 0, 1) := by decide +kernel
theorem dX2_usefulForStory_3 : decode cX2_usefulForStory 3 = .ok (.istore 4, 2) := by decide +kernel
theorem dX2_usefulForStory_5 : decode cX2_usefulForStory 5 = .ok (.iload 4, 2) := by decide +kernel
theorem dX2_usefulForStory_7 : decode cX2_usefulForStory 7 = .ok (.aload_n 0, 1) := by decide +kernel
theorem dX2_usefulForStory_8 : decode cX2_usefulForStory 8 = .ok (.getfield 42, 3) := by decide +kernel
theorem dX2_usefulForStory_11 : decode cX2_usefulForStory 11 = .ok (.getfield 62, 3) := by decide +kernel
theorem dX2_usefulForStory_14 : decode cX2_usefulForStory 14 = .ok (.if_icmp .ge 121, 3) := by decide +kernel
theorem dX2_usefulForStory_17 : decode cX2_usefulForStory 17 = .ok (.aload_n 0, 1) := by decide +kernel
theorem dX2_usefulForStory_18 : decode cX2_usefulForStory 18 = .ok (.getfield 21, 3) := by decide +kernel
theorem dX2_usefulForStory_21 : decode cX2_usefulForStory 21 = .ok (.iload 4, 2) := by decide +kernel
theorem dX2_usefulForStory_23 : decode cX2_usefulForStory 23 = .ok (.iconst 0, 1) := by decide +kernel
theorem dX2_usefulForStory_24 : decode cX2_usefulForStory 24 = .ok (.iastore, 1) := by decide +kernel
theorem dX2_usefulForStory_25 : decode cX2_usefulForStory 25 = .ok (.iconst 0, 1) := by decide +kernel
theorem dX2_usefulForStory_26 : decode cX2_usefulForStory 26 = .ok (.istore 5, 2) := by decide +kernel
theorem dX2_usefulForStory_28 : decode cX2_usefulForStory 28 = .ok (.iload 5, 2) := by decide +kernel
theorem dX2_usefulForStory_30 : decode cX2_usefulForStory 30 = .ok (.aload_n 1, 1) := by decide +kernel
theorem dX2_usefulForStory_31 : decode cX2_usefulForStory 31 = .ok (.getfield 84, 3) := by decide +kernel
theorem dX2_usefulForStory_34 : decode cX2_usefulForStory 34 = .ok (.if_icmp .ge 68, 3) := by decide +kernel
theorem dX2_usefulForStory_37 : decode cX2_usefulForStory 37 = .ok (.aload_n 0, 1) := by decide +kernel
theorem dX2_usefulForStory_38 : decode cX2_usefulForStory 38 = .ok (.getfield 30, 3) := by decide +kernel
theorem dX2_usefulForStory_41 : decode cX2_usefulForStory 41 = .ok (.iload 5, 2) := by decide +kernel
theorem dX2_usefulForStory_43 : decode cX2_usefulForStory 43 = .ok (.invokestatic 123, 3) := by decide +kernel
theorem dX2_usefulForStory_46 : decode cX2_usefulForStory 46 = .ok (.ifCond .eq 50, 3) := by decide +kernel
theorem dX2_usefulForStory_49 : decode cX2_usefulForStory 49 = .ok (.aload_n 0, 1) := by decide +kernel
theorem dX2_usefulForStory_50 : decode cX2_usefulForStory 50 = .ok (.getfield 42, 3) := by decide +kernel
theorem dX2_usefulForStory_53 : decode cX2_usefulForStory 53 = .ok (.getfield 126, 3) := by decide +kernel
theorem dX2_usefulForStory_56 : decode cX2_usefulForStory 56 = .ok (.iload 4, 2) := by decide +kernel
theorem dX2_usefulForStory_58 : decode cX2_usefulForStory 58 = .ok (.iaload, 1) := by decide +kernel
theorem dX2_usefulForStory_59 : decode cX2_usefulForStory 59 = .ok (.aload_n 1, 1) := by decide +kernel
theorem dX2_usefulForStory_60 : decode cX2_usefulForStory 60 = .ok (.getfield 87, 3) := by decide +kernel
theorem dX2_usefulForStory_63 : decode cX2_usefulForStory 63 = .ok (.iload 5, 2) := by decide +kernel
theorem dX2_usefulForStory_65 : decode cX2_usefulForStory 65 = .ok (.iaload, 1) := by decide +kernel
theorem dX2_usefulForStory_66 : decode cX2_usefulForStory 66 = .ok (.if_icmp .ne 30, 3) := by decide +kernel
theorem dX2_usefulForStory_69 : decode cX2_usefulForStory 69 = .ok (.aload_n 0, 1) := by decide +kernel
theorem dX2_usefulForStory_70 : decode cX2_usefulForStory 70 = .ok (.getfield 42, 3) := by decide +kernel
theorem dX2_usefulForStory_73 : decode cX2_usefulForStory 73 = .ok (.iload 4, 2) := by decide +kernel
theorem dX2_usefulForStory_75 : decode cX2_usefulForStory 75 = .ok (.invokevirtual 127, 3) := by decide +kernel
theorem dX2_usefulForStory_78 : decode cX2_usefulForStory 78 = .ok (.iload_n 2, 1) := by decide +kernel
theorem dX2_usefulForStory_79 : decode cX2_usefulForStory 79 = .ok (.if_icmp .gt 17, 3) := by decide +kernel
theorem dX2_usefulForStory_82 : decode cX2_usefulForStory 82 = .ok (.aload_n 0, 1) := by decide +kernel
theorem dX2_usefulForStory_83 : decode cX2_usefulForStory 83 = .ok (.getfield 21, 3) := by decide +kernel
theorem dX2_usefulForStory_86 : decode cX2_usefulForStory 86 = .ok (.iload 4, 2) := by decide +kernel
theorem dX2_usefulForStory_88 : decode cX2_usefulForStory 88 = .ok (.dup2, 1) := by decide +kernel
theorem dX2_usefulForStory_89 : decode cX2_usefulForStory 89 = .ok (.iaload, 1) := by decide +kernel
theorem dX2_usefulForStory_90 : decode cX2_usefulForStory 90 = .ok (.iconst 1, 1) := by decide +kernel
theorem dX2_usefulForStory_91 : decode cX2_usefulForStory 91 = .ok (.iload 5, 2) := by decide +kernel
theorem dX2_usefulForStory_93 : decode cX2_usefulForStory 93 = .ok (.ishl, 1) := by decide +kernel
theorem dX2_usefulForStory_94 : decode cX2_usefulForStory 94 = .ok (.ior, 1) := by decide +kernel
theorem dX2_usefulForStory_95 : decode cX2_usefulForStory 95 = .ok (.iastore, 1) := by decide +kernel
theorem dX2_usefulForStory_96 : decode cX2_usefulForStory 96 = .ok (.iinc 5 1, 3) := by decide +kernel
theorem dX2_usefulForStory_99 : decode cX2_usefulForStory 99 = .ok (.goto (-71), 3) := by decide +kernel
theorem dX2_usefulForStory_102 : decode cX2_usefulForStory 102 = .ok (.aload_n 0, 1) := by decide +kernel
theorem dX2_usefulForStory_103 : decode cX2_usefulForStory 103 = .ok (.getfield 21, 3) := by decide +kernel
theorem dX2_usefulForStory_106 : decode cX2_usefulForStory 106 = .ok (.iload 4, 2) := by decide +kernel
theorem dX2_usefulForStory_108 : decode cX2_usefulForStory 108 = .ok (.iaload, 1) := by decide +kernel
theorem dX2_usefulForStory_109 : decode cX2_usefulForStory 109 = .ok (.ifCond .ne 13, 3) := by decide +kernel
theorem dX2_usefulForStory_112 : decode cX2_usefulForStory 112 = .ok (.aload_n 0, 1) := by decide +kernel
theorem dX2_usefulForStory_113 : decode cX2_usefulForStory 113 = .ok (.getfield 18, 3) := by decide +kernel
theorem dX2_usefulForStory_116 : decode cX2_usefulForStory 116 = .ok (.iload 4, 2) := by decide +kernel
theorem dX2_usefulForStory_118 : decode cX2_usefulForStory 118 = .ok (.iaload, 1) := by decide +kernel
theorem dX2_usefulForStory_119 : decode cX2_usefulForStory 119 = .ok (.ifCond .eq 10, 3) := by decide +kernel
theorem dX2_usefulForStory_122 : decode cX2_usefulForStory 122 = .ok (.iload_n 3, 1) := by decide +kernel
theorem dX2_usefulForStory_123 : decode cX2_usefulForStory 123 = .ok (.iconst 1, 1) := by decide +kernel
theorem dX2_usefulForStory_124 : decode cX2_usefulForStory 124 = .ok (.iload 4, 2) := by decide +kernel
theorem dX2_usefulForStory_126 : decode cX2_usefulForStory 126 = .ok (.ishl, 1) := by decide +kernel
theorem dX2_usefulForStory_127 : decode cX2_usefulForStory 127 = .ok (.ior, 1) := by decide +kernel
theorem dX2_usefulForStory_128 : decode cX2_usefulForStory 128 = .ok (.istore_n 3, 1) := by decide +kernel
theorem dX2_usefulForStory_129 : decode cX2_usefulForStory 129 = .ok (.iinc 4 1, 3) := by decide +kernel
theorem dX2_usefulForStory_132 : decode cX2_usefulForStory 132 = .ok (.goto (-127), 3) := by decide +kernel
theorem dX2_usefulForStory_135 : decode cX2_usefulForStory 135 = .ok (.iload_n 3, 1) := by decide +kernel
theorem dX2_usefulForStory_136 : decode cX2_usefulForStory 136 = .ok (.ireturn, 1) := by decide +kernel
theorem dX2_usefulForTrust_0 : decode cX2_usefulForTrust 0 = .ok (.iconst 0, 1) := by decide +kernel
theorem dX2_usefulForTrust_1 : decode cX2_usefulForTrust 1 = .ok (.istore_n 2, 1) := by decide +kernel
theorem dX2_usefulForTrust_2 : decode cX2_usefulForTrust 2 = .ok (.iconst 0, 1) := by decide +kernel
theorem dX2_usefulForTrust_3 : decode cX2_usefulForTrust 3 = .ok (.istore_n 3, 1) := by decide +kernel
theorem dX2_usefulForTrust_4 : decode cX2_usefulForTrust 4 = .ok (.iload_n 3, 1) := by decide +kernel
theorem dX2_usefulForTrust_5 : decode cX2_usefulForTrust 5 = .ok (.aload_n 0, 1) := by decide +kernel
theorem dX2_usefulForTrust_6 : decode cX2_usefulForTrust 6 = .ok (.getfield 42, 3) := by decide +kernel
theorem dX2_usefulForTrust_9 : decode cX2_usefulForTrust 9 = .ok (.getfield 62, 3) := by decide +kernel
theorem dX2_usefulForTrust_12 : decode cX2_usefulForTrust 12 = .ok (.if_icmp .ge 37, 3) := by decide +kernel
theorem dX2_usefulForTrust_15 : decode cX2_usefulForTrust 15 = .ok (.aload_n 0, 1) := by decide +kernel
theorem dX2_usefulForTrust_16 : decode cX2_usefulForTrust 16 = .ok (.getfield 42, 3) := by decide +kernel
theorem dX2_usefulForTrust_19 : decode cX2_usefulForTrust 19 = .ok (.getfield 130, 3) := by decide +kernel
theorem dX2_usefulForTrust_22 : decode cX2_usefulForTrust 22 = .ok (.iload_n 3, 1) := by decide +kernel
theorem dX2_usefulForTrust_23 : decode cX2_usefulForTrust 23 = .ok (.iaload, 1) := by decide +kernel
theorem dX2_usefulForTrust_24 : decode cX2_usefulForTrust 24 = .ok (.iload_n 1, 1) := by decide +kernel
theorem dX2_usefulForTrust_25 : decode cX2_usefulForTrust 25 = .ok (.if_icmp .ne 18, 3) := by decide +kernel
theorem dX2_usefulForTrust_28 : decode cX2_usefulForTrust 28 = .ok (.aload_n 0, 1) := by decide +kernel
theorem dX2_usefulForTrust_29 : decode cX2_usefulForTrust 29 = .ok (.getfield 18, 3) := by decide +kernel
theorem dX2_usefulForTrust_32 : decode cX2_usefulForTrust 32 = .ok (.iload_n 3, 1) := by decide +kernel
theorem dX2_usefulForTrust_33 : decode cX2_usefulForTrust 33 = .ok (.iaload, 1) := by decide +kernel
theorem dX2_usefulForTrust_34 : decode cX2_usefulForTrust 34 = .ok (.ifCond .le 9, 3) := by decide +kernel
theorem dX2_usefulForTrust_37 : decode cX2_usefulForTrust 37 = .ok (.iload_n 2, 1) := by decide +kernel
theorem dX2_usefulForTrust_38 : decode cX2_usefulForTrust 38 = .ok (.iconst 1, 1) := by decide +kernel
theorem dX2_usefulForTrust_39 : decode cX2_usefulForTrust 39 = .ok (.iload_n 3, 1) := by decide +kernel
theorem dX2_usefulForTrust_40 : decode cX2_usefulForTrust 40 = .ok (.ishl, 1) := by decide +kernel
theorem dX2_usefulForTrust_41 : decode cX2_usefulForTrust 41 = .ok (.ior, 1) := by decide +kernel
theorem dX2_usefulForTrust_42 : decode cX2_usefulForTrust 42 = .ok (.istore_n 2, 1) := by decide +kernel
theorem dX2_usefulForTrust_43 : decode cX2_usefulForTrust 43 = .ok (.iinc 3 1, 3) := by decide +kernel
theorem dX2_usefulForTrust_46 : decode cX2_usefulForTrust 46 = .ok (.goto (-42), 3) := by decide +kernel
theorem dX2_usefulForTrust_49 : decode cX2_usefulForTrust 49 = .ok (.iload_n 2, 1) := by decide +kernel
theorem dX2_usefulForTrust_50 : decode cX2_usefulForTrust 50 = .ok (.ireturn, 1) := by decide +kernel
theorem dX2_addUp_0 : decode cX2_addUp 0 = .ok (.iconst 0, 1) := by decide +kernel
theorem dX2_addUp_1 : decode cX2_addUp 1 = .ok (.istore_n 3, 1) := by decide +kernel
theorem dX2_addUp_2 : decode cX2_addUp 2 = .ok (.iconst 0, 1) := by decide +kernel
theorem dX2_addUp_3 : decode cX2_addUp 3 = .ok (.istore 4, 2) := by decide +kernel
theorem dX2_addUp_5 : decode cX2_addUp 5 = .ok (.iload 4, 2) := by decide +kernel
theorem dX2_addUp_7 : decode cX2_addUp 7 = .ok (.aload_n 0, 1) := by decide +kernel
theorem dX2_addUp_8 : decode cX2_addUp 8 = .ok (.getfield 42, 3) := by decide +kernel
theorem dX2_addUp_11 : decode cX2_addUp 11 = .ok (.getfield 62, 3) := by decide +kernel
theorem dX2_addUp_14 : decode cX2_addUp 14 = .ok (.if_icmp .ge 25, 3) := by decide +kernel
theorem dX2_addUp_17 : decode cX2_addUp 17 = .ok (.iload_n 2, 1) := by decide +kernel
theorem dX2_addUp_18 : decode cX2_addUp 18 = .ok (.iload 4, 2) := by decide +kernel
theorem dX2_addUp_20 : decode cX2_addUp 20 = .ok (.invokestatic 123, 3) := by decide +kernel
theorem dX2_addUp_23 : decode cX2_addUp 23 = .ok (.ifCond .eq 10, 3) := by decide +kernel
theorem dX2_addUp_26 : decode cX2_addUp 26 = .ok (.iload_n 3, 1) := by decide +kernel
theorem dX2_addUp_27 : decode cX2_addUp 27 = .ok (.aload_n 1, 1) := by decide +kernel
theorem dX2_addUp_28 : decode cX2_addUp 28 = .ok (.iload 4, 2) := by decide +kernel
theorem dX2_addUp_30 : decode cX2_addUp 30 = .ok (.iaload, 1) := by decide +kernel
theorem dX2_addUp_31 : decode cX2_addUp 31 = .ok (.iadd, 1) := by decide +kernel
theorem dX2_addUp_32 : decode cX2_addUp 32 = .ok (.istore_n 3, 1) := by decide +kernel
theorem dX2_addUp_33 : decode cX2_addUp 33 = .ok (.iinc 4 1, 3) := by decide +kernel
theorem dX2_addUp_36 : decode cX2_addUp 36 = .ok (.goto (-31), 3) := by decide +kernel
theorem dX2_addUp_39 : decode cX2_addUp 39 = .ok (.iload_n 3, 1) := by decide +kernel
theorem dX2_addUp_40 : decode cX2_addUp 40 = .ok (.ireturn, 1) := by decide +kernel
theorem dX2_holdsWith_0 : decode cX2_holdsWith 0 = .ok (.aload_n 0, 1) := by decide +kernel
theorem dX2_holdsWith_1 : decode cX2_holdsWith 1 = .ok (.getfield 24, 3) := by decide +kernel
theorem dX2_holdsWith_4 : decode cX2_holdsWith 4 = .ok (.iconst 0, 1) := by decide +kernel
theorem dX2_holdsWith_5 : decode cX2_holdsWith 5 = .ok (.aload_n 0, 1) := by decide +kernel
theorem dX2_holdsWith_6 : decode cX2_holdsWith 6 = .ok (.getfield 38, 3) := by decide +kernel
theorem dX2_holdsWith_9 : decode cX2_holdsWith 9 = .ok (.getfield 107, 3) := by decide +kernel
theorem dX2_holdsWith_12 : decode cX2_holdsWith 12 = .ok (.iconst 0, 1) := by decide +kernel
theorem dX2_holdsWith_13 : decode cX2_holdsWith 13 = .ok (.bipush 6, 2) := by decide +kernel
theorem dX2_holdsWith_15 : decode cX2_holdsWith 15 = .ok (.invokestatic 108, 3) := by decide +kernel
theorem dX2_holdsWith_18 : decode cX2_holdsWith 18 = .ok (.iconst 0, 1) := by decide +kernel
theorem dX2_holdsWith_19 : decode cX2_holdsWith 19 = .ok (.istore 4, 2) := by decide +kernel
theorem dX2_holdsWith_21 : decode cX2_holdsWith 21 = .ok (.iload 4, 2) := by decide +kernel
theorem dX2_holdsWith_23 : decode cX2_holdsWith 23 = .ok (.aload_n 0, 1) := by decide +kernel
theorem dX2_holdsWith_24 : decode cX2_holdsWith 24 = .ok (.getfield 42, 3) := by decide +kernel
theorem dX2_holdsWith_27 : decode cX2_holdsWith 27 = .ok (.getfield 62, 3) := by decide +kernel
theorem dX2_holdsWith_30 : decode cX2_holdsWith 30 = .ok (.if_icmp .ge 46, 3) := by decide +kernel
theorem dX2_holdsWith_33 : decode cX2_holdsWith 33 = .ok (.iload_n 1, 1) := by decide +kernel
theorem dX2_holdsWith_34 : decode cX2_holdsWith 34 = .ok (.iload 4, 2) := by decide +kernel
theorem dX2_holdsWith_36 : decode cX2_holdsWith 36 = .ok (.invokestatic 123, 3) := by decide +kernel
theorem dX2_holdsWith_39 : decode cX2_holdsWith 39 = .ok (.ifCond .eq 31, 3) := by decide +kernel
theorem dX2_holdsWith_42 : decode cX2_holdsWith 42 = .ok (.aload_n 0, 1) := by decide +kernel
theorem dX2_holdsWith_43 : decode cX2_holdsWith 43 = .ok (.getfield 38, 3) := by decide +kernel
theorem dX2_holdsWith_46 : decode cX2_holdsWith 46 = .ok (.getfield 107, 3) := by decide +kernel
theorem dX2_holdsWith_49 : decode cX2_holdsWith 49 = .ok (.aload_n 0, 1) := by decide +kernel
theorem dX2_holdsWith_50 : decode cX2_holdsWith 50 = .ok (.getfield 42, 3) := by decide +kernel
theorem dX2_holdsWith_53 : decode cX2_holdsWith 53 = .ok (.getfield 130, 3) := by decide +kernel
theorem dX2_holdsWith_56 : decode cX2_holdsWith 56 = .ok (.iload 4, 2) := by decide +kernel
theorem dX2_holdsWith_58 : decode cX2_holdsWith 58 = .ok (.iaload, 1) := by decide +kernel
theorem dX2_holdsWith_59 : decode cX2_holdsWith 59 = .ok (.dup2, 1) := by decide +kernel
theorem dX2_holdsWith_60 : decode cX2_holdsWith 60 = .ok (.iaload, 1) := by decide +kernel
theorem dX2_holdsWith_61 : decode cX2_holdsWith 61 = .ok (.aload_n 0, 1) := by decide +kernel
theorem dX2_holdsWith_62 : decode cX2_holdsWith 62 = .ok (.getfield 18, 3) := by decide +kernel
theorem dX2_holdsWith_65 : decode cX2_holdsWith 65 = .ok (.iload 4, 2) := by decide +kernel
theorem dX2_holdsWith_67 : decode cX2_holdsWith 67 = .ok (.iaload, 1) := by decide +kernel
theorem dX2_holdsWith_68 : decode cX2_holdsWith 68 = .ok (.iadd, 1) := by decide +kernel
theorem dX2_holdsWith_69 : decode cX2_holdsWith 69 = .ok (.iastore, 1) := by decide +kernel
theorem dX2_holdsWith_70 : decode cX2_holdsWith 70 = .ok (.iinc 4 1, 3) := by decide +kernel
theorem dX2_holdsWith_73 : decode cX2_holdsWith 73 = .ok (.goto (-52), 3) := by decide +kernel
theorem dX2_holdsWith_76 : decode cX2_holdsWith 76 = .ok (.iconst 0, 1) := by decide +kernel
theorem dX2_holdsWith_77 : decode cX2_holdsWith 77 = .ok (.istore 4, 2) := by decide +kernel
theorem dX2_holdsWith_79 : decode cX2_holdsWith 79 = .ok (.iload 4, 2) := by decide +kernel
theorem dX2_holdsWith_81 : decode cX2_holdsWith 81 = .ok (.aload_n 3, 1) := by decide +kernel
theorem dX2_holdsWith_82 : decode cX2_holdsWith 82 = .ok (.getfield 84, 3) := by decide +kernel
theorem dX2_holdsWith_85 : decode cX2_holdsWith 85 = .ok (.if_icmp .ge 48, 3) := by decide +kernel
theorem dX2_holdsWith_88 : decode cX2_holdsWith 88 = .ok (.aload_n 0, 1) := by decide +kernel
theorem dX2_holdsWith_89 : decode cX2_holdsWith 89 = .ok (.getfield 30, 3) := by decide +kernel
theorem dX2_holdsWith_92 : decode cX2_holdsWith 92 = .ok (.iload 4, 2) := by decide +kernel
theorem dX2_holdsWith_94 : decode cX2_holdsWith 94 = .ok (.invokestatic 123, 3) := by decide +kernel
theorem dX2_holdsWith_97 : decode cX2_holdsWith 97 = .ok (.ifCond .eq 30, 3) := by decide +kernel
theorem dX2_holdsWith_100 : decode cX2_holdsWith 100 = .ok (.aload_n 0, 1) := by decide +kernel
theorem dX2_holdsWith_101 : decode cX2_holdsWith 101 = .ok (.iload_n 1, 1) := by decide +kernel
theorem dX2_holdsWith_102 : decode cX2_holdsWith 102 = .ok (.iload 4, 2) := by decide +kernel
theorem dX2_holdsWith_104 : decode cX2_holdsWith 104 = .ok (.invokevirtual 133, 3) := by decide +kernel
theorem dX2_holdsWith_107 : decode cX2_holdsWith 107 = .ok (.aload_n 0, 1) := by decide +kernel
theorem dX2_holdsWith_108 : decode cX2_holdsWith 108 = .ok (.getfield 38, 3) := by decide +kernel
theorem dX2_holdsWith_111 : decode cX2_holdsWith 111 = .ok (.aload_n 2, 1) := by decide +kernel
theorem dX2_holdsWith_112 : decode cX2_holdsWith 112 = .ok (.invokevirtual 136, 3) := by decide +kernel
theorem dX2_holdsWith_115 : decode cX2_holdsWith 115 = .ok (.aload_n 3, 1) := by decide +kernel
theorem dX2_holdsWith_116 : decode cX2_holdsWith 116 = .ok (.getfield 101, 3) := by decide +kernel
theorem dX2_holdsWith_119 : decode cX2_holdsWith 119 = .ok (.iload 4, 2) := by decide +kernel
theorem dX2_holdsWith_121 : decode cX2_holdsWith 121 = .ok (.iaload, 1) := by decide +kernel
theorem dX2_holdsWith_122 : decode cX2_holdsWith 122 = .ok (.if_icmp .eq 5, 3) := by decide +kernel
theorem dX2_holdsWith_125 : decode cX2_holdsWith 125 = .ok (.iconst 0, 1) := by decide +kernel
theorem dX2_holdsWith_126 : decode cX2_holdsWith 126 = .ok (.ireturn, 1) := by decide +kernel
theorem dX2_holdsWith_127 : decode cX2_holdsWith 127 = .ok (.iinc 4 1, 3) := by decide +kernel
theorem dX2_holdsWith_130 : decode cX2_holdsWith 130 = .ok (.goto (-51), 3) := by decide +kernel
theorem dX2_holdsWith_133 : decode cX2_holdsWith 133 = .ok (.iconst 1, 1) := by decide +kernel
theorem dX2_holdsWith_134 : decode cX2_holdsWith 134 = .ok (.ireturn, 1) := by decide +kernel
theorem dX2_gatherWith_0 : decode cX2_gatherWith 0 = .ok (.aload_n 0, 1) := by decide +kernel
theorem dX2_gatherWith_1 : decode cX2_gatherWith 1 = .ok (.getfield 27, 3) := by decide +kernel
theorem dX2_gatherWith_4 : decode cX2_gatherWith 4 = .ok (.iload_n 2, 1) := by decide +kernel
theorem dX2_gatherWith_5 : decode cX2_gatherWith 5 = .ok (.bipush 10, 2) := by decide +kernel
theorem dX2_gatherWith_7 : decode cX2_gatherWith 7 = .ok (.imul, 1) := by decide +kernel
theorem dX2_gatherWith_8 : decode cX2_gatherWith 8 = .ok (.aload_n 0, 1) := by decide +kernel
theorem dX2_gatherWith_9 : decode cX2_gatherWith 9 = .ok (.getfield 38, 3) := by decide +kernel
theorem dX2_gatherWith_12 : decode cX2_gatherWith 12 = .ok (.getfield 122, 3) := by decide +kernel
theorem dX2_gatherWith_15 : decode cX2_gatherWith 15 = .ok (.iconst 0, 1) := by decide +kernel
theorem dX2_gatherWith_16 : decode cX2_gatherWith 16 = .ok (.bipush 10, 2) := by decide +kernel
theorem dX2_gatherWith_18 : decode cX2_gatherWith 18 = .ok (.invokestatic 108, 3) := by decide +kernel
theorem dX2_gatherWith_21 : decode cX2_gatherWith 21 = .ok (.iconst 0, 1) := by decide +kernel
theorem dX2_gatherWith_22 : decode cX2_gatherWith 22 = .ok (.istore_n 3, 1) := by decide +kernel
theorem dX2_gatherWith_23 : decode cX2_gatherWith 23 = .ok (.iload_n 3, 1) := by decide +kernel
theorem dX2_gatherWith_24 : decode cX2_gatherWith 24 = .ok (.aload_n 0, 1) := by decide +kernel
theorem dX2_gatherWith_25 : decode cX2_gatherWith 25 = .ok (.getfield 42, 3) := by decide +kernel
theorem dX2_gatherWith_28 : decode cX2_gatherWith 28 = .ok (.getfield 62, 3) := by decide +kernel
theorem dX2_gatherWith_31 : decode cX2_gatherWith 31 = .ok (.if_icmp .ge 61, 3) := by decide +kernel
theorem dX2_gatherWith_34 : decode cX2_gatherWith 34 = .ok (.iload_n 1, 1) := by decide +kernel
theorem dX2_gatherWith_35 : decode cX2_gatherWith 35 = .ok (.iload_n 3, 1) := by decide +kernel
theorem dX2_gatherWith_36 : decode cX2_gatherWith 36 = .ok (.invokestatic 123, 3) := by decide +kernel
theorem dX2_gatherWith_39 : decode cX2_gatherWith 39 = .ok (.ifCond .eq 47, 3) := by decide +kernel
theorem dX2_gatherWith_42 : decode cX2_gatherWith 42 = .ok (.aload_n 0, 1) := by decide +kernel
theorem dX2_gatherWith_43 : decode cX2_gatherWith 43 = .ok (.getfield 21, 3) := by decide +kernel
theorem dX2_gatherWith_46 : decode cX2_gatherWith 46 = .ok (.iload_n 3, 1) := by decide +kernel
theorem dX2_gatherWith_47 : decode cX2_gatherWith 47 = .ok (.iaload, 1) := by decide +kernel
theorem dX2_gatherWith_48 : decode cX2_gatherWith 48 = .ok (.iload_n 2, 1) := by decide +kernel
theorem dX2_gatherWith_49 : decode cX2_gatherWith 49 = .ok (.invokestatic 123, 3) := by decide +kernel
theorem dX2_gatherWith_52 : decode cX2_gatherWith 52 = .ok (.ifCond .eq 34, 3) := by decide +kernel
theorem dX2_gatherWith_55 : decode cX2_gatherWith 55 = .ok (.aload_n 0, 1) := by decide +kernel
theorem dX2_gatherWith_56 : decode cX2_gatherWith 56 = .ok (.getfield 38, 3) := by decide +kernel
theorem dX2_gatherWith_59 : decode cX2_gatherWith 59 = .ok (.getfield 122, 3) := by decide +kernel
theorem dX2_gatherWith_62 : decode cX2_gatherWith 62 = .ok (.aload_n 0, 1) := by decide +kernel
theorem dX2_gatherWith_63 : decode cX2_gatherWith 63 = .ok (.getfield 42, 3) := by decide +kernel
theorem dX2_gatherWith_66 : decode cX2_gatherWith 66 = .ok (.getfield 140, 3) := by decide +kernel
theorem dX2_gatherWith_69 : decode cX2_gatherWith 69 = .ok (.iload_n 3, 1) := by decide +kernel
theorem dX2_gatherWith_70 : decode cX2_gatherWith 70 = .ok (.iaload, 1) := by decide +kernel
theorem dX2_gatherWith_71 : decode cX2_gatherWith 71 = .ok (.dup2, 1) := by decide +kernel
theorem dX2_gatherWith_72 : decode cX2_gatherWith 72 = .ok (.iaload, 1) := by decide +kernel
theorem dX2_gatherWith_73 : decode cX2_gatherWith 73 = .ok (.iconst 1, 1) := by decide +kernel
theorem dX2_gatherWith_74 : decode cX2_gatherWith 74 = .ok (.aload_n 0, 1) := by decide +kernel
theorem dX2_gatherWith_75 : decode cX2_gatherWith 75 = .ok (.getfield 42, 3) := by decide +kernel
theorem dX2_gatherWith_78 : decode cX2_gatherWith 78 = .ok (.getfield 130, 3) := by decide +kernel
theorem dX2_gatherWith_81 : decode cX2_gatherWith 81 = .ok (.iload_n 3, 1) := by decide +kernel
theorem dX2_gatherWith_82 : decode cX2_gatherWith 82 = .ok (.iaload, 1) := by decide +kernel
theorem dX2_gatherWith_83 : decode cX2_gatherWith 83 = .ok (.ishl, 1) := by decide +kernel
theorem dX2_gatherWith_84 : decode cX2_gatherWith 84 = .ok (.ior, 1) := by decide +kernel
theorem dX2_gatherWith_85 : decode cX2_gatherWith 85 = .ok (.iastore, 1) := by decide +kernel
theorem dX2_gatherWith_86 : decode cX2_gatherWith 86 = .ok (.iinc 3 1, 3) := by decide +kernel
theorem dX2_gatherWith_89 : decode cX2_gatherWith 89 = .ok (.goto (-66), 3) := by decide +kernel
theorem dX2_gatherWith_92 : decode cX2_gatherWith 92 = .ok (.return_, 1) := by decide +kernel
theorem dX3_init_0 : decode cX3_init 0 = .ok (.aload_n 0, 1) := by decide +kernel
theorem dX3_init_1 : decode cX3_init 1 = .ok (.invokespecial 3, 3) := by decide +kernel
theorem dX3_init_4 : decode cX3_init 4 = .ok (.aload_n 0, 1) := by decide +kernel
theorem dX3_init_5 : decode cX3_init 5 = .ok (.getstatic 9, 3) := by decide +kernel
theorem dX3_init_8 : decode cX3_init 8 = .ok (.invokevirtual 13, 3) := by decide +kernel
theorem dX3_init_11 : decode cX3_init 11 = .ok (.checkcast 14, 3) := by decide +kernel
theorem dX3_init_14 : decode cX3_init 14 = .ok (.putfield 18, 3) := by decide +kernel
theorem dX3_init_17 : decode cX3_init 17 = .ok (.aload_n 0, 1) := by decide +kernel
theorem dX3_init_18 : decode cX3_init 18 = .ok (.bipush 6, 2) := by decide +kernel
theorem dX3_init_20 : decode cX3_init 20 = .ok (.newarray .int, 2) := by decide +kernel
theorem dX3_init_22 : decode cX3_init 22 = .ok (.putfield 23, 3) := by decide +kernel
theorem dX3_init_25 : decode cX3_init 25 = .ok (.aload_n 0, 1) := by decide +kernel
theorem dX3_init_26 : decode cX3_init 26 = .ok (.bipush 6, 2) := by decide +kernel
theorem dX3_init_28 : decode cX3_init 28 = .ok (.newarray .int, 2) := by decide +kernel
theorem dX3_init_30 : decode cX3_init 30 = .ok (.putfield 26, 3) := by decide +kernel
theorem dX3_init_33 : decode cX3_init 33 = .ok (.aload_n 0, 1) := by decide +kernel
theorem dX3_init_34 : decode cX3_init 34 = .ok (.bipush 6, 2) := by decide +kernel
theorem dX3_init_36 : decode cX3_init 36 = .ok (.newarray .int, 2) := by decide +kernel
theorem dX3_init_38 : decode cX3_init 38 = .ok (.putfield 29, 3) := by decide +kernel
theorem dX3_init_41 : decode cX3_init 41 = .ok (.aload_n 0, 1) := by decide +kernel
theorem dX3_init_42 : decode cX3_init 42 = .ok (.iconst 0, 1) := by decide +kernel
theorem dX3_init_43 : decode cX3_init 43 = .ok (.putfield 32, 3) := by decide +kernel
theorem dX3_init_46 : decode cX3_init 46 = .ok (.return_, 1) := by decide +kernel
theorem dX3_weighBy_0 : decode cX3_weighBy 0 = .ok (.getstatic 9, 3) := by decide +kernel
theorem dX3_weighBy_3 : decode cX3_weighBy 3 = .ok (.iconst 0, 1) := by decide +kernel
theorem dX3_weighBy_4 : decode cX3_weighBy 4 = .ok (.aload_n 0, 1) := by decide +kernel
theorem dX3_weighBy_5 : decode cX3_weighBy 5 = .ok (.getfield 18, 3) := by decide +kernel
theorem dX3_weighBy_8 : decode cX3_weighBy 8 = .ok (.iconst 0, 1) := by decide +kernel
theorem dX3_weighBy_9 : decode cX3_weighBy 9 = .ok (.bipush 6, 2) := by decide +kernel
theorem dX3_weighBy_11 : decode cX3_weighBy 11 = .ok (.invokestatic 36, 3) := by decide +kernel
theorem dX3_weighBy_14 : decode cX3_weighBy 14 = .ok (.iconst 0, 1) := by decide +kernel
theorem dX3_weighBy_15 : decode cX3_weighBy 15 = .ok (.istore_n 2, 1) := by decide +kernel
theorem dX3_weighBy_16 : decode cX3_weighBy 16 = .ok (.iload_n 2, 1) := by decide +kernel
theorem dX3_weighBy_17 : decode cX3_weighBy 17 = .ok (.aload_n 1, 1) := by decide +kernel
theorem dX3_weighBy_18 : decode cX3_weighBy 18 = .ok (.getfield 42, 3) := by decide +kernel
theorem dX3_weighBy_21 : decode cX3_weighBy 21 = .ok (.if_icmp .ge 26, 3) := by decide +kernel
theorem dX3_weighBy_24 : decode cX3_weighBy 24 = .ok (.aload_n 0, 1) := by decide +kernel
theorem dX3_weighBy_25 : decode cX3_weighBy 25 = .ok (.getfield 18, 3) := by decide +kernel
theorem dX3_weighBy_28 : decode cX3_weighBy 28 = .ok (.aload_n 1, 1) := by decide +kernel
theorem dX3_weighBy_29 : decode cX3_weighBy 29 = .ok (.getfield 47, 3) := by decide +kernel
theorem dX3_weighBy_32 : decode cX3_weighBy 32 = .ok (.iload_n 2, 1) := by decide +kernel
theorem dX3_weighBy_33 : decode cX3_weighBy 33 = .ok (.iaload, 1) := by decide +kernel
theorem dX3_weighBy_34 : decode cX3_weighBy 34 = .ok (.aload_n 1, 1) := by decide +kernel
theorem dX3_weighBy_35 : decode cX3_weighBy 35 = .ok (.getfield 50, 3) := by decide +kernel
theorem dX3_weighBy_38 : decode cX3_weighBy 38 = .ok (.iload_n 2, 1) := by decide +kernel
theorem dX3_weighBy_39 : decode cX3_weighBy 39 = .ok (.iaload, 1) := by decide +kernel
theorem dX3_weighBy_40 : decode cX3_weighBy 40 = .ok (.iastore, 1) := by decide +kernel
theorem dX3_weighBy_41 : decode cX3_weighBy 41 = .ok (.iinc 2 1, 3) := by decide +kernel
theorem dX3_weighBy_44 : decode cX3_weighBy 44 = .ok (.goto (-28), 3) := by decide +kernel
theorem dX3_weighBy_47 : decode cX3_weighBy 47 = .ok (.aload_n 1, 1) := by decide +kernel
theorem dX3_weighBy_48 : decode cX3_weighBy 48 = .ok (.getfield 42, 3) := by decide +kernel
theorem dX3_weighBy_51 : decode cX3_weighBy 51 = .ok (.ireturn, 1) := by decide +kernel
theorem dX3_addEyes_0 : decode cX3_addEyes 0 = .ok (.aload_n 0, 1) := by decide +kernel
theorem dX3_addEyes_1 : decode cX3_addEyes 1 = .ok (.getfield 32, 3) := by decide +kernel
theorem dX3_addEyes_4 : decode cX3_addEyes 4 = .ok (.bipush 6, 2) := by decide +kernel
theorem dX3_addEyes_6 : decode cX3_addEyes 6 = .ok (.if_icmp .lt 6, 3) := by decide +kernel
theorem dX3_addEyes_9 : decode cX3_addEyes 9 = .ok (.bipush (-5), 2) := by decide +kernel
theorem dX3_addEyes_11 : decode cX3_addEyes 11 = .ok (.ireturn, 1) := by decide +kernel
theorem dX3_addEyes_12 : decode cX3_addEyes 12 = .ok (.aload_n 0, 1) := by decide +kernel
theorem dX3_addEyes_13 : decode cX3_addEyes 13 = .ok (.getfield 23, 3) := by decide +kernel
theorem dX3_addEyes_16 : decode cX3_addEyes 16 = .ok (.aload_n 0, 1) := by decide +kernel
theorem dX3_addEyes_17 : decode cX3_addEyes 17 = .ok (.getfield 32, 3) := by decide +kernel
theorem dX3_addEyes_20 : decode cX3_addEyes 20 = .ok (.iload_n 1, 1) := by decide +kernel
theorem dX3_addEyes_21 : decode cX3_addEyes 21 = .ok (.iastore, 1) := by decide +kernel
theorem dX3_addEyes_22 : decode cX3_addEyes 22 = .ok (.aload_n 0, 1) := by decide +kernel
theorem dX3_addEyes_23 : decode cX3_addEyes 23 = .ok (.getfield 26, 3) := by decide +kernel
theorem dX3_addEyes_26 : decode cX3_addEyes 26 = .ok (.aload_n 0, 1) := by decide +kernel
theorem dX3_addEyes_27 : decode cX3_addEyes 27 = .ok (.getfield 32, 3) := by decide +kernel
theorem dX3_addEyes_30 : decode cX3_addEyes 30 = .ok (.iload_n 2, 1) := by decide +kernel
theorem dX3_addEyes_31 : decode cX3_addEyes 31 = .ok (.iastore, 1) := by decide +kernel
theorem dX3_addEyes_32 : decode cX3_addEyes 32 = .ok (.aload_n 0, 1) := by decide +kernel
theorem dX3_addEyes_33 : decode cX3_addEyes 33 = .ok (.getfield 29, 3) := by decide +kernel
theorem dX3_addEyes_36 : decode cX3_addEyes 36 = .ok (.aload_n 0, 1) := by decide +kernel
theorem dX3_addEyes_37 : decode cX3_addEyes 37 = .ok (.getfield 32, 3) := by decide +kernel
theorem dX3_addEyes_40 : decode cX3_addEyes 40 = .ok (.iload_n 3, 1) := by decide +kernel
theorem dX3_addEyes_41 : decode cX3_addEyes 41 = .ok (.iastore, 1) := by decide +kernel
theorem dX3_addEyes_42 : decode cX3_addEyes 42 = .ok (.aload_n 0, 1) := by decide +kernel
theorem dX3_addEyes_43 : decode cX3_addEyes 43 = .ok (.dup, 1) := by decide +kernel
theorem dX3_addEyes_44 : decode cX3_addEyes 44 = .ok (.getfield 32, 3) := by decide +kernel
theorem dX3_addEyes_47 : decode cX3_addEyes 47 = .ok (.iconst 1, 1) := by decide +kernel
theorem dX3_addEyes_48 : decode cX3_addEyes 48 = .ok (.iadd, 1) := by decide +kernel
theorem dX3_addEyes_49 : decode cX3_addEyes 49 = .ok (.putfield 32, 3) := by decide +kernel
theorem dX3_addEyes_52 : decode cX3_addEyes 52 = .ok (.aload_n 0, 1) := by decide +kernel
theorem dX3_addEyes_53 : decode cX3_addEyes 53 = .ok (.getfield 32, 3) := by decide +kernel
theorem dX3_addEyes_56 : decode cX3_addEyes 56 = .ok (.ireturn, 1) := by decide +kernel
theorem dX3_knows_0 : decode cX3_knows 0 = .ok (.iload_n 1, 1) := by decide +kernel
theorem dX3_knows_1 : decode cX3_knows 1 = .ok (.invokestatic 53, 3) := by decide +kernel
theorem dX3_knows_4 : decode cX3_knows 4 = .ok (.istore_n 3, 1) := by decide +kernel
theorem dX3_knows_5 : decode cX3_knows 5 = .ok (.iload_n 1, 1) := by decide +kernel
theorem dX3_knows_6 : decode cX3_knows 6 = .ok (.invokestatic 57, 3) := by decide +kernel
theorem dX3_knows_9 : decode cX3_knows 9 = .ok (.istore 4, 2) := by decide +kernel
theorem dX3_knows_11 : decode cX3_knows 11 = .ok (.iload_n 3, 1) := by decide +kernel
theorem dX3_knows_12 : decode cX3_knows 12 = .ok (.iload_n 2, 1) := by decide +kernel
theorem dX3_knows_13 : decode cX3_knows 13 = .ok (.if_icmp .le 5, 3) := by decide +kernel
theorem dX3_knows_16 : decode cX3_knows 16 = .ok (.iconst 0, 1) := by decide +kernel
theorem dX3_knows_17 : decode cX3_knows 17 = .ok (.ireturn, 1) := by decide +kernel
theorem dX3_knows_18 : decode cX3_knows 18 = .ok (.iconst 0, 1) := by decide +kernel
theorem dX3_knows_19 : decode cX3_knows 19 = .ok (.istore 5, 2) := by decide +kernel
theorem dX3_knows_21 : decode cX3_knows 21 = .ok (.iload 5, 2) := by decide +kernel
theorem dX3_knows_23 : decode cX3_knows 23 = .ok (.aload_n 0, 1) := by decide +kernel
theorem dX3_knows_24 : decode cX3_knows 24 = .ok (.getfield 32, 3) := by decide +kernel
theorem dX3_knows_27 : decode cX3_knows 27 = .ok (.if_icmp .ge 45, 3) := by decide +kernel
theorem dX3_knows_30 : decode cX3_knows 30 = .ok (.aload_n 0, 1) := by decide +kernel
theorem dX3_knows_31 : decode cX3_knows 31 = .ok (.getfield 23, 3) := by decide +kernel
theorem dX3_knows_34 : decode cX3_knows 34 = .ok (.iload 5, 2) := by decide +kernel
theorem dX3_knows_36 : decode cX3_knows 36 = .ok (.iaload, 1) := by decide +kernel
theorem dX3_knows_37 : decode cX3_knows 37 = .ok (.iload 4, 2) := by decide +kernel
theorem dX3_knows_39 : decode cX3_knows 39 = .ok (.if_icmp .ne 27, 3) := by decide +kernel
theorem dX3_knows_42 : decode cX3_knows 42 = .ok (.aload_n 0, 1) := by decide +kernel
theorem dX3_knows_43 : decode cX3_knows 43 = .ok (.getfield 26, 3) := by decide +kernel
theorem dX3_knows_46 : decode cX3_knows 46 = .ok (.iload 5, 2) := by decide +kernel
theorem dX3_knows_48 : decode cX3_knows 48 = .ok (.iaload, 1) := by decide +kernel
theorem dX3_knows_49 : decode cX3_knows 49 = .ok (.iload_n 3, 1) := by decide +kernel
theorem dX3_knows_50 : decode cX3_knows 50 = .ok (.if_icmp .gt 16, 3) := by decide +kernel
theorem dX3_knows_53 : decode cX3_knows 53 = .ok (.iload_n 3, 1) := by decide +kernel
theorem dX3_knows_54 : decode cX3_knows 54 = .ok (.aload_n 0, 1) := by decide +kernel
theorem dX3_knows_55 : decode cX3_knows 55 = .ok (.getfield 29, 3) := by decide +kernel
theorem dX3_knows_58 : decode cX3_knows 58 = .ok (.iload 5, 2) := by decide +kernel
theorem dX3_knows_60 : decode cX3_knows 60 = .ok (.iaload, 1) := by decide +kernel
theorem dX3_knows_61 : decode cX3_knows 61 = .ok (.if_icmp .gt 5, 3) := by decide +kernel
theorem dX3_knows_64 : decode cX3_knows 64 = .ok (.iconst 1, 1) := by decide +kernel
theorem dX3_knows_65 : decode cX3_knows 65 = .ok (.ireturn, 1) := by decide +kernel
theorem dX3_knows_66 : decode cX3_knows 66 = .ok (.iinc 5 1, 3) := by decide +kernel
theorem dX3_knows_69 : decode cX3_knows 69 = .ok (.goto (-48), 3) := by decide +kernel
theorem dX3_knows_72 : decode cX3_knows 72 = .ok (.iconst 0, 1) := by decide +kernel
theorem dX3_knows_73 : decode cX3_knows 73 = .ok (.ireturn, 1) := by decide +kernel
theorem dX4_init_0 : decode cX4_init 0 = .ok (.aload_n 0, 1) := by decide +kernel
theorem dX4_init_1 : decode cX4_init 1 = .ok (.invokespecial 3, 3) := by decide +kernel
theorem dX4_init_4 : decode cX4_init 4 = .ok (.aload_n 0, 1) := by decide +kernel
theorem dX4_init_5 : decode cX4_init 5 = .ok (.bipush 6, 2) := by decide +kernel
theorem dX4_init_7 : decode cX4_init 7 = .ok (.newarray .int, 2) := by decide +kernel
theorem dX4_init_9 : decode cX4_init 9 = .ok (.putfield 9, 3) := by decide +kernel
theorem dX4_init_12 : decode cX4_init 12 = .ok (.aload_n 0, 1) := by decide +kernel
theorem dX4_init_13 : decode cX4_init 13 = .ok (.bipush 10, 2) := by decide +kernel
theorem dX4_init_15 : decode cX4_init 15 = .ok (.newarray .int, 2) := by decide +kernel
theorem dX4_init_17 : decode cX4_init 17 = .ok (.putfield 15, 3) := by decide +kernel
theorem dX4_init_20 : decode cX4_init 20 = .ok (.aload_n 0, 1) := by decide +kernel
theorem dX4_init_21 : decode cX4_init 21 = .ok (.aload_n 1, 1) := by decide +kernel
theorem dX4_init_22 : decode cX4_init 22 = .ok (.putfield 18, 3) := by decide +kernel
theorem dX4_init_25 : decode cX4_init 25 = .ok (.aload_n 0, 1) := by decide +kernel
theorem dX4_init_26 : decode cX4_init 26 = .ok (.aload_n 2, 1) := by decide +kernel
theorem dX4_init_27 : decode cX4_init 27 = .ok (.putfield 22, 3) := by decide +kernel
theorem dX4_init_30 : decode cX4_init 30 = .ok (.return_, 1) := by decide +kernel
theorem dX4_gain_0 : decode cX4_gain 0 = .ok (.aload_n 2, 1) := by decide +kernel
theorem dX4_gain_1 : decode cX4_gain 1 = .ok (.iload_n 3, 1) := by decide +kernel
theorem dX4_gain_2 : decode cX4_gain 2 = .ok (.invokevirtual 26, 3) := by decide +kernel
theorem dX4_gain_5 : decode cX4_gain 5 = .ok (.istore 5, 2) := by decide +kernel
theorem dX4_gain_7 : decode cX4_gain 7 = .ok (.iload 5, 2) := by decide +kernel
theorem dX4_gain_9 : decode cX4_gain 9 = .ok (.iload 4, 2) := by decide +kernel
theorem dX4_gain_11 : decode cX4_gain 11 = .ok (.if_icmp .gt 18, 3) := by decide +kernel
theorem dX4_gain_14 : decode cX4_gain 14 = .ok (.aload_n 1, 1) := by decide +kernel
theorem dX4_gain_15 : decode cX4_gain 15 = .ok (.aload_n 2, 1) := by decide +kernel
theorem dX4_gain_16 : decode cX4_gain 16 = .ok (.getfield 32, 3) := by decide +kernel
theorem dX4_gain_19 : decode cX4_gain 19 = .ok (.iload_n 3, 1) := by decide +kernel
theorem dX4_gain_20 : decode cX4_gain 20 = .ok (.iaload, 1) := by decide +kernel
theorem dX4_gain_21 : decode cX4_gain 21 = .ok (.iload 4, 2) := by decide +kernel
theorem dX4_gain_23 : decode cX4_gain 23 = .ok (.invokevirtual 35, 3) := by decide +kernel
theorem dX4_gain_26 : decode cX4_gain 26 = .ok (.ifCond .ne 5, 3) := by decide +kernel
theorem dX4_gain_29 : decode cX4_gain 29 = .ok (.iconst 0, 1) := by decide +kernel
theorem dX4_gain_30 : decode cX4_gain 30 = .ok (.ireturn, 1) := by decide +kernel
theorem dX4_gain_31 : decode cX4_gain 31 = .ok (.aload_n 0, 1) := by decide +kernel
theorem dX4_gain_32 : decode cX4_gain 32 = .ok (.getfield 18, 3) := by decide +kernel
theorem dX4_gain_35 : decode cX4_gain 35 = .ok (.aload_n 2, 1) := by decide +kernel
theorem dX4_gain_36 : decode cX4_gain 36 = .ok (.getfield 32, 3) := by decide +kernel
theorem dX4_gain_39 : decode cX4_gain 39 = .ok (.iload_n 3, 1) := by decide +kernel
theorem dX4_gain_40 : decode cX4_gain 40 = .ok (.iaload, 1) := by decide +kernel
theorem dX4_gain_41 : decode cX4_gain 41 = .ok (.invokevirtual 41, 3) := by decide +kernel
theorem dX4_gain_44 : decode cX4_gain 44 = .ok (.aload_n 2, 1) := by decide +kernel
theorem dX4_gain_45 : decode cX4_gain 45 = .ok (.getfield 46, 3) := by decide +kernel
theorem dX4_gain_48 : decode cX4_gain 48 = .ok (.iload_n 3, 1) := by decide +kernel
theorem dX4_gain_49 : decode cX4_gain 49 = .ok (.iaload, 1) := by decide +kernel
theorem dX4_gain_50 : decode cX4_gain 50 = .ok (.if_icmp .eq 11, 3) := by decide +kernel
theorem dX4_gain_53 : decode cX4_gain 53 = .ok (.aload_n 1, 1) := by decide +kernel
theorem dX4_gain_54 : decode cX4_gain 54 = .ok (.getfield 49, 3) := by decide +kernel
theorem dX4_gain_57 : decode cX4_gain 57 = .ok (.iconst 2, 1) := by decide +kernel
theorem dX4_gain_58 : decode cX4_gain 58 = .ok (.iaload, 1) := by decide +kernel
theorem dX4_gain_59 : decode cX4_gain 59 = .ok (.ineg, 1) := by decide +kernel
theorem dX4_gain_60 : decode cX4_gain 60 = .ok (.ireturn, 1) := by decide +kernel
theorem dX4_gain_61 : decode cX4_gain 61 = .ok (.iconst 0, 1) := by decide +kernel
theorem dX4_gain_62 : decode cX4_gain 62 = .ok (.iload 5, 2) := by decide +kernel
theorem dX4_gain_64 : decode cX4_gain 64 = .ok (.aload_n 2, 1) := by decide +kernel
theorem dX4_gain_65 : decode cX4_gain 65 = .ok (.getfield 32, 3) := by decide +kernel
theorem dX4_gain_68 : decode cX4_gain 68 = .ok (.iload_n 3, 1) := by decide +kernel
theorem dX4_gain_69 : decode cX4_gain 69 = .ok (.iaload, 1) := by decide +kernel
theorem dX4_gain_70 : decode cX4_gain 70 = .ok (.invokestatic 52, 3) := by decide +kernel
theorem dX4_gain_73 : decode cX4_gain 73 = .ok (.isub, 1) := by decide +kernel
theorem dX4_gain_74 : decode cX4_gain 74 = .ok (.invokestatic 55, 3) := by decide +kernel
theorem dX4_gain_77 : decode cX4_gain 77 = .ok (.istore 6, 2) := by decide +kernel
theorem dX4_gain_79 : decode cX4_gain 79 = .ok (.iconst 0, 1) := by decide +kernel
theorem dX4_gain_80 : decode cX4_gain 80 = .ok (.aload_n 1, 1) := by decide +kernel
theorem dX4_gain_81 : decode cX4_gain 81 = .ok (.getfield 49, 3) := by decide +kernel
theorem dX4_gain_84 : decode cX4_gain 84 = .ok (.iconst 1, 1) := by decide +kernel
theorem dX4_gain_85 : decode cX4_gain 85 = .ok (.iaload, 1) := by decide +kernel
theorem dX4_gain_86 : decode cX4_gain 86 = .ok (.aload_n 1, 1) := by decide +kernel
theorem dX4_gain_87 : decode cX4_gain 87 = .ok (.getfield 49, 3) := by decide +kernel
theorem dX4_gain_90 : decode cX4_gain 90 = .ok (.iconst 3, 1) := by decide +kernel
theorem dX4_gain_91 : decode cX4_gain 91 = .ok (.iaload, 1) := by decide +kernel
theorem dX4_gain_92 : decode cX4_gain 92 = .ok (.iload 6, 2) := by decide +kernel
theorem dX4_gain_94 : decode cX4_gain 94 = .ok (.imul, 1) := by decide +kernel
theorem dX4_gain_95 : decode cX4_gain 95 = .ok (.isub, 1) := by decide +kernel
theorem dX4_gain_96 : decode cX4_gain 96 = .ok (.invokestatic 55, 3) := by decide +kernel
theorem dX4_gain_99 : decode cX4_gain 99 = .ok (.ireturn, 1) := by decide +kernel
theorem dX4_sumTrust_0 : decode cX4_sumTrust 0 = .ok (.iconst 0, 1) := by decide +kernel
theorem dX4_sumTrust_1 : decode cX4_sumTrust 1 = .ok (.istore_n 3, 1) := by decide +kernel
theorem dX4_sumTrust_2 : decode cX4_sumTrust 2 = .ok (.iload_n 3, 1) := by decide +kernel
theorem dX4_sumTrust_3 : decode cX4_sumTrust 3 = .ok (.bipush 6, 2) := by decide +kernel
theorem dX4_sumTrust_5 : decode cX4_sumTrust 5 = .ok (.if_icmp .ge 21, 3) := by decide +kernel
theorem dX4_sumTrust_8 : decode cX4_sumTrust 8 = .ok (.aload_n 0, 1) := by decide +kernel
theorem dX4_sumTrust_9 : decode cX4_sumTrust 9 = .ok (.getfield 9, 3) := by decide +kernel
theorem dX4_sumTrust_12 : decode cX4_sumTrust 12 = .ok (.iload_n 3, 1) := by decide +kernel
theorem dX4_sumTrust_13 : decode cX4_sumTrust 13 = .ok (.aload_n 1, 1) := by decide +kernel
theorem dX4_sumTrust_14 : decode cX4_sumTrust 14 = .ok (.getfield 49, 3) := by decide +kernel
theorem dX4_sumTrust_17 : decode cX4_sumTrust 17 = .ok (.iconst 0, 1) := by decide +kernel
theorem dX4_sumTrust_18 : decode cX4_sumTrust 18 = .ok (.iaload, 1) := by decide +kernel
theorem dX4_sumTrust_19 : decode cX4_sumTrust 19 = .ok (.iastore, 1) := by decide +kernel
theorem dX4_sumTrust_20 : decode cX4_sumTrust 20 = .ok (.iinc 3 1, 3) := by decide +kernel
theorem dX4_sumTrust_23 : decode cX4_sumTrust 23 = .ok (.goto (-21), 3) := by decide +kernel
theorem dX4_sumTrust_26 : decode cX4_sumTrust 26 = .ok (.iconst 0, 1) := by decide +kernel
theorem dX4_sumTrust_27 : decode cX4_sumTrust 27 = .ok (.istore_n 3, 1) := by decide +kernel
theorem dX4_sumTrust_28 : decode cX4_sumTrust 28 = .ok (.iload_n 3, 1) := by decide +kernel
theorem dX4_sumTrust_29 : decode cX4_sumTrust 29 = .ok (.aload_n 0, 1) := by decide +kernel
theorem dX4_sumTrust_30 : decode cX4_sumTrust 30 = .ok (.getfield 22, 3) := by decide +kernel
theorem dX4_sumTrust_33 : decode cX4_sumTrust 33 = .ok (.getfield 61, 3) := by decide +kernel
theorem dX4_sumTrust_36 : decode cX4_sumTrust 36 = .ok (.if_icmp .ge 37, 3) := by decide +kernel
theorem dX4_sumTrust_39 : decode cX4_sumTrust 39 = .ok (.aload_n 0, 1) := by decide +kernel
theorem dX4_sumTrust_40 : decode cX4_sumTrust 40 = .ok (.getfield 9, 3) := by decide +kernel
theorem dX4_sumTrust_43 : decode cX4_sumTrust 43 = .ok (.aload_n 0, 1) := by decide +kernel
theorem dX4_sumTrust_44 : decode cX4_sumTrust 44 = .ok (.getfield 22, 3) := by decide +kernel
theorem dX4_sumTrust_47 : decode cX4_sumTrust 47 = .ok (.getfield 65, 3) := by decide +kernel
theorem dX4_sumTrust_50 : decode cX4_sumTrust 50 = .ok (.iload_n 3, 1) := by decide +kernel
theorem dX4_sumTrust_51 : decode cX4_sumTrust 51 = .ok (.iaload, 1) := by decide +kernel
theorem dX4_sumTrust_52 : decode cX4_sumTrust 52 = .ok (.dup2, 1) := by decide +kernel
theorem dX4_sumTrust_53 : decode cX4_sumTrust 53 = .ok (.iaload, 1) := by decide +kernel
theorem dX4_sumTrust_54 : decode cX4_sumTrust 54 = .ok (.aload_n 0, 1) := by decide +kernel
theorem dX4_sumTrust_55 : decode cX4_sumTrust 55 = .ok (.aload_n 1, 1) := by decide +kernel
theorem dX4_sumTrust_56 : decode cX4_sumTrust 56 = .ok (.aload_n 0, 1) := by decide +kernel
theorem dX4_sumTrust_57 : decode cX4_sumTrust 57 = .ok (.getfield 22, 3) := by decide +kernel
theorem dX4_sumTrust_60 : decode cX4_sumTrust 60 = .ok (.iload_n 3, 1) := by decide +kernel
theorem dX4_sumTrust_61 : decode cX4_sumTrust 61 = .ok (.iload_n 2, 1) := by decide +kernel
theorem dX4_sumTrust_62 : decode cX4_sumTrust 62 = .ok (.invokevirtual 68, 3) := by decide +kernel
theorem dX4_sumTrust_65 : decode cX4_sumTrust 65 = .ok (.iadd, 1) := by decide +kernel
theorem dX4_sumTrust_66 : decode cX4_sumTrust 66 = .ok (.iastore, 1) := by decide +kernel
theorem dX4_sumTrust_67 : decode cX4_sumTrust 67 = .ok (.iinc 3 1, 3) := by decide +kernel
theorem dX4_sumTrust_70 : decode cX4_sumTrust 70 = .ok (.goto (-42), 3) := by decide +kernel
theorem dX4_sumTrust_73 : decode cX4_sumTrust 73 = .ok (.return_, 1) := by decide +kernel
theorem dX4_trustIn_0 : decode cX4_trustIn 0 = .ok (.aload_n 0, 1) := by decide +kernel
theorem dX4_trustIn_1 : decode cX4_trustIn 1 = .ok (.aload_n 1, 1) := by decide +kernel
theorem dX4_trustIn_2 : decode cX4_trustIn 2 = .ok (.iload_n 3, 1) := by decide +kernel
theorem dX4_trustIn_3 : decode cX4_trustIn 3 = .ok (.invokevirtual 72, 3) := by decide +kernel
theorem dX4_trustIn_6 : decode cX4_trustIn 6 = .ok (.aload_n 0, 1) := by decide +kernel
theorem dX4_trustIn_7 : decode cX4_trustIn 7 = .ok (.getfield 9, 3) := by decide +kernel
theorem dX4_trustIn_10 : decode cX4_trustIn 10 = .ok (.iload_n 2, 1) := by decide +kernel
theorem dX4_trustIn_11 : decode cX4_trustIn 11 = .ok (.iaload, 1) := by decide +kernel
theorem dX4_trustIn_12 : decode cX4_trustIn 12 = .ok (.invokestatic 76, 3) := by decide +kernel
theorem dX4_trustIn_15 : decode cX4_trustIn 15 = .ok (.ireturn, 1) := by decide +kernel
theorem dX4_bounded_0 : decode cX4_bounded 0 = .ok (.iconst 0, 1) := by decide +kernel
theorem dX4_bounded_1 : decode cX4_bounded 1 = .ok (.bipush 100, 2) := by decide +kernel
theorem dX4_bounded_3 : decode cX4_bounded 3 = .ok (.iload_n 0, 1) := by decide +kernel
theorem dX4_bounded_4 : decode cX4_bounded 4 = .ok (.invokestatic 79, 3) := by decide +kernel
theorem dX4_bounded_7 : decode cX4_bounded 7 = .ok (.invokestatic 55, 3) := by decide +kernel
theorem dX4_bounded_10 : decode cX4_bounded 10 = .ok (.ireturn, 1) := by decide +kernel
theorem dX4_gather_0 : decode cX4_gather 0 = .ok (.iconst 0, 1) := by decide +kernel
theorem dX4_gather_1 : decode cX4_gather 1 = .ok (.istore_n 3, 1) := by decide +kernel
theorem dX4_gather_2 : decode cX4_gather 2 = .ok (.iload_n 3, 1) := by decide +kernel
theorem dX4_gather_3 : decode cX4_gather 3 = .ok (.bipush 10, 2) := by decide +kernel
theorem dX4_gather_5 : decode cX4_gather 5 = .ok (.if_icmp .ge 16, 3) := by decide +kernel
theorem dX4_gather_8 : decode cX4_gather 8 = .ok (.aload_n 0, 1) := by decide +kernel
theorem dX4_gather_9 : decode cX4_gather 9 = .ok (.getfield 15, 3) := by decide +kernel
theorem dX4_gather_12 : decode cX4_gather 12 = .ok (.iload_n 3, 1) := by decide +kernel
theorem dX4_gather_13 : decode cX4_gather 13 = .ok (.iconst 0, 1) := by decide +kernel
theorem dX4_gather_14 : decode cX4_gather 14 = .ok (.iastore, 1) := by decide +kernel
theorem dX4_gather_15 : decode cX4_gather 15 = .ok (.iinc 3 1, 3) := by decide +kernel
theorem dX4_gather_18 : decode cX4_gather 18 = .ok (.goto (-16), 3) := by decide +kernel
theorem dX4_gather_21 : decode cX4_gather 21 = .ok (.iconst 0, 1) := by decide +kernel
theorem dX4_gather_22 : decode cX4_gather 22 = .ok (.istore_n 3, 1) := by decide +kernel
theorem dX4_gather_23 : decode cX4_gather 23 = .ok (.iload_n 3, 1) := by decide +kernel
theorem dX4_gather_24 : decode cX4_gather 24 = .ok (.aload_n 0, 1) := by decide +kernel
theorem dX4_gather_25 : decode cX4_gather 25 = .ok (.getfield 22, 3) := by decide +kernel
theorem dX4_gather_28 : decode cX4_gather 28 = .ok (.getfield 61, 3) := by decide +kernel
theorem dX4_gather_31 : decode cX4_gather 31 = .ok (.if_icmp .ge 62, 3) := by decide +kernel
theorem dX4_gather_34 : decode cX4_gather 34 = .ok (.aload_n 0, 1) := by decide +kernel
theorem dX4_gather_35 : decode cX4_gather 35 = .ok (.getfield 22, 3) := by decide +kernel
theorem dX4_gather_38 : decode cX4_gather 38 = .ok (.getfield 32, 3) := by decide +kernel
theorem dX4_gather_41 : decode cX4_gather 41 = .ok (.iload_n 3, 1) := by decide +kernel
theorem dX4_gather_42 : decode cX4_gather 42 = .ok (.iaload, 1) := by decide +kernel
theorem dX4_gather_43 : decode cX4_gather 43 = .ok (.iload_n 1, 1) := by decide +kernel
theorem dX4_gather_44 : decode cX4_gather 44 = .ok (.if_icmp .ne 43, 3) := by decide +kernel
theorem dX4_gather_47 : decode cX4_gather 47 = .ok (.aload_n 0, 1) := by decide +kernel
theorem dX4_gather_48 : decode cX4_gather 48 = .ok (.getfield 22, 3) := by decide +kernel
theorem dX4_gather_51 : decode cX4_gather 51 = .ok (.iload_n 3, 1) := by decide +kernel
theorem dX4_gather_52 : decode cX4_gather 52 = .ok (.invokevirtual 26, 3) := by decide +kernel
theorem dX4_gather_55 : decode cX4_gather 55 = .ok (.iload_n 2, 1) := by decide +kernel
theorem dX4_gather_56 : decode cX4_gather 56 = .ok (.if_icmp .gt 31, 3) := by decide +kernel
theorem dX4_gather_59 : decode cX4_gather 59 = .ok (.aload_n 0, 1) := by decide +kernel
theorem dX4_gather_60 : decode cX4_gather 60 = .ok (.getfield 15, 3) := by decide +kernel
theorem dX4_gather_63 : decode cX4_gather 63 = .ok (.aload_n 0, 1) := by decide +kernel
theorem dX4_gather_64 : decode cX4_gather 64 = .ok (.getfield 22, 3) := by decide +kernel
theorem dX4_gather_67 : decode cX4_gather 67 = .ok (.getfield 46, 3) := by decide +kernel
theorem dX4_gather_70 : decode cX4_gather 70 = .ok (.iload_n 3, 1) := by decide +kernel
theorem dX4_gather_71 : decode cX4_gather 71 = .ok (.iaload, 1) := by decide +kernel
theorem dX4_gather_72 : decode cX4_gather 72 = .ok (.dup2, 1) := by decide +kernel
theorem dX4_gather_73 : decode cX4_gather 73 = .ok (.iaload, 1) := by decide +kernel
theorem dX4_gather_74 : decode cX4_gather 74 = .ok (.iconst 1, 1) := by decide +kernel
theorem dX4_gather_75 : decode cX4_gather 75 = .ok (.aload_n 0, 1) := by decide +kernel
theorem dX4_gather_76 : decode cX4_gather 76 = .ok (.getfield 22, 3) := by decide +kernel
theorem dX4_gather_79 : decode cX4_gather 79 = .ok (.getfield 65, 3) := by decide +kernel
theorem dX4_gather_82 : decode cX4_gather 82 = .ok (.iload_n 3, 1) := by decide +kernel
theorem dX4_gather_83 : decode cX4_gather 83 = .ok (.iaload, 1) := by decide +kernel
theorem dX4_gather_84 : decode cX4_gather 84 = .ok (.ishl, 1) := by decide +kernel
theorem dX4_gather_85 : decode cX4_gather 85 = .ok (.ior, 1) := by decide +kernel
theorem dX4_gather_86 : decode cX4_gather 86 = .ok (.iastore, 1) := by decide +kernel
theorem dX4_gather_87 : decode cX4_gather 87 = .ok (.iinc 3 1, 3) := by decide +kernel
theorem dX4_gather_90 : decode cX4_gather 90 = .ok (.goto (-67), 3) := by decide +kernel
theorem dX4_gather_93 : decode cX4_gather 93 = .ok (.return_, 1) := by decide +kernel
theorem dX4_weigh_0 : decode cX4_weigh 0 = .ok (.aload_n 0, 1) := by decide +kernel
theorem dX4_weigh_1 : decode cX4_weigh 1 = .ok (.getfield 15, 3) := by decide +kernel
theorem dX4_weigh_4 : decode cX4_weigh 4 = .ok (.iload_n 2, 1) := by decide +kernel
theorem dX4_weigh_5 : decode cX4_weigh 5 = .ok (.iaload, 1) := by decide +kernel
theorem dX4_weigh_6 : decode cX4_weigh 6 = .ok (.ifCond .ne 5, 3) := by decide +kernel
theorem dX4_weigh_9 : decode cX4_weigh 9 = .ok (.iconst 0, 1) := by decide +kernel
theorem dX4_weigh_10 : decode cX4_weigh 10 = .ok (.ireturn, 1) := by decide +kernel
theorem dX4_weigh_11 : decode cX4_weigh 11 = .ok (.aload_n 1, 1) := by decide +kernel
theorem dX4_weigh_12 : decode cX4_weigh 12 = .ok (.getfield 49, 3) := by decide +kernel
theorem dX4_weigh_15 : decode cX4_weigh 15 = .ok (.iconst 4, 1) := by decide +kernel
theorem dX4_weigh_16 : decode cX4_weigh 16 = .ok (.iaload, 1) := by decide +kernel
theorem dX4_weigh_17 : decode cX4_weigh 17 = .ok (.aload_n 0, 1) := by decide +kernel
theorem dX4_weigh_18 : decode cX4_weigh 18 = .ok (.getfield 15, 3) := by decide +kernel
theorem dX4_weigh_21 : decode cX4_weigh 21 = .ok (.iload_n 2, 1) := by decide +kernel
theorem dX4_weigh_22 : decode cX4_weigh 22 = .ok (.iaload, 1) := by decide +kernel
theorem dX4_weigh_23 : decode cX4_weigh 23 = .ok (.invokestatic 82, 3) := by decide +kernel
theorem dX4_weigh_26 : decode cX4_weigh 26 = .ok (.iconst 1, 1) := by decide +kernel
theorem dX4_weigh_27 : decode cX4_weigh 27 = .ok (.isub, 1) := by decide +kernel
theorem dX4_weigh_28 : decode cX4_weigh 28 = .ok (.imul, 1) := by decide +kernel
theorem dX4_weigh_29 : decode cX4_weigh 29 = .ok (.istore_n 3, 1) := by decide +kernel
theorem dX4_weigh_30 : decode cX4_weigh 30 = .ok (.iconst 0, 1) := by decide +kernel
theorem dX4_weigh_31 : decode cX4_weigh 31 = .ok (.istore 4, 2) := by decide +kernel
theorem dX4_weigh_33 : decode cX4_weigh 33 = .ok (.iload 4, 2) := by decide +kernel
theorem dX4_weigh_35 : decode cX4_weigh 35 = .ok (.bipush 6, 2) := by decide +kernel
theorem dX4_weigh_37 : decode cX4_weigh 37 = .ok (.if_icmp .ge 36, 3) := by decide +kernel
theorem dX4_weigh_40 : decode cX4_weigh 40 = .ok (.aload_n 0, 1) := by decide +kernel
theorem dX4_weigh_41 : decode cX4_weigh 41 = .ok (.getfield 15, 3) := by decide +kernel
theorem dX4_weigh_44 : decode cX4_weigh 44 = .ok (.iload_n 2, 1) := by decide +kernel
theorem dX4_weigh_45 : decode cX4_weigh 45 = .ok (.iaload, 1) := by decide +kernel
theorem dX4_weigh_46 : decode cX4_weigh 46 = .ok (.iload 4, 2) := by decide +kernel
theorem dX4_weigh_48 : decode cX4_weigh 48 = .ok (.invokestatic 87, 3) := by decide +kernel
theorem dX4_weigh_51 : decode cX4_weigh 51 = .ok (.ifCond .eq 16, 3) := by decide +kernel
theorem dX4_weigh_54 : decode cX4_weigh 54 = .ok (.iload_n 3, 1) := by decide +kernel
theorem dX4_weigh_55 : decode cX4_weigh 55 = .ok (.aload_n 0, 1) := by decide +kernel
theorem dX4_weigh_56 : decode cX4_weigh 56 = .ok (.getfield 9, 3) := by decide +kernel
theorem dX4_weigh_59 : decode cX4_weigh 59 = .ok (.iload 4, 2) := by decide +kernel
theorem dX4_weigh_61 : decode cX4_weigh 61 = .ok (.iaload, 1) := by decide +kernel
theorem dX4_weigh_62 : decode cX4_weigh 62 = .ok (.invokestatic 76, 3) := by decide +kernel
theorem dX4_weigh_65 : decode cX4_weigh 65 = .ok (.iadd, 1) := by decide +kernel
theorem dX4_weigh_66 : decode cX4_weigh 66 = .ok (.istore_n 3, 1) := by decide +kernel
theorem dX4_weigh_67 : decode cX4_weigh 67 = .ok (.iinc 4 1, 3) := by decide +kernel
theorem dX4_weigh_70 : decode cX4_weigh 70 = .ok (.goto (-37), 3) := by decide +kernel
theorem dX4_weigh_73 : decode cX4_weigh 73 = .ok (.iload_n 3, 1) := by decide +kernel
theorem dX4_weigh_74 : decode cX4_weigh 74 = .ok (.ireturn, 1) := by decide +kernel
theorem dX4_heaviest_0 : decode cX4_heaviest 0 = .ok (.iconst (-1), 1) := by decide +kernel
theorem dX4_heaviest_1 : decode cX4_heaviest 1 = .ok (.istore_n 2, 1) := by decide +kernel
theorem dX4_heaviest_2 : decode cX4_heaviest 2 = .ok (.iconst (-1), 1) := by decide +kernel
theorem dX4_heaviest_3 : decode cX4_heaviest 3 = .ok (.istore_n 3, 1) := by decide +kernel
theorem dX4_heaviest_4 : decode cX4_heaviest 4 = .ok (.iconst 0, 1) := by decide +kernel
theorem dX4_heaviest_5 : decode cX4_heaviest 5 = .ok (.istore 4, 2) := by decide +kernel
theorem dX4_heaviest_7 : decode cX4_heaviest 7 = .ok (.iload 4, 2) := by decide +kernel
theorem dX4_heaviest_9 : decode cX4_heaviest 9 = .ok (.bipush 10, 2) := by decide +kernel
theorem dX4_heaviest_11 : decode cX4_heaviest 11 = .ok (.if_icmp .ge 40, 3) := by decide +kernel
theorem dX4_heaviest_14 : decode cX4_heaviest 14 = .ok (.aload_n 0, 1) := by decide +kernel
theorem dX4_heaviest_15 : decode cX4_heaviest 15 = .ok (.getfield 15, 3) := by decide +kernel
theorem dX4_heaviest_18 : decode cX4_heaviest 18 = .ok (.iload 4, 2) := by decide +kernel
theorem dX4_heaviest_20 : decode cX4_heaviest 20 = .ok (.iaload, 1) := by decide +kernel
theorem dX4_heaviest_21 : decode cX4_heaviest 21 = .ok (.ifCond .eq 24, 3) := by decide +kernel
theorem dX4_heaviest_24 : decode cX4_heaviest 24 = .ok (.aload_n 0, 1) := by decide +kernel
theorem dX4_heaviest_25 : decode cX4_heaviest 25 = .ok (.aload_n 1, 1) := by decide +kernel
theorem dX4_heaviest_26 : decode cX4_heaviest 26 = .ok (.iload 4, 2) := by decide +kernel
theorem dX4_heaviest_28 : decode cX4_heaviest 28 = .ok (.invokevirtual 90, 3) := by decide +kernel
theorem dX4_heaviest_31 : decode cX4_heaviest 31 = .ok (.istore 5, 2) := by decide +kernel
theorem dX4_heaviest_33 : decode cX4_heaviest 33 = .ok (.iload 5, 2) := by decide +kernel
theorem dX4_heaviest_35 : decode cX4_heaviest 35 = .ok (.iload_n 3, 1) := by decide +kernel
theorem dX4_heaviest_36 : decode cX4_heaviest 36 = .ok (.if_icmp .le 9, 3) := by decide +kernel
theorem dX4_heaviest_39 : decode cX4_heaviest 39 = .ok (.iload 5, 2) := by decide +kernel
theorem dX4_heaviest_41 : decode cX4_heaviest 41 = .ok (.istore_n 3, 1) := by decide +kernel
theorem dX4_heaviest_42 : decode cX4_heaviest 42 = .ok (.iload 4, 2) := by decide +kernel
theorem dX4_heaviest_44 : decode cX4_heaviest 44 = .ok (.istore_n 2, 1) := by decide +kernel
theorem dX4_heaviest_45 : decode cX4_heaviest 45 = .ok (.iinc 4 1, 3) := by decide +kernel
theorem dX4_heaviest_48 : decode cX4_heaviest 48 = .ok (.goto (-41), 3) := by decide +kernel
theorem dX4_heaviest_51 : decode cX4_heaviest 51 = .ok (.iload_n 3, 1) := by decide +kernel
theorem dX4_heaviest_52 : decode cX4_heaviest 52 = .ok (.aload_n 1, 1) := by decide +kernel
theorem dX4_heaviest_53 : decode cX4_heaviest 53 = .ok (.getfield 49, 3) := by decide +kernel
theorem dX4_heaviest_56 : decode cX4_heaviest 56 = .ok (.iconst 5, 1) := by decide +kernel
theorem dX4_heaviest_57 : decode cX4_heaviest 57 = .ok (.iaload, 1) := by decide +kernel
theorem dX4_heaviest_58 : decode cX4_heaviest 58 = .ok (.if_icmp .lt 7, 3) := by decide +kernel
theorem dX4_heaviest_61 : decode cX4_heaviest 61 = .ok (.iload_n 2, 1) := by decide +kernel
theorem dX4_heaviest_62 : decode cX4_heaviest 62 = .ok (.goto 4, 3) := by decide +kernel
theorem dX4_heaviest_65 : decode cX4_heaviest 65 = .ok (.iconst (-1), 1) := by decide +kernel
theorem dX4_heaviest_66 : decode cX4_heaviest 66 = .ok (.ireturn, 1) := by decide +kernel
theorem dX4_conclude_0 : decode cX4_conclude 0 = .ok (.aload_n 0, 1) := by decide +kernel
theorem dX4_conclude_1 : decode cX4_conclude 1 = .ok (.aload_n 1, 1) := by decide +kernel
theorem dX4_conclude_2 : decode cX4_conclude 2 = .ok (.iload_n 3, 1) := by decide +kernel
theorem dX4_conclude_3 : decode cX4_conclude 3 = .ok (.invokevirtual 72, 3) := by decide +kernel
theorem dX4_conclude_6 : decode cX4_conclude 6 = .ok (.aload_n 0, 1) := by decide +kernel
theorem dX4_conclude_7 : decode cX4_conclude 7 = .ok (.aload_n 1, 1) := by decide +kernel
theorem dX4_conclude_8 : decode cX4_conclude 8 = .ok (.iload_n 2, 1) := by decide +kernel
theorem dX4_conclude_9 : decode cX4_conclude 9 = .ok (.iload_n 3, 1) := by decide +kernel
theorem dX4_conclude_10 : decode cX4_conclude 10 = .ok (.invokevirtual 94, 3) := by decide +kernel
theorem dX4_conclude_13 : decode cX4_conclude 13 = .ok (.ireturn, 1) := by decide +kernel
theorem dX4_judge_0 : decode cX4_judge 0 = .ok (.aload_n 1, 1) := by decide +kernel
theorem dX4_judge_1 : decode cX4_judge 1 = .ok (.iload_n 2, 1) := by decide +kernel
theorem dX4_judge_2 : decode cX4_judge 2 = .ok (.iload_n 3, 1) := by decide +kernel
theorem dX4_judge_3 : decode cX4_judge 3 = .ok (.invokevirtual 35, 3) := by decide +kernel
theorem dX4_judge_6 : decode cX4_judge 6 = .ok (.ifCond .eq 12, 3) := by decide +kernel
theorem dX4_judge_9 : decode cX4_judge 9 = .ok (.aload_n 0, 1) := by decide +kernel
theorem dX4_judge_10 : decode cX4_judge 10 = .ok (.getfield 18, 3) := by decide +kernel
theorem dX4_judge_13 : decode cX4_judge 13 = .ok (.iload_n 2, 1) := by decide +kernel
theorem dX4_judge_14 : decode cX4_judge 14 = .ok (.invokevirtual 41, 3) := by decide +kernel
theorem dX4_judge_17 : decode cX4_judge 17 = .ok (.ireturn, 1) := by decide +kernel
theorem dX4_judge_18 : decode cX4_judge 18 = .ok (.aload_n 0, 1) := by decide +kernel
theorem dX4_judge_19 : decode cX4_judge 19 = .ok (.iload_n 2, 1) := by decide +kernel
theorem dX4_judge_20 : decode cX4_judge 20 = .ok (.iload_n 3, 1) := by decide +kernel
theorem dX4_judge_21 : decode cX4_judge 21 = .ok (.invokevirtual 98, 3) := by decide +kernel
theorem dX4_judge_24 : decode cX4_judge 24 = .ok (.aload_n 0, 1) := by decide +kernel
theorem dX4_judge_25 : decode cX4_judge 25 = .ok (.aload_n 1, 1) := by decide +kernel
theorem dX4_judge_26 : decode cX4_judge 26 = .ok (.invokevirtual 102, 3) := by decide +kernel
theorem dX4_judge_29 : decode cX4_judge 29 = .ok (.ireturn, 1) := by decide +kernel
theorem dX4_heldLines_0 : decode cX4_heldLines 0 = .ok (.aload_n 0, 1) := by decide +kernel
theorem dX4_heldLines_1 : decode cX4_heldLines 1 = .ok (.aload_n 1, 1) := by decide +kernel
theorem dX4_heldLines_2 : decode cX4_heldLines 2 = .ok (.iload_n 3, 1) := by decide +kernel
theorem dX4_heldLines_3 : decode cX4_heldLines 3 = .ok (.invokevirtual 72, 3) := by decide +kernel
theorem dX4_heldLines_6 : decode cX4_heldLines 6 = .ok (.iconst 0, 1) := by decide +kernel
theorem dX4_heldLines_7 : decode cX4_heldLines 7 = .ok (.istore 4, 2) := by decide +kernel
theorem dX4_heldLines_9 : decode cX4_heldLines 9 = .ok (.iconst 0, 1) := by decide +kernel
theorem dX4_heldLines_10 : decode cX4_heldLines 10 = .ok (.istore 5, 2) := by decide +kernel
theorem dX4_heldLines_12 : decode cX4_heldLines 12 = .ok (.iload 5, 2) := by decide +kernel
theorem dX4_heldLines_14 : decode cX4_heldLines 14 = .ok (.aload_n 2, 1) := by decide +kernel
theorem dX4_heldLines_15 : decode cX4_heldLines 15 = .ok (.getfield 106, 3) := by decide +kernel
theorem dX4_heldLines_18 : decode cX4_heldLines 18 = .ok (.if_icmp .ge 41, 3) := by decide +kernel
theorem dX4_heldLines_21 : decode cX4_heldLines 21 = .ok (.aload_n 0, 1) := by decide +kernel
theorem dX4_heldLines_22 : decode cX4_heldLines 22 = .ok (.aload_n 1, 1) := by decide +kernel
theorem dX4_heldLines_23 : decode cX4_heldLines 23 = .ok (.aload_n 2, 1) := by decide +kernel
theorem dX4_heldLines_24 : decode cX4_heldLines 24 = .ok (.getfield 109, 3) := by decide +kernel
theorem dX4_heldLines_27 : decode cX4_heldLines 27 = .ok (.iload 5, 2) := by decide +kernel
theorem dX4_heldLines_29 : decode cX4_heldLines 29 = .ok (.iaload, 1) := by decide +kernel
theorem dX4_heldLines_30 : decode cX4_heldLines 30 = .ok (.iload_n 3, 1) := by decide +kernel
theorem dX4_heldLines_31 : decode cX4_heldLines 31 = .ok (.invokevirtual 94, 3) := by decide +kernel
theorem dX4_heldLines_34 : decode cX4_heldLines 34 = .ok (.aload_n 2, 1) := by decide +kernel
theorem dX4_heldLines_35 : decode cX4_heldLines 35 = .ok (.getfield 110, 3) := by decide +kernel
theorem dX4_heldLines_38 : decode cX4_heldLines 38 = .ok (.iload 5, 2) := by decide +kernel
theorem dX4_heldLines_40 : decode cX4_heldLines 40 = .ok (.iaload, 1) := by decide +kernel
theorem dX4_heldLines_41 : decode cX4_heldLines 41 = .ok (.if_icmp .ne 12, 3) := by decide +kernel
theorem dX4_heldLines_44 : decode cX4_heldLines 44 = .ok (.iload 4, 2) := by decide +kernel
theorem dX4_heldLines_46 : decode cX4_heldLines 46 = .ok (.iconst 1, 1) := by decide +kernel
theorem dX4_heldLines_47 : decode cX4_heldLines 47 = .ok (.iload 5, 2) := by decide +kernel
theorem dX4_heldLines_49 : decode cX4_heldLines 49 = .ok (.ishl, 1) := by decide +kernel
theorem dX4_heldLines_50 : decode cX4_heldLines 50 = .ok (.ior, 1) := by decide +kernel
theorem dX4_heldLines_51 : decode cX4_heldLines 51 = .ok (.istore 4, 2) := by decide +kernel
theorem dX4_heldLines_53 : decode cX4_heldLines 53 = .ok (.iinc 5 1, 3) := by decide +kernel
theorem dX4_heldLines_56 : decode cX4_heldLines 56 = .ok (.goto (-44), 3) := by decide +kernel
theorem dX4_heldLines_59 : decode cX4_heldLines 59 = .ok (.iload 4, 2) := by decide +kernel
theorem dX4_heldLines_61 : decode cX4_heldLines 61 = .ok (.ireturn, 1) := by decide +kernel
theorem dX5_init_0 : decode cX5_init 0 = .ok (.aload_n 0, 1) := by decide +kernel
theorem dX5_init_1 : decode cX5_init 1 = .ok (.invokespecial 3, 3) := by decide +kernel
theorem dX5_init_4 : decode cX5_init 4 = .ok (.aload_n 0, 1) := by decide +kernel
theorem dX5_init_5 : decode cX5_init 5 = .ok (.bipush 12, 2) := by decide +kernel
theorem dX5_init_7 : decode cX5_init 7 = .ok (.newarray .int, 2) := by decide +kernel
theorem dX5_init_9 : decode cX5_init 9 = .ok (.putfield 9, 3) := by decide +kernel
theorem dX5_init_12 : decode cX5_init 12 = .ok (.aload_n 0, 1) := by decide +kernel
theorem dX5_init_13 : decode cX5_init 13 = .ok (.bipush 12, 2) := by decide +kernel
theorem dX5_init_15 : decode cX5_init 15 = .ok (.newarray .int, 2) := by decide +kernel
theorem dX5_init_17 : decode cX5_init 17 = .ok (.putfield 15, 3) := by decide +kernel
theorem dX5_init_20 : decode cX5_init 20 = .ok (.aload_n 0, 1) := by decide +kernel
theorem dX5_init_21 : decode cX5_init 21 = .ok (.bipush 12, 2) := by decide +kernel
theorem dX5_init_23 : decode cX5_init 23 = .ok (.newarray .int, 2) := by decide +kernel
theorem dX5_init_25 : decode cX5_init 25 = .ok (.putfield 18, 3) := by decide +kernel
theorem dX5_init_28 : decode cX5_init 28 = .ok (.aload_n 0, 1) := by decide +kernel
theorem dX5_init_29 : decode cX5_init 29 = .ok (.iconst 0, 1) := by decide +kernel
theorem dX5_init_30 : decode cX5_init 30 = .ok (.putfield 21, 3) := by decide +kernel
theorem dX5_init_33 : decode cX5_init 33 = .ok (.return_, 1) := by decide +kernel
theorem dX5_addQuestion_0 : decode cX5_addQuestion 0 = .ok (.aload_n 0, 1) := by decide +kernel
theorem dX5_addQuestion_1 : decode cX5_addQuestion 1 = .ok (.iload_n 1, 1) := by decide +kernel
theorem dX5_addQuestion_2 : decode cX5_addQuestion 2 = .ok (.iload_n 2, 1) := by decide +kernel
theorem dX5_addQuestion_3 : decode cX5_addQuestion 3 = .ok (.iconst (-1), 1) := by decide +kernel
theorem dX5_addQuestion_4 : decode cX5_addQuestion 4 = .ok (.invokevirtual 25, 3) := by decide +kernel
theorem dX5_addQuestion_7 : decode cX5_addQuestion 7 = .ok (.ireturn, 1) := by decide +kernel
theorem dX5_addPay_0 : decode cX5_addPay 0 = .ok (.aload_n 0, 1) := by decide +kernel
theorem dX5_addPay_1 : decode cX5_addPay 1 = .ok (.iload_n 1, 1) := by decide +kernel
theorem dX5_addPay_2 : decode cX5_addPay 2 = .ok (.iconst 0, 1) := by decide +kernel
theorem dX5_addPay_3 : decode cX5_addPay 3 = .ok (.iload_n 2, 1) := by decide +kernel
theorem dX5_addPay_4 : decode cX5_addPay 4 = .ok (.invokevirtual 25, 3) := by decide +kernel
theorem dX5_addPay_7 : decode cX5_addPay 7 = .ok (.ireturn, 1) := by decide +kernel
theorem dX5_add_0 : decode cX5_add 0 = .ok (.aload_n 0, 1) := by decide +kernel
theorem dX5_add_1 : decode cX5_add 1 = .ok (.getfield 21, 3) := by decide +kernel
theorem dX5_add_4 : decode cX5_add 4 = .ok (.bipush 12, 2) := by decide +kernel
theorem dX5_add_6 : decode cX5_add 6 = .ok (.if_icmp .lt 6, 3) := by decide +kernel
theorem dX5_add_9 : decode cX5_add 9 = .ok (.bipush (-5), 2) := by decide +kernel
theorem dX5_add_11 : decode cX5_add 11 = .ok (.ireturn, 1) := by decide +kernel
theorem dX5_add_12 : decode cX5_add 12 = .ok (.aload_n 0, 1) := by decide +kernel
theorem dX5_add_13 : decode cX5_add 13 = .ok (.getfield 9, 3) := by decide +kernel
theorem dX5_add_16 : decode cX5_add 16 = .ok (.aload_n 0, 1) := by decide +kernel
theorem dX5_add_17 : decode cX5_add 17 = .ok (.getfield 21, 3) := by decide +kernel
theorem dX5_add_20 : decode cX5_add 20 = .ok (.iload_n 1, 1) := by decide +kernel
theorem dX5_add_21 : decode cX5_add 21 = .ok (.iastore, 1) := by decide +kernel
theorem dX5_add_22 : decode cX5_add 22 = .ok (.aload_n 0, 1) := by decide +kernel
theorem dX5_add_23 : decode cX5_add 23 = .ok (.getfield 15, 3) := by decide +kernel
theorem dX5_add_26 : decode cX5_add 26 = .ok (.aload_n 0, 1) := by decide +kernel
theorem dX5_add_27 : decode cX5_add 27 = .ok (.getfield 21, 3) := by decide +kernel
theorem dX5_add_30 : decode cX5_add 30 = .ok (.iload_n 2, 1) := by decide +kernel
theorem dX5_add_31 : decode cX5_add 31 = .ok (.iastore, 1) := by decide +kernel
theorem dX5_add_32 : decode cX5_add 32 = .ok (.aload_n 0, 1) := by decide +kernel
theorem dX5_add_33 : decode cX5_add 33 = .ok (.getfield 18, 3) := by decide +kernel
theorem dX5_add_36 : decode cX5_add 36 = .ok (.aload_n 0, 1) := by decide +kernel
theorem dX5_add_37 : decode cX5_add 37 = .ok (.getfield 21, 3) := by decide +kernel
theorem dX5_add_40 : decode cX5_add 40 = .ok (.iload_n 3, 1) := by decide +kernel
theorem dX5_add_41 : decode cX5_add 41 = .ok (.iastore, 1) := by decide +kernel
end
section
theorem dX5_add_42 : decode cX5_add 42 = .ok (.aload_n 0, 1) := by decide +kernel
theorem dX5_add_43 : decode cX5_add 43 = .ok (.dup, 1) := by decide +kernel
theorem dX5_add_44 : decode cX5_add 44 = .ok (.getfield 21, 3) := by decide +kernel
theorem dX5_add_47 : decode cX5_add 47 = .ok (.iconst 1, 1) := by decide +kernel
theorem dX5_add_48 : decode cX5_add 48 = .ok (.iadd, 1) := by decide +kernel
theorem dX5_add_49 : decode cX5_add 49 = .ok (.putfield 21, 3) := by decide +kernel
theorem dX5_add_52 : decode cX5_add 52 = .ok (.aload_n 0, 1) := by decide +kernel
theorem dX5_add_53 : decode cX5_add 53 = .ok (.getfield 21, 3) := by decide +kernel
theorem dX5_add_56 : decode cX5_add 56 = .ok (.ireturn, 1) := by decide +kernel
theorem dX5_fit_0 : decode cX5_fit 0 = .ok (.iconst 0, 1) := by decide +kernel
theorem dX5_fit_1 : decode cX5_fit 1 = .ok (.istore_n 3, 1) := by decide +kernel
theorem dX5_fit_2 : decode cX5_fit 2 = .ok (.iload_n 3, 1) := by decide +kernel
theorem dX5_fit_3 : decode cX5_fit 3 = .ok (.aload_n 0, 1) := by decide +kernel
theorem dX5_fit_4 : decode cX5_fit 4 = .ok (.getfield 21, 3) := by decide +kernel
theorem dX5_fit_7 : decode cX5_fit 7 = .ok (.if_icmp .ge 84, 3) := by decide +kernel
theorem dX5_fit_10 : decode cX5_fit 10 = .ok (.aload_n 0, 1) := by decide +kernel
theorem dX5_fit_11 : decode cX5_fit 11 = .ok (.getfield 18, 3) := by decide +kernel
theorem dX5_fit_14 : decode cX5_fit 14 = .ok (.iload_n 3, 1) := by decide +kernel
theorem dX5_fit_15 : decode cX5_fit 15 = .ok (.iaload, 1) := by decide +kernel
theorem dX5_fit_16 : decode cX5_fit 16 = .ok (.iconst (-1), 1) := by decide +kernel
theorem dX5_fit_17 : decode cX5_fit 17 = .ok (.if_icmp .ne 32, 3) := by decide +kernel
theorem dX5_fit_20 : decode cX5_fit 20 = .ok (.aload_n 2, 1) := by decide +kernel
theorem dX5_fit_21 : decode cX5_fit 21 = .ok (.aload_n 1, 1) := by decide +kernel
theorem dX5_fit_22 : decode cX5_fit 22 = .ok (.aload_n 0, 1) := by decide +kernel
theorem dX5_fit_23 : decode cX5_fit 23 = .ok (.getfield 15, 3) := by decide +kernel
theorem dX5_fit_26 : decode cX5_fit 26 = .ok (.iload_n 3, 1) := by decide +kernel
theorem dX5_fit_27 : decode cX5_fit 27 = .ok (.iaload, 1) := by decide +kernel
theorem dX5_fit_28 : decode cX5_fit 28 = .ok (.aload_n 0, 1) := by decide +kernel
theorem dX5_fit_29 : decode cX5_fit 29 = .ok (.getfield 9, 3) := by decide +kernel
theorem dX5_fit_32 : decode cX5_fit 32 = .ok (.iload_n 3, 1) := by decide +kernel
theorem dX5_fit_33 : decode cX5_fit 33 = .ok (.iaload, 1) := by decide +kernel
theorem dX5_fit_34 : decode cX5_fit 34 = .ok (.invokevirtual 29, 3) := by decide +kernel
theorem dX5_fit_37 : decode cX5_fit 37 = .ok (.iconst (-1), 1) := by decide +kernel
theorem dX5_fit_38 : decode cX5_fit 38 = .ok (.if_icmp .ne 7, 3) := by decide +kernel
theorem dX5_fit_41 : decode cX5_fit 41 = .ok (.iconst 1, 1) := by decide +kernel
theorem dX5_fit_42 : decode cX5_fit 42 = .ok (.goto 34, 3) := by decide +kernel
theorem dX5_fit_45 : decode cX5_fit 45 = .ok (.iconst 0, 1) := by decide +kernel
theorem dX5_fit_46 : decode cX5_fit 46 = .ok (.goto 30, 3) := by decide +kernel
theorem dX5_fit_49 : decode cX5_fit 49 = .ok (.aload_n 2, 1) := by decide +kernel
theorem dX5_fit_50 : decode cX5_fit 50 = .ok (.aload_n 1, 1) := by decide +kernel
theorem dX5_fit_51 : decode cX5_fit 51 = .ok (.aload_n 0, 1) := by decide +kernel
theorem dX5_fit_52 : decode cX5_fit 52 = .ok (.getfield 18, 3) := by decide +kernel
theorem dX5_fit_55 : decode cX5_fit 55 = .ok (.iload_n 3, 1) := by decide +kernel
theorem dX5_fit_56 : decode cX5_fit 56 = .ok (.iaload, 1) := by decide +kernel
theorem dX5_fit_57 : decode cX5_fit 57 = .ok (.aload_n 0, 1) := by decide +kernel
theorem dX5_fit_58 : decode cX5_fit 58 = .ok (.getfield 9, 3) := by decide +kernel
theorem dX5_fit_61 : decode cX5_fit 61 = .ok (.iload_n 3, 1) := by decide +kernel
theorem dX5_fit_62 : decode cX5_fit 62 = .ok (.iaload, 1) := by decide +kernel
theorem dX5_fit_63 : decode cX5_fit 63 = .ok (.invokevirtual 35, 3) := by decide +kernel
theorem dX5_fit_66 : decode cX5_fit 66 = .ok (.bipush 50, 2) := by decide +kernel
theorem dX5_fit_68 : decode cX5_fit 68 = .ok (.if_icmp .lt 7, 3) := by decide +kernel
theorem dX5_fit_71 : decode cX5_fit 71 = .ok (.iconst 1, 1) := by decide +kernel
theorem dX5_fit_72 : decode cX5_fit 72 = .ok (.goto 4, 3) := by decide +kernel
theorem dX5_fit_75 : decode cX5_fit 75 = .ok (.iconst 0, 1) := by decide +kernel
theorem dX5_fit_76 : decode cX5_fit 76 = .ok (.istore 4, 2) := by decide +kernel
theorem dX5_fit_78 : decode cX5_fit 78 = .ok (.iload 4, 2) := by decide +kernel
theorem dX5_fit_80 : decode cX5_fit 80 = .ok (.ifCond .ne 5, 3) := by decide +kernel
theorem dX5_fit_83 : decode cX5_fit 83 = .ok (.iconst 0, 1) := by decide +kernel
theorem dX5_fit_84 : decode cX5_fit 84 = .ok (.ireturn, 1) := by decide +kernel
theorem dX5_fit_85 : decode cX5_fit 85 = .ok (.iinc 3 1, 3) := by decide +kernel
theorem dX5_fit_88 : decode cX5_fit 88 = .ok (.goto (-86), 3) := by decide +kernel
theorem dX5_fit_91 : decode cX5_fit 91 = .ok (.iconst 1, 1) := by decide +kernel
theorem dX5_fit_92 : decode cX5_fit 92 = .ok (.ireturn, 1) := by decide +kernel
theorem dX6_init_0 : decode cX6_init 0 = .ok (.aload_n 0, 1) := by decide +kernel
theorem dX6_init_1 : decode cX6_init 1 = .ok (.invokespecial 3, 3) := by decide +kernel
theorem dX6_init_4 : decode cX6_init 4 = .ok (.aload_n 0, 1) := by decide +kernel
theorem dX6_init_5 : decode cX6_init 5 = .ok (.iconst 4, 1) := by decide +kernel
theorem dX6_init_6 : decode cX6_init 6 = .ok (.newarray .int, 2) := by decide +kernel
theorem dX6_init_8 : decode cX6_init 8 = .ok (.putfield 9, 3) := by decide +kernel
theorem dX6_init_11 : decode cX6_init 11 = .ok (.aload_n 0, 1) := by decide +kernel
theorem dX6_init_12 : decode cX6_init 12 = .ok (.iconst 4, 1) := by decide +kernel
theorem dX6_init_13 : decode cX6_init 13 = .ok (.newarray .int, 2) := by decide +kernel
theorem dX6_init_15 : decode cX6_init 15 = .ok (.putfield 15, 3) := by decide +kernel
theorem dX6_init_18 : decode cX6_init 18 = .ok (.aload_n 0, 1) := by decide +kernel
theorem dX6_init_19 : decode cX6_init 19 = .ok (.iconst 0, 1) := by decide +kernel
theorem dX6_init_20 : decode cX6_init 20 = .ok (.putfield 18, 3) := by decide +kernel
theorem dX6_init_23 : decode cX6_init 23 = .ok (.return_, 1) := by decide +kernel
theorem dX6_add_0 : decode cX6_add 0 = .ok (.aload_n 0, 1) := by decide +kernel
theorem dX6_add_1 : decode cX6_add 1 = .ok (.getfield 18, 3) := by decide +kernel
theorem dX6_add_4 : decode cX6_add 4 = .ok (.iconst 4, 1) := by decide +kernel
theorem dX6_add_5 : decode cX6_add 5 = .ok (.if_icmp .lt 6, 3) := by decide +kernel
theorem dX6_add_8 : decode cX6_add 8 = .ok (.bipush (-5), 2) := by decide +kernel
theorem dX6_add_10 : decode cX6_add 10 = .ok (.ireturn, 1) := by decide +kernel
theorem dX6_add_11 : decode cX6_add 11 = .ok (.aload_n 0, 1) := by decide +kernel
theorem dX6_add_12 : decode cX6_add 12 = .ok (.getfield 9, 3) := by decide +kernel
theorem dX6_add_15 : decode cX6_add 15 = .ok (.aload_n 0, 1) := by decide +kernel
theorem dX6_add_16 : decode cX6_add 16 = .ok (.getfield 18, 3) := by decide +kernel
theorem dX6_add_19 : decode cX6_add 19 = .ok (.iload_n 1, 1) := by decide +kernel
theorem dX6_add_20 : decode cX6_add 20 = .ok (.iastore, 1) := by decide +kernel
theorem dX6_add_21 : decode cX6_add 21 = .ok (.aload_n 0, 1) := by decide +kernel
theorem dX6_add_22 : decode cX6_add 22 = .ok (.getfield 15, 3) := by decide +kernel
theorem dX6_add_25 : decode cX6_add 25 = .ok (.aload_n 0, 1) := by decide +kernel
theorem dX6_add_26 : decode cX6_add 26 = .ok (.getfield 18, 3) := by decide +kernel
theorem dX6_add_29 : decode cX6_add 29 = .ok (.iload_n 2, 1) := by decide +kernel
theorem dX6_add_30 : decode cX6_add 30 = .ok (.iastore, 1) := by decide +kernel
theorem dX6_add_31 : decode cX6_add 31 = .ok (.aload_n 0, 1) := by decide +kernel
theorem dX6_add_32 : decode cX6_add 32 = .ok (.dup, 1) := by decide +kernel
theorem dX6_add_33 : decode cX6_add 33 = .ok (.getfield 18, 3) := by decide +kernel
theorem dX6_add_36 : decode cX6_add 36 = .ok (.iconst 1, 1) := by decide +kernel
theorem dX6_add_37 : decode cX6_add 37 = .ok (.iadd, 1) := by decide +kernel
theorem dX6_add_38 : decode cX6_add 38 = .ok (.putfield 18, 3) := by decide +kernel
theorem dX6_add_41 : decode cX6_add 41 = .ok (.aload_n 0, 1) := by decide +kernel
theorem dX6_add_42 : decode cX6_add 42 = .ok (.getfield 18, 3) := by decide +kernel
theorem dX6_add_45 : decode cX6_add 45 = .ok (.ireturn, 1) := by decide +kernel
theorem dX6_allLines_0 : decode cX6_allLines 0 = .ok (.iconst 1, 1) := by decide +kernel
theorem dX6_allLines_1 : decode cX6_allLines 1 = .ok (.aload_n 0, 1) := by decide +kernel
theorem dX6_allLines_2 : decode cX6_allLines 2 = .ok (.getfield 18, 3) := by decide +kernel
theorem dX6_allLines_5 : decode cX6_allLines 5 = .ok (.ishl, 1) := by decide +kernel
theorem dX6_allLines_6 : decode cX6_allLines 6 = .ok (.iconst 1, 1) := by decide +kernel
theorem dX6_allLines_7 : decode cX6_allLines 7 = .ok (.isub, 1) := by decide +kernel
theorem dX6_allLines_8 : decode cX6_allLines 8 = .ok (.ireturn, 1) := by decide +kernel
theorem dX7_init_0 : decode cX7_init 0 = .ok (.aload_n 0, 1) := by decide +kernel
theorem dX7_init_1 : decode cX7_init 1 = .ok (.invokespecial 3, 3) := by decide +kernel
theorem dX7_init_4 : decode cX7_init 4 = .ok (.aload_n 0, 1) := by decide +kernel
theorem dX7_init_5 : decode cX7_init 5 = .ok (.sipush 160, 3) := by decide +kernel
theorem dX7_init_8 : decode cX7_init 8 = .ok (.newarray .int, 2) := by decide +kernel
theorem dX7_init_10 : decode cX7_init 10 = .ok (.putfield 9, 3) := by decide +kernel
theorem dX7_init_13 : decode cX7_init 13 = .ok (.aload_n 0, 1) := by decide +kernel
theorem dX7_init_14 : decode cX7_init 14 = .ok (.bipush 8, 2) := by decide +kernel
theorem dX7_init_16 : decode cX7_init 16 = .ok (.newarray .int, 2) := by decide +kernel
theorem dX7_init_18 : decode cX7_init 18 = .ok (.putfield 15, 3) := by decide +kernel
theorem dX7_init_21 : decode cX7_init 21 = .ok (.aload_n 0, 1) := by decide +kernel
theorem dX7_init_22 : decode cX7_init 22 = .ok (.bipush 8, 2) := by decide +kernel
theorem dX7_init_24 : decode cX7_init 24 = .ok (.newarray .int, 2) := by decide +kernel
theorem dX7_init_26 : decode cX7_init 26 = .ok (.putfield 18, 3) := by decide +kernel
theorem dX7_init_29 : decode cX7_init 29 = .ok (.aload_n 0, 1) := by decide +kernel
theorem dX7_init_30 : decode cX7_init 30 = .ok (.bipush 8, 2) := by decide +kernel
theorem dX7_init_32 : decode cX7_init 32 = .ok (.newarray .int, 2) := by decide +kernel
theorem dX7_init_34 : decode cX7_init 34 = .ok (.putfield 21, 3) := by decide +kernel
theorem dX7_init_37 : decode cX7_init 37 = .ok (.aload_n 0, 1) := by decide +kernel
theorem dX7_init_38 : decode cX7_init 38 = .ok (.iconst 0, 1) := by decide +kernel
theorem dX7_init_39 : decode cX7_init 39 = .ok (.putfield 24, 3) := by decide +kernel
theorem dX7_init_42 : decode cX7_init 42 = .ok (.aload_n 0, 1) := by decide +kernel
theorem dX7_init_43 : decode cX7_init 43 = .ok (.iconst 0, 1) := by decide +kernel
theorem dX7_init_44 : decode cX7_init 44 = .ok (.putfield 28, 3) := by decide +kernel
theorem dX7_init_47 : decode cX7_init 47 = .ok (.aload_n 0, 1) := by decide +kernel
theorem dX7_init_48 : decode cX7_init 48 = .ok (.iconst 0, 1) := by decide +kernel
theorem dX7_init_49 : decode cX7_init 49 = .ok (.putfield 31, 3) := by decide +kernel
theorem dX7_init_52 : decode cX7_init 52 = .ok (.aload_n 0, 1) := by decide +kernel
theorem dX7_init_53 : decode cX7_init 53 = .ok (.iconst 0, 1) := by decide +kernel
theorem dX7_init_54 : decode cX7_init 54 = .ok (.putfield 34, 3) := by decide +kernel
theorem dX7_init_57 : decode cX7_init 57 = .ok (.return_, 1) := by decide +kernel
theorem dX7_append_0 : decode cX7_append 0 = .ok (.aload_n 0, 1) := by decide +kernel
theorem dX7_append_1 : decode cX7_append 1 = .ok (.getfield 24, 3) := by decide +kernel
theorem dX7_append_4 : decode cX7_append 4 = .ok (.iload_n 3, 1) := by decide +kernel
theorem dX7_append_5 : decode cX7_append 5 = .ok (.iadd, 1) := by decide +kernel
theorem dX7_append_6 : decode cX7_append 6 = .ok (.sipush 160, 3) := by decide +kernel
theorem dX7_append_9 : decode cX7_append 9 = .ok (.if_icmp .le 6, 3) := by decide +kernel
theorem dX7_append_12 : decode cX7_append 12 = .ok (.bipush (-5), 2) := by decide +kernel
theorem dX7_append_14 : decode cX7_append 14 = .ok (.ireturn, 1) := by decide +kernel
theorem dX7_append_15 : decode cX7_append 15 = .ok (.iconst 0, 1) := by decide +kernel
theorem dX7_append_16 : decode cX7_append 16 = .ok (.istore 4, 2) := by decide +kernel
theorem dX7_append_18 : decode cX7_append 18 = .ok (.iload 4, 2) := by decide +kernel
theorem dX7_append_20 : decode cX7_append 20 = .ok (.iload_n 3, 1) := by decide +kernel
theorem dX7_append_21 : decode cX7_append 21 = .ok (.if_icmp .ge 33, 3) := by decide +kernel
theorem dX7_append_24 : decode cX7_append 24 = .ok (.aload_n 0, 1) := by decide +kernel
theorem dX7_append_25 : decode cX7_append 25 = .ok (.getfield 9, 3) := by decide +kernel
theorem dX7_append_28 : decode cX7_append 28 = .ok (.aload_n 0, 1) := by decide +kernel
theorem dX7_append_29 : decode cX7_append 29 = .ok (.getfield 24, 3) := by decide +kernel
theorem dX7_append_32 : decode cX7_append 32 = .ok (.iload 4, 2) := by decide +kernel
theorem dX7_append_34 : decode cX7_append 34 = .ok (.iadd, 1) := by decide +kernel
theorem dX7_append_35 : decode cX7_append 35 = .ok (.lload_n 1, 1) := by decide +kernel
theorem dX7_append_36 : decode cX7_append 36 = .ok (.bipush 8, 2) := by decide +kernel
theorem dX7_append_38 : decode cX7_append 38 = .ok (.iload 4, 2) := by decide +kernel
theorem dX7_append_40 : decode cX7_append 40 = .ok (.imul, 1) := by decide +kernel
theorem dX7_append_41 : decode cX7_append 41 = .ok (.lshr, 1) := by decide +kernel
theorem dX7_append_42 : decode cX7_append 42 = .ok (.ldc2_w 37, 3) := by decide +kernel
theorem dX7_append_45 : decode cX7_append 45 = .ok (.land, 1) := by decide +kernel
theorem dX7_append_46 : decode cX7_append 46 = .ok (.l2i, 1) := by decide +kernel
theorem dX7_append_47 : decode cX7_append 47 = .ok (.iastore, 1) := by decide +kernel
theorem dX7_append_48 : decode cX7_append 48 = .ok (.iinc 4 1, 3) := by decide +kernel
theorem dX7_append_51 : decode cX7_append 51 = .ok (.goto (-33), 3) := by decide +kernel
theorem dX7_append_54 : decode cX7_append 54 = .ok (.aload_n 0, 1) := by decide +kernel
theorem dX7_append_55 : decode cX7_append 55 = .ok (.dup, 1) := by decide +kernel
theorem dX7_append_56 : decode cX7_append 56 = .ok (.getfield 24, 3) := by decide +kernel
theorem dX7_append_59 : decode cX7_append 59 = .ok (.iload_n 3, 1) := by decide +kernel
theorem dX7_append_60 : decode cX7_append 60 = .ok (.iadd, 1) := by decide +kernel
theorem dX7_append_61 : decode cX7_append 61 = .ok (.putfield 24, 3) := by decide +kernel
theorem dX7_append_64 : decode cX7_append 64 = .ok (.aload_n 0, 1) := by decide +kernel
theorem dX7_append_65 : decode cX7_append 65 = .ok (.getfield 24, 3) := by decide +kernel
theorem dX7_append_68 : decode cX7_append 68 = .ok (.ireturn, 1) := by decide +kernel
theorem dX7_empty_0 : decode cX7_empty 0 = .ok (.aload_n 0, 1) := by decide +kernel
theorem dX7_empty_1 : decode cX7_empty 1 = .ok (.getfield 24, 3) := by decide +kernel
theorem dX7_empty_4 : decode cX7_empty 4 = .ok (.istore_n 1, 1) := by decide +kernel
theorem dX7_empty_5 : decode cX7_empty 5 = .ok (.aload_n 0, 1) := by decide +kernel
theorem dX7_empty_6 : decode cX7_empty 6 = .ok (.iconst 0, 1) := by decide +kernel
theorem dX7_empty_7 : decode cX7_empty 7 = .ok (.putfield 24, 3) := by decide +kernel
theorem dX7_empty_10 : decode cX7_empty 10 = .ok (.iload_n 1, 1) := by decide +kernel
theorem dX7_empty_11 : decode cX7_empty 11 = .ok (.ireturn, 1) := by decide +kernel
theorem dX7_firstFault_0 : decode cX7_firstFault 0 = .ok (.aload_n 0, 1) := by decide +kernel
theorem dX7_firstFault_1 : decode cX7_firstFault 1 = .ok (.iconst 0, 1) := by decide +kernel
theorem dX7_firstFault_2 : decode cX7_firstFault 2 = .ok (.putfield 28, 3) := by decide +kernel
theorem dX7_firstFault_5 : decode cX7_firstFault 5 = .ok (.aload_n 0, 1) := by decide +kernel
theorem dX7_firstFault_6 : decode cX7_firstFault 6 = .ok (.iconst 0, 1) := by decide +kernel
theorem dX7_firstFault_7 : decode cX7_firstFault 7 = .ok (.putfield 34, 3) := by decide +kernel
theorem dX7_firstFault_10 : decode cX7_firstFault 10 = .ok (.aload_n 0, 1) := by decide +kernel
theorem dX7_firstFault_11 : decode cX7_firstFault 11 = .ok (.invokevirtual 39, 3) := by decide +kernel
theorem dX7_firstFault_14 : decode cX7_firstFault 14 = .ok (.aload_n 0, 1) := by decide +kernel
theorem dX7_firstFault_15 : decode cX7_firstFault 15 = .ok (.getfield 28, 3) := by decide +kernel
theorem dX7_firstFault_18 : decode cX7_firstFault 18 = .ok (.bipush 8, 2) := by decide +kernel
theorem dX7_firstFault_20 : decode cX7_firstFault 20 = .ok (.if_icmp .ge 75, 3) := by decide +kernel
theorem dX7_firstFault_23 : decode cX7_firstFault 23 = .ok (.iload_n 1, 1) := by decide +kernel
theorem dX7_firstFault_24 : decode cX7_firstFault 24 = .ok (.ifCond .eq 13, 3) := by decide +kernel
theorem dX7_firstFault_27 : decode cX7_firstFault 27 = .ok (.aload_n 0, 1) := by decide +kernel
theorem dX7_firstFault_28 : decode cX7_firstFault 28 = .ok (.invokevirtual 42, 3) := by decide +kernel
theorem dX7_firstFault_31 : decode cX7_firstFault 31 = .ok (.ifCond .eq 13, 3) := by decide +kernel
theorem dX7_firstFault_34 : decode cX7_firstFault 34 = .ok (.goto 15, 3) := by decide +kernel
theorem dX7_firstFault_37 : decode cX7_firstFault 37 = .ok (.aload_n 0, 1) := by decide +kernel
theorem dX7_firstFault_38 : decode cX7_firstFault 38 = .ok (.invokevirtual 46, 3) := by decide +kernel
theorem dX7_firstFault_41 : decode cX7_firstFault 41 = .ok (.ifCond .ne 8, 3) := by decide +kernel
theorem dX7_firstFault_44 : decode cX7_firstFault 44 = .ok (.aload_n 0, 1) := by decide +kernel
theorem dX7_firstFault_45 : decode cX7_firstFault 45 = .ok (.getfield 31, 3) := by decide +kernel
theorem dX7_firstFault_48 : decode cX7_firstFault 48 = .ok (.ireturn, 1) := by decide +kernel
theorem dX7_firstFault_49 : decode cX7_firstFault 49 = .ok (.aload_n 0, 1) := by decide +kernel
theorem dX7_firstFault_50 : decode cX7_firstFault 50 = .ok (.dup, 1) := by decide +kernel
theorem dX7_firstFault_51 : decode cX7_firstFault 51 = .ok (.getfield 28, 3) := by decide +kernel
theorem dX7_firstFault_54 : decode cX7_firstFault 54 = .ok (.iconst 1, 1) := by decide +kernel
theorem dX7_firstFault_55 : decode cX7_firstFault 55 = .ok (.iadd, 1) := by decide +kernel
theorem dX7_firstFault_56 : decode cX7_firstFault 56 = .ok (.putfield 28, 3) := by decide +kernel
theorem dX7_firstFault_59 : decode cX7_firstFault 59 = .ok (.aload_n 0, 1) := by decide +kernel
theorem dX7_firstFault_60 : decode cX7_firstFault 60 = .ok (.getfield 31, 3) := by decide +kernel
theorem dX7_firstFault_63 : decode cX7_firstFault 63 = .ok (.aload_n 0, 1) := by decide +kernel
theorem dX7_firstFault_64 : decode cX7_firstFault 64 = .ok (.getfield 24, 3) := by decide +kernel
theorem dX7_firstFault_67 : decode cX7_firstFault 67 = .ok (.if_icmp .ne 5, 3) := by decide +kernel
theorem dX7_firstFault_70 : decode cX7_firstFault 70 = .ok (.iconst (-1), 1) := by decide +kernel
theorem dX7_firstFault_71 : decode cX7_firstFault 71 = .ok (.ireturn, 1) := by decide +kernel
theorem dX7_firstFault_72 : decode cX7_firstFault 72 = .ok (.aload_n 0, 1) := by decide +kernel
theorem dX7_firstFault_73 : decode cX7_firstFault 73 = .ok (.getfield 28, 3) := by decide +kernel
theorem dX7_firstFault_76 : decode cX7_firstFault 76 = .ok (.bipush 8, 2) := by decide +kernel
theorem dX7_firstFault_78 : decode cX7_firstFault 78 = .ok (.if_icmp .eq 12, 3) := by decide +kernel
theorem dX7_firstFault_81 : decode cX7_firstFault 81 = .ok (.aload_n 0, 1) := by decide +kernel
theorem dX7_firstFault_82 : decode cX7_firstFault 82 = .ok (.ldc 49, 2) := by decide +kernel
theorem dX7_firstFault_84 : decode cX7_firstFault 84 = .ok (.invokevirtual 51, 3) := by decide +kernel
theorem dX7_firstFault_87 : decode cX7_firstFault 87 = .ok (.ifCond .ne (-73), 3) := by decide +kernel
theorem dX7_firstFault_90 : decode cX7_firstFault 90 = .ok (.aload_n 0, 1) := by decide +kernel
theorem dX7_firstFault_91 : decode cX7_firstFault 91 = .ok (.getfield 31, 3) := by decide +kernel
theorem dX7_firstFault_94 : decode cX7_firstFault 94 = .ok (.ireturn, 1) := by decide +kernel
theorem dX7_firstFault_95 : decode cX7_firstFault 95 = .ok (.aload_n 0, 1) := by decide +kernel
theorem dX7_firstFault_96 : decode cX7_firstFault 96 = .ok (.getfield 31, 3) := by decide +kernel
theorem dX7_firstFault_99 : decode cX7_firstFault 99 = .ok (.ireturn, 1) := by decide +kernel
theorem dX7_readLifeLine_0 : decode cX7_readLifeLine 0 = .ok (.aload_n 0, 1) := by decide +kernel
theorem dX7_readLifeLine_1 : decode cX7_readLifeLine 1 = .ok (.ldc 55, 2) := by decide +kernel
theorem dX7_readLifeLine_3 : decode cX7_readLifeLine 3 = .ok (.invokevirtual 51, 3) := by decide +kernel
theorem dX7_readLifeLine_6 : decode cX7_readLifeLine 6 = .ok (.ifCond .ne 5, 3) := by decide +kernel
theorem dX7_readLifeLine_9 : decode cX7_readLifeLine 9 = .ok (.iconst 0, 1) := by decide +kernel
theorem dX7_readLifeLine_10 : decode cX7_readLifeLine 10 = .ok (.ireturn, 1) := by decide +kernel
theorem dX7_readLifeLine_11 : decode cX7_readLifeLine 11 = .ok (.aload_n 0, 1) := by decide +kernel
theorem dX7_readLifeLine_12 : decode cX7_readLifeLine 12 = .ok (.getfield 15, 3) := by decide +kernel
theorem dX7_readLifeLine_15 : decode cX7_readLifeLine 15 = .ok (.aload_n 0, 1) := by decide +kernel
theorem dX7_readLifeLine_16 : decode cX7_readLifeLine 16 = .ok (.getfield 28, 3) := by decide +kernel
theorem dX7_readLifeLine_19 : decode cX7_readLifeLine 19 = .ok (.aload_n 0, 1) := by decide +kernel
theorem dX7_readLifeLine_20 : decode cX7_readLifeLine 20 = .ok (.iconst 0, 1) := by decide +kernel
theorem dX7_readLifeLine_21 : decode cX7_readLifeLine 21 = .ok (.bipush 7, 2) := by decide +kernel
theorem dX7_readLifeLine_23 : decode cX7_readLifeLine 23 = .ok (.invokevirtual 57, 3) := by decide +kernel
theorem dX7_readLifeLine_26 : decode cX7_readLifeLine 26 = .ok (.iastore, 1) := by decide +kernel
theorem dX7_readLifeLine_27 : decode cX7_readLifeLine 27 = .ok (.aload_n 0, 1) := by decide +kernel
theorem dX7_readLifeLine_28 : decode cX7_readLifeLine 28 = .ok (.getfield 15, 3) := by decide +kernel
theorem dX7_readLifeLine_31 : decode cX7_readLifeLine 31 = .ok (.aload_n 0, 1) := by decide +kernel
theorem dX7_readLifeLine_32 : decode cX7_readLifeLine 32 = .ok (.getfield 28, 3) := by decide +kernel
theorem dX7_readLifeLine_35 : decode cX7_readLifeLine 35 = .ok (.iaload, 1) := by decide +kernel
theorem dX7_readLifeLine_36 : decode cX7_readLifeLine 36 = .ok (.iconst (-1), 1) := by decide +kernel
theorem dX7_readLifeLine_37 : decode cX7_readLifeLine 37 = .ok (.if_icmp .eq 12, 3) := by decide +kernel
theorem dX7_readLifeLine_40 : decode cX7_readLifeLine 40 = .ok (.aload_n 0, 1) := by decide +kernel
theorem dX7_readLifeLine_41 : decode cX7_readLifeLine 41 = .ok (.ldc 61, 2) := by decide +kernel
theorem dX7_readLifeLine_43 : decode cX7_readLifeLine 43 = .ok (.invokevirtual 51, 3) := by decide +kernel
theorem dX7_readLifeLine_46 : decode cX7_readLifeLine 46 = .ok (.ifCond .ne 5, 3) := by decide +kernel
theorem dX7_readLifeLine_49 : decode cX7_readLifeLine 49 = .ok (.iconst 0, 1) := by decide +kernel
theorem dX7_readLifeLine_50 : decode cX7_readLifeLine 50 = .ok (.ireturn, 1) := by decide +kernel
theorem dX7_readLifeLine_51 : decode cX7_readLifeLine 51 = .ok (.aload_n 0, 1) := by decide +kernel
theorem dX7_readLifeLine_52 : decode cX7_readLifeLine 52 = .ok (.getfield 18, 3) := by decide +kernel
theorem dX7_readLifeLine_55 : decode cX7_readLifeLine 55 = .ok (.aload_n 0, 1) := by decide +kernel
theorem dX7_readLifeLine_56 : decode cX7_readLifeLine 56 = .ok (.getfield 28, 3) := by decide +kernel
theorem dX7_readLifeLine_59 : decode cX7_readLifeLine 59 = .ok (.aload_n 0, 1) := by decide +kernel
theorem dX7_readLifeLine_60 : decode cX7_readLifeLine 60 = .ok (.iconst 0, 1) := by decide +kernel
theorem dX7_readLifeLine_61 : decode cX7_readLifeLine 61 = .ok (.bipush 60, 2) := by decide +kernel
theorem dX7_readLifeLine_63 : decode cX7_readLifeLine 63 = .ok (.invokevirtual 57, 3) := by decide +kernel
theorem dX7_readLifeLine_66 : decode cX7_readLifeLine 66 = .ok (.iastore, 1) := by decide +kernel
theorem dX7_readLifeLine_67 : decode cX7_readLifeLine 67 = .ok (.aload_n 0, 1) := by decide +kernel
theorem dX7_readLifeLine_68 : decode cX7_readLifeLine 68 = .ok (.getfield 18, 3) := by decide +kernel
theorem dX7_readLifeLine_71 : decode cX7_readLifeLine 71 = .ok (.aload_n 0, 1) := by decide +kernel
theorem dX7_readLifeLine_72 : decode cX7_readLifeLine 72 = .ok (.getfield 28, 3) := by decide +kernel
theorem dX7_readLifeLine_75 : decode cX7_readLifeLine 75 = .ok (.iaload, 1) := by decide +kernel
theorem dX7_readLifeLine_76 : decode cX7_readLifeLine 76 = .ok (.iconst (-1), 1) := by decide +kernel
theorem dX7_readLifeLine_77 : decode cX7_readLifeLine 77 = .ok (.if_icmp .eq 12, 3) := by decide +kernel
theorem dX7_readLifeLine_80 : decode cX7_readLifeLine 80 = .ok (.aload_n 0, 1) := by decide +kernel
theorem dX7_readLifeLine_81 : decode cX7_readLifeLine 81 = .ok (.ldc 63, 2) := by decide +kernel
theorem dX7_readLifeLine_83 : decode cX7_readLifeLine 83 = .ok (.invokevirtual 51, 3) := by decide +kernel
theorem dX7_readLifeLine_86 : decode cX7_readLifeLine 86 = .ok (.ifCond .ne 5, 3) := by decide +kernel
theorem dX7_readLifeLine_89 : decode cX7_readLifeLine 89 = .ok (.iconst 0, 1) := by decide +kernel
theorem dX7_readLifeLine_90 : decode cX7_readLifeLine 90 = .ok (.ireturn, 1) := by decide +kernel
theorem dX7_readLifeLine_91 : decode cX7_readLifeLine 91 = .ok (.aload_n 0, 1) := by decide +kernel
theorem dX7_readLifeLine_92 : decode cX7_readLifeLine 92 = .ok (.getfield 21, 3) := by decide +kernel
theorem dX7_readLifeLine_95 : decode cX7_readLifeLine 95 = .ok (.aload_n 0, 1) := by decide +kernel
theorem dX7_readLifeLine_96 : decode cX7_readLifeLine 96 = .ok (.getfield 28, 3) := by decide +kernel
theorem dX7_readLifeLine_99 : decode cX7_readLifeLine 99 = .ok (.aload_n 0, 1) := by decide +kernel
theorem dX7_readLifeLine_100 : decode cX7_readLifeLine 100 = .ok (.aload_n 0, 1) := by decide +kernel
theorem dX7_readLifeLine_101 : decode cX7_readLifeLine 101 = .ok (.getfield 18, 3) := by decide +kernel
theorem dX7_readLifeLine_104 : decode cX7_readLifeLine 104 = .ok (.aload_n 0, 1) := by decide +kernel
theorem dX7_readLifeLine_105 : decode cX7_readLifeLine 105 = .ok (.getfield 28, 3) := by decide +kernel
theorem dX7_readLifeLine_108 : decode cX7_readLifeLine 108 = .ok (.iaload, 1) := by decide +kernel
theorem dX7_readLifeLine_109 : decode cX7_readLifeLine 109 = .ok (.bipush 60, 2) := by decide +kernel
theorem dX7_readLifeLine_111 : decode cX7_readLifeLine 111 = .ok (.invokevirtual 57, 3) := by decide +kernel
theorem dX7_readLifeLine_114 : decode cX7_readLifeLine 114 = .ok (.iastore, 1) := by decide +kernel
theorem dX7_readLifeLine_115 : decode cX7_readLifeLine 115 = .ok (.aload_n 0, 1) := by decide +kernel
theorem dX7_readLifeLine_116 : decode cX7_readLifeLine 116 = .ok (.getfield 21, 3) := by decide +kernel
theorem dX7_readLifeLine_119 : decode cX7_readLifeLine 119 = .ok (.aload_n 0, 1) := by decide +kernel
theorem dX7_readLifeLine_120 : decode cX7_readLifeLine 120 = .ok (.getfield 28, 3) := by decide +kernel
theorem dX7_readLifeLine_123 : decode cX7_readLifeLine 123 = .ok (.iaload, 1) := by decide +kernel
theorem dX7_readLifeLine_124 : decode cX7_readLifeLine 124 = .ok (.iconst (-1), 1) := by decide +kernel
theorem dX7_readLifeLine_125 : decode cX7_readLifeLine 125 = .ok (.if_icmp .eq 7, 3) := by decide +kernel
theorem dX7_readLifeLine_128 : decode cX7_readLifeLine 128 = .ok (.iconst 1, 1) := by decide +kernel
theorem dX7_readLifeLine_129 : decode cX7_readLifeLine 129 = .ok (.goto 4, 3) := by decide +kernel
theorem dX7_readLifeLine_132 : decode cX7_readLifeLine 132 = .ok (.iconst 0, 1) := by decide +kernel
theorem dX7_readLifeLine_133 : decode cX7_readLifeLine 133 = .ok (.ireturn, 1) := by decide +kernel
theorem dX7_readTableLine_0 : decode cX7_readTableLine 0 = .ok (.iconst 0, 1) := by decide +kernel
theorem dX7_readTableLine_1 : decode cX7_readTableLine 1 = .ok (.istore_n 1, 1) := by decide +kernel
theorem dX7_readTableLine_2 : decode cX7_readTableLine 2 = .ok (.iload_n 1, 1) := by decide +kernel
theorem dX7_readTableLine_3 : decode cX7_readTableLine 3 = .ok (.bipush 6, 2) := by decide +kernel
theorem dX7_readTableLine_5 : decode cX7_readTableLine 5 = .ok (.if_icmp .ge 20, 3) := by decide +kernel
theorem dX7_readTableLine_8 : decode cX7_readTableLine 8 = .ok (.aload_n 0, 1) := by decide +kernel
theorem dX7_readTableLine_9 : decode cX7_readTableLine 9 = .ok (.iload_n 1, 1) := by decide +kernel
theorem dX7_readTableLine_10 : decode cX7_readTableLine 10 = .ok (.invokestatic 65, 3) := by decide +kernel
theorem dX7_readTableLine_13 : decode cX7_readTableLine 13 = .ok (.invokevirtual 51, 3) := by decide +kernel
theorem dX7_readTableLine_16 : decode cX7_readTableLine 16 = .ok (.ifCond .ne 9, 3) := by decide +kernel
theorem dX7_readTableLine_19 : decode cX7_readTableLine 19 = .ok (.iinc 1 1, 3) := by decide +kernel
theorem dX7_readTableLine_22 : decode cX7_readTableLine 22 = .ok (.goto (-20), 3) := by decide +kernel
theorem dX7_readTableLine_25 : decode cX7_readTableLine 25 = .ok (.iload_n 1, 1) := by decide +kernel
theorem dX7_readTableLine_26 : decode cX7_readTableLine 26 = .ok (.bipush 6, 2) := by decide +kernel
theorem dX7_readTableLine_28 : decode cX7_readTableLine 28 = .ok (.if_icmp .ne 5, 3) := by decide +kernel
theorem dX7_readTableLine_31 : decode cX7_readTableLine 31 = .ok (.iconst 0, 1) := by decide +kernel
theorem dX7_readTableLine_32 : decode cX7_readTableLine 32 = .ok (.ireturn, 1) := by decide +kernel
theorem dX7_readTableLine_33 : decode cX7_readTableLine 33 = .ok (.aload_n 0, 1) := by decide +kernel
theorem dX7_readTableLine_34 : decode cX7_readTableLine 34 = .ok (.getfield 15, 3) := by decide +kernel
theorem dX7_readTableLine_37 : decode cX7_readTableLine 37 = .ok (.aload_n 0, 1) := by decide +kernel
theorem dX7_readTableLine_38 : decode cX7_readTableLine 38 = .ok (.getfield 28, 3) := by decide +kernel
theorem dX7_readTableLine_41 : decode cX7_readTableLine 41 = .ok (.iload_n 1, 1) := by decide +kernel
theorem dX7_readTableLine_42 : decode cX7_readTableLine 42 = .ok (.iastore, 1) := by decide +kernel
theorem dX7_readTableLine_43 : decode cX7_readTableLine 43 = .ok (.aload_n 0, 1) := by decide +kernel
theorem dX7_readTableLine_44 : decode cX7_readTableLine 44 = .ok (.getfield 18, 3) := by decide +kernel
theorem dX7_readTableLine_47 : decode cX7_readTableLine 47 = .ok (.aload_n 0, 1) := by decide +kernel
theorem dX7_readTableLine_48 : decode cX7_readTableLine 48 = .ok (.getfield 28, 3) := by decide +kernel
theorem dX7_readTableLine_51 : decode cX7_readTableLine 51 = .ok (.aload_n 0, 1) := by decide +kernel
theorem dX7_readTableLine_52 : decode cX7_readTableLine 52 = .ok (.iconst 0, 1) := by decide +kernel
theorem dX7_readTableLine_53 : decode cX7_readTableLine 53 = .ok (.bipush 99, 2) := by decide +kernel
theorem dX7_readTableLine_55 : decode cX7_readTableLine 55 = .ok (.invokevirtual 57, 3) := by decide +kernel
theorem dX7_readTableLine_58 : decode cX7_readTableLine 58 = .ok (.iastore, 1) := by decide +kernel
theorem dX7_readTableLine_59 : decode cX7_readTableLine 59 = .ok (.aload_n 0, 1) := by decide +kernel
theorem dX7_readTableLine_60 : decode cX7_readTableLine 60 = .ok (.getfield 18, 3) := by decide +kernel
theorem dX7_readTableLine_63 : decode cX7_readTableLine 63 = .ok (.aload_n 0, 1) := by decide +kernel
theorem dX7_readTableLine_64 : decode cX7_readTableLine 64 = .ok (.getfield 28, 3) := by decide +kernel
theorem dX7_readTableLine_67 : decode cX7_readTableLine 67 = .ok (.iaload, 1) := by decide +kernel
theorem dX7_readTableLine_68 : decode cX7_readTableLine 68 = .ok (.iconst (-1), 1) := by decide +kernel
theorem dX7_readTableLine_69 : decode cX7_readTableLine 69 = .ok (.if_icmp .eq 7, 3) := by decide +kernel
theorem dX7_readTableLine_72 : decode cX7_readTableLine 72 = .ok (.iconst 1, 1) := by decide +kernel
theorem dX7_readTableLine_73 : decode cX7_readTableLine 73 = .ok (.goto 4, 3) := by decide +kernel
theorem dX7_readTableLine_76 : decode cX7_readTableLine 76 = .ok (.iconst 0, 1) := by decide +kernel
theorem dX7_readTableLine_77 : decode cX7_readTableLine 77 = .ok (.ireturn, 1) := by decide +kernel
theorem dX7_tableWord_0 : decode cX7_tableWord 0 = .ok (.iload_n 0, 1) := by decide +kernel
theorem dX7_tableWord_1 : decode cX7_tableWord 1 = .ok (.tableswitch 50 0 4 #[35, 38, 41, 44, 47], 35) := by decide +kernel
theorem dX7_tableWord_36 : decode cX7_tableWord 36 = .ok (.ldc 69, 2) := by decide +kernel
theorem dX7_tableWord_38 : decode cX7_tableWord 38 = .ok (.areturn, 1) := by decide +kernel
theorem dX7_tableWord_39 : decode cX7_tableWord 39 = .ok (.ldc 71, 2) := by decide +kernel
theorem dX7_tableWord_41 : decode cX7_tableWord 41 = .ok (.areturn, 1) := by decide +kernel
theorem dX7_tableWord_42 : decode cX7_tableWord 42 = .ok (.ldc 73, 2) := by decide +kernel
theorem dX7_tableWord_44 : decode cX7_tableWord 44 = .ok (.areturn, 1) := by decide +kernel
theorem dX7_tableWord_45 : decode cX7_tableWord 45 = .ok (.ldc 75, 2) := by decide +kernel
theorem dX7_tableWord_47 : decode cX7_tableWord 47 = .ok (.areturn, 1) := by decide +kernel
theorem dX7_tableWord_48 : decode cX7_tableWord 48 = .ok (.ldc 77, 2) := by decide +kernel
theorem dX7_tableWord_50 : decode cX7_tableWord 50 = .ok (.areturn, 1) := by decide +kernel
theorem dX7_tableWord_51 : decode cX7_tableWord 51 = .ok (.ldc 79, 2) := by decide +kernel
theorem dX7_tableWord_53 : decode cX7_tableWord 53 = .ok (.areturn, 1) := by decide +kernel
theorem dX7_passWord_0 : decode cX7_passWord 0 = .ok (.aload_n 0, 1) := by decide +kernel
theorem dX7_passWord_1 : decode cX7_passWord 1 = .ok (.getfield 34, 3) := by decide +kernel
theorem dX7_passWord_4 : decode cX7_passWord 4 = .ok (.aload_n 0, 1) := by decide +kernel
theorem dX7_passWord_5 : decode cX7_passWord 5 = .ok (.getfield 31, 3) := by decide +kernel
theorem dX7_passWord_8 : decode cX7_passWord 8 = .ok (.isub, 1) := by decide +kernel
theorem dX7_passWord_9 : decode cX7_passWord 9 = .ok (.aload_n 1, 1) := by decide +kernel
theorem dX7_passWord_10 : decode cX7_passWord 10 = .ok (.invokevirtual 81, 3) := by decide +kernel
theorem dX7_passWord_13 : decode cX7_passWord 13 = .ok (.if_icmp .eq 5, 3) := by decide +kernel
theorem dX7_passWord_16 : decode cX7_passWord 16 = .ok (.iconst 0, 1) := by decide +kernel
theorem dX7_passWord_17 : decode cX7_passWord 17 = .ok (.ireturn, 1) := by decide +kernel
theorem dX7_passWord_18 : decode cX7_passWord 18 = .ok (.iconst 0, 1) := by decide +kernel
theorem dX7_passWord_19 : decode cX7_passWord 19 = .ok (.istore_n 2, 1) := by decide +kernel
theorem dX7_passWord_20 : decode cX7_passWord 20 = .ok (.iload_n 2, 1) := by decide +kernel
theorem dX7_passWord_21 : decode cX7_passWord 21 = .ok (.aload_n 1, 1) := by decide +kernel
theorem dX7_passWord_22 : decode cX7_passWord 22 = .ok (.invokevirtual 81, 3) := by decide +kernel
theorem dX7_passWord_25 : decode cX7_passWord 25 = .ok (.if_icmp .ge 30, 3) := by decide +kernel
theorem dX7_passWord_28 : decode cX7_passWord 28 = .ok (.aload_n 0, 1) := by decide +kernel
theorem dX7_passWord_29 : decode cX7_passWord 29 = .ok (.getfield 9, 3) := by decide +kernel
theorem dX7_passWord_32 : decode cX7_passWord 32 = .ok (.aload_n 0, 1) := by decide +kernel
theorem dX7_passWord_33 : decode cX7_passWord 33 = .ok (.getfield 31, 3) := by decide +kernel
theorem dX7_passWord_36 : decode cX7_passWord 36 = .ok (.iload_n 2, 1) := by decide +kernel
theorem dX7_passWord_37 : decode cX7_passWord 37 = .ok (.iadd, 1) := by decide +kernel
theorem dX7_passWord_38 : decode cX7_passWord 38 = .ok (.iaload, 1) := by decide +kernel
theorem dX7_passWord_39 : decode cX7_passWord 39 = .ok (.aload_n 1, 1) := by decide +kernel
theorem dX7_passWord_40 : decode cX7_passWord 40 = .ok (.iload_n 2, 1) := by decide +kernel
theorem dX7_passWord_41 : decode cX7_passWord 41 = .ok (.invokevirtual 86, 3) := by decide +kernel
theorem dX7_passWord_44 : decode cX7_passWord 44 = .ok (.if_icmp .eq 5, 3) := by decide +kernel
theorem dX7_passWord_47 : decode cX7_passWord 47 = .ok (.iconst 0, 1) := by decide +kernel
theorem dX7_passWord_48 : decode cX7_passWord 48 = .ok (.ireturn, 1) := by decide +kernel
theorem dX7_passWord_49 : decode cX7_passWord 49 = .ok (.iinc 2 1, 3) := by decide +kernel
theorem dX7_passWord_52 : decode cX7_passWord 52 = .ok (.goto (-32), 3) := by decide +kernel
theorem dX7_passWord_55 : decode cX7_passWord 55 = .ok (.aload_n 0, 1) := by decide +kernel
theorem dX7_passWord_56 : decode cX7_passWord 56 = .ok (.invokevirtual 39, 3) := by decide +kernel
theorem dX7_passWord_59 : decode cX7_passWord 59 = .ok (.iconst 1, 1) := by decide +kernel
theorem dX7_passWord_60 : decode cX7_passWord 60 = .ok (.ireturn, 1) := by decide +kernel
theorem dX7_passNumber_0 : decode cX7_passNumber 0 = .ok (.aload_n 0, 1) := by decide +kernel
theorem dX7_passNumber_1 : decode cX7_passNumber 1 = .ok (.getfield 34, 3) := by decide +kernel
theorem dX7_passNumber_4 : decode cX7_passNumber 4 = .ok (.aload_n 0, 1) := by decide +kernel
theorem dX7_passNumber_5 : decode cX7_passNumber 5 = .ok (.getfield 31, 3) := by decide +kernel
theorem dX7_passNumber_8 : decode cX7_passNumber 8 = .ok (.isub, 1) := by decide +kernel
theorem dX7_passNumber_9 : decode cX7_passNumber 9 = .ok (.istore_n 3, 1) := by decide +kernel
theorem dX7_passNumber_10 : decode cX7_passNumber 10 = .ok (.iload_n 3, 1) := by decide +kernel
theorem dX7_passNumber_11 : decode cX7_passNumber 11 = .ok (.iconst 1, 1) := by decide +kernel
theorem dX7_passNumber_12 : decode cX7_passNumber 12 = .ok (.if_icmp .lt 23, 3) := by decide +kernel
theorem dX7_passNumber_15 : decode cX7_passNumber 15 = .ok (.iload_n 3, 1) := by decide +kernel
theorem dX7_passNumber_16 : decode cX7_passNumber 16 = .ok (.iconst 2, 1) := by decide +kernel
theorem dX7_passNumber_17 : decode cX7_passNumber 17 = .ok (.if_icmp .gt 18, 3) := by decide +kernel
theorem dX7_passNumber_20 : decode cX7_passNumber 20 = .ok (.aload_n 0, 1) := by decide +kernel
theorem dX7_passNumber_21 : decode cX7_passNumber 21 = .ok (.getfield 9, 3) := by decide +kernel
theorem dX7_passNumber_24 : decode cX7_passNumber 24 = .ok (.aload_n 0, 1) := by decide +kernel
theorem dX7_passNumber_25 : decode cX7_passNumber 25 = .ok (.getfield 31, 3) := by decide +kernel
theorem dX7_passNumber_28 : decode cX7_passNumber 28 = .ok (.iaload, 1) := by decide +kernel
theorem dX7_passNumber_29 : decode cX7_passNumber 29 = .ok (.invokestatic 90, 3) := by decide +kernel
theorem dX7_passNumber_32 : decode cX7_passNumber 32 = .ok (.ifCond .ne 5, 3) := by decide +kernel
theorem dX7_passNumber_35 : decode cX7_passNumber 35 = .ok (.iconst (-1), 1) := by decide +kernel
theorem dX7_passNumber_36 : decode cX7_passNumber 36 = .ok (.ireturn, 1) := by decide +kernel
theorem dX7_passNumber_37 : decode cX7_passNumber 37 = .ok (.iconst 0, 1) := by decide +kernel
theorem dX7_passNumber_38 : decode cX7_passNumber 38 = .ok (.istore 4, 2) := by decide +kernel
theorem dX7_passNumber_40 : decode cX7_passNumber 40 = .ok (.aload_n 0, 1) := by decide +kernel
theorem dX7_passNumber_41 : decode cX7_passNumber 41 = .ok (.getfield 31, 3) := by decide +kernel
theorem dX7_passNumber_44 : decode cX7_passNumber 44 = .ok (.istore 5, 2) := by decide +kernel
theorem dX7_passNumber_46 : decode cX7_passNumber 46 = .ok (.iload 5, 2) := by decide +kernel
theorem dX7_passNumber_48 : decode cX7_passNumber 48 = .ok (.aload_n 0, 1) := by decide +kernel
theorem dX7_passNumber_49 : decode cX7_passNumber 49 = .ok (.getfield 34, 3) := by decide +kernel
theorem dX7_passNumber_52 : decode cX7_passNumber 52 = .ok (.if_icmp .ge 27, 3) := by decide +kernel
theorem dX7_passNumber_55 : decode cX7_passNumber 55 = .ok (.iload 4, 2) := by decide +kernel
theorem dX7_passNumber_57 : decode cX7_passNumber 57 = .ok (.bipush 10, 2) := by decide +kernel
theorem dX7_passNumber_59 : decode cX7_passNumber 59 = .ok (.imul, 1) := by decide +kernel
theorem dX7_passNumber_60 : decode cX7_passNumber 60 = .ok (.aload_n 0, 1) := by decide +kernel
theorem dX7_passNumber_61 : decode cX7_passNumber 61 = .ok (.getfield 9, 3) := by decide +kernel
theorem dX7_passNumber_64 : decode cX7_passNumber 64 = .ok (.iload 5, 2) := by decide +kernel
theorem dX7_passNumber_66 : decode cX7_passNumber 66 = .ok (.iaload, 1) := by decide +kernel
theorem dX7_passNumber_67 : decode cX7_passNumber 67 = .ok (.iadd, 1) := by decide +kernel
theorem dX7_passNumber_68 : decode cX7_passNumber 68 = .ok (.bipush 48, 2) := by decide +kernel
theorem dX7_passNumber_70 : decode cX7_passNumber 70 = .ok (.isub, 1) := by decide +kernel
theorem dX7_passNumber_71 : decode cX7_passNumber 71 = .ok (.istore 4, 2) := by decide +kernel
theorem dX7_passNumber_73 : decode cX7_passNumber 73 = .ok (.iinc 5 1, 3) := by decide +kernel
theorem dX7_passNumber_76 : decode cX7_passNumber 76 = .ok (.goto (-30), 3) := by decide +kernel
theorem dX7_passNumber_79 : decode cX7_passNumber 79 = .ok (.iload 4, 2) := by decide +kernel
theorem dX7_passNumber_81 : decode cX7_passNumber 81 = .ok (.iload_n 1, 1) := by decide +kernel
theorem dX7_passNumber_82 : decode cX7_passNumber 82 = .ok (.if_icmp .lt 9, 3) := by decide +kernel
theorem dX7_passNumber_85 : decode cX7_passNumber 85 = .ok (.iload 4, 2) := by decide +kernel
theorem dX7_passNumber_87 : decode cX7_passNumber 87 = .ok (.iload_n 2, 1) := by decide +kernel
theorem dX7_passNumber_88 : decode cX7_passNumber 88 = .ok (.if_icmp .le 5, 3) := by decide +kernel
theorem dX7_passNumber_91 : decode cX7_passNumber 91 = .ok (.iconst (-1), 1) := by decide +kernel
theorem dX7_passNumber_92 : decode cX7_passNumber 92 = .ok (.ireturn, 1) := by decide +kernel
theorem dX7_passNumber_93 : decode cX7_passNumber 93 = .ok (.aload_n 0, 1) := by decide +kernel
theorem dX7_passNumber_94 : decode cX7_passNumber 94 = .ok (.invokevirtual 39, 3) := by decide +kernel
theorem dX7_passNumber_97 : decode cX7_passNumber 97 = .ok (.iload 4, 2) := by decide +kernel
theorem dX7_passNumber_99 : decode cX7_passNumber 99 = .ok (.ireturn, 1) := by decide +kernel
theorem dX7_nextToken_0 : decode cX7_nextToken 0 = .ok (.aload_n 0, 1) := by decide +kernel
theorem dX7_nextToken_1 : decode cX7_nextToken 1 = .ok (.aload_n 0, 1) := by decide +kernel
theorem dX7_nextToken_2 : decode cX7_nextToken 2 = .ok (.getfield 34, 3) := by decide +kernel
theorem dX7_nextToken_5 : decode cX7_nextToken 5 = .ok (.putfield 31, 3) := by decide +kernel
theorem dX7_nextToken_8 : decode cX7_nextToken 8 = .ok (.aload_n 0, 1) := by decide +kernel
theorem dX7_nextToken_9 : decode cX7_nextToken 9 = .ok (.getfield 31, 3) := by decide +kernel
theorem dX7_nextToken_12 : decode cX7_nextToken 12 = .ok (.aload_n 0, 1) := by decide +kernel
theorem dX7_nextToken_13 : decode cX7_nextToken 13 = .ok (.getfield 24, 3) := by decide +kernel
theorem dX7_nextToken_16 : decode cX7_nextToken 16 = .ok (.if_icmp .ge 30, 3) := by decide +kernel
theorem dX7_nextToken_19 : decode cX7_nextToken 19 = .ok (.aload_n 0, 1) := by decide +kernel
theorem dX7_nextToken_20 : decode cX7_nextToken 20 = .ok (.getfield 9, 3) := by decide +kernel
theorem dX7_nextToken_23 : decode cX7_nextToken 23 = .ok (.aload_n 0, 1) := by decide +kernel
theorem dX7_nextToken_24 : decode cX7_nextToken 24 = .ok (.getfield 31, 3) := by decide +kernel
theorem dX7_nextToken_27 : decode cX7_nextToken 27 = .ok (.iaload, 1) := by decide +kernel
theorem dX7_nextToken_28 : decode cX7_nextToken 28 = .ok (.bipush 32, 2) := by decide +kernel
theorem dX7_nextToken_30 : decode cX7_nextToken 30 = .ok (.if_icmp .ne 16, 3) := by decide +kernel
theorem dX7_nextToken_33 : decode cX7_nextToken 33 = .ok (.aload_n 0, 1) := by decide +kernel
theorem dX7_nextToken_34 : decode cX7_nextToken 34 = .ok (.dup, 1) := by decide +kernel
theorem dX7_nextToken_35 : decode cX7_nextToken 35 = .ok (.getfield 31, 3) := by decide +kernel
theorem dX7_nextToken_38 : decode cX7_nextToken 38 = .ok (.iconst 1, 1) := by decide +kernel
theorem dX7_nextToken_39 : decode cX7_nextToken 39 = .ok (.iadd, 1) := by decide +kernel
theorem dX7_nextToken_40 : decode cX7_nextToken 40 = .ok (.putfield 31, 3) := by decide +kernel
theorem dX7_nextToken_43 : decode cX7_nextToken 43 = .ok (.goto (-35), 3) := by decide +kernel
theorem dX7_nextToken_46 : decode cX7_nextToken 46 = .ok (.aload_n 0, 1) := by decide +kernel
theorem dX7_nextToken_47 : decode cX7_nextToken 47 = .ok (.aload_n 0, 1) := by decide +kernel
theorem dX7_nextToken_48 : decode cX7_nextToken 48 = .ok (.getfield 31, 3) := by decide +kernel
theorem dX7_nextToken_51 : decode cX7_nextToken 51 = .ok (.putfield 34, 3) := by decide +kernel
theorem dX7_nextToken_54 : decode cX7_nextToken 54 = .ok (.aload_n 0, 1) := by decide +kernel
theorem dX7_nextToken_55 : decode cX7_nextToken 55 = .ok (.getfield 31, 3) := by decide +kernel
theorem dX7_nextToken_58 : decode cX7_nextToken 58 = .ok (.aload_n 0, 1) := by decide +kernel
theorem dX7_nextToken_59 : decode cX7_nextToken 59 = .ok (.getfield 24, 3) := by decide +kernel
theorem dX7_nextToken_62 : decode cX7_nextToken 62 = .ok (.if_icmp .ne 4, 3) := by decide +kernel
theorem dX7_nextToken_65 : decode cX7_nextToken 65 = .ok (.return_, 1) := by decide +kernel
theorem dX7_nextToken_66 : decode cX7_nextToken 66 = .ok (.aload_n 0, 1) := by decide +kernel
theorem dX7_nextToken_67 : decode cX7_nextToken 67 = .ok (.dup, 1) := by decide +kernel
theorem dX7_nextToken_68 : decode cX7_nextToken 68 = .ok (.getfield 34, 3) := by decide +kernel
theorem dX7_nextToken_71 : decode cX7_nextToken 71 = .ok (.iconst 1, 1) := by decide +kernel
theorem dX7_nextToken_72 : decode cX7_nextToken 72 = .ok (.iadd, 1) := by decide +kernel
theorem dX7_nextToken_73 : decode cX7_nextToken 73 = .ok (.putfield 34, 3) := by decide +kernel
theorem dX7_nextToken_76 : decode cX7_nextToken 76 = .ok (.aload_n 0, 1) := by decide +kernel
theorem dX7_nextToken_77 : decode cX7_nextToken 77 = .ok (.getfield 9, 3) := by decide +kernel
theorem dX7_nextToken_80 : decode cX7_nextToken 80 = .ok (.aload_n 0, 1) := by decide +kernel
theorem dX7_nextToken_81 : decode cX7_nextToken 81 = .ok (.getfield 31, 3) := by decide +kernel
theorem dX7_nextToken_84 : decode cX7_nextToken 84 = .ok (.iaload, 1) := by decide +kernel
theorem dX7_nextToken_85 : decode cX7_nextToken 85 = .ok (.invokestatic 94, 3) := by decide +kernel
theorem dX7_nextToken_88 : decode cX7_nextToken 88 = .ok (.istore_n 1, 1) := by decide +kernel
theorem dX7_nextToken_89 : decode cX7_nextToken 89 = .ok (.aload_n 0, 1) := by decide +kernel
theorem dX7_nextToken_90 : decode cX7_nextToken 90 = .ok (.getfield 9, 3) := by decide +kernel
theorem dX7_nextToken_93 : decode cX7_nextToken 93 = .ok (.aload_n 0, 1) := by decide +kernel
theorem dX7_nextToken_94 : decode cX7_nextToken 94 = .ok (.getfield 31, 3) := by decide +kernel
theorem dX7_nextToken_97 : decode cX7_nextToken 97 = .ok (.iaload, 1) := by decide +kernel
theorem dX7_nextToken_98 : decode cX7_nextToken 98 = .ok (.invokestatic 90, 3) := by decide +kernel
theorem dX7_nextToken_101 : decode cX7_nextToken 101 = .ok (.istore_n 2, 1) := by decide +kernel
theorem dX7_nextToken_102 : decode cX7_nextToken 102 = .ok (.aload_n 0, 1) := by decide +kernel
theorem dX7_nextToken_103 : decode cX7_nextToken 103 = .ok (.getfield 34, 3) := by decide +kernel
theorem dX7_nextToken_106 : decode cX7_nextToken 106 = .ok (.aload_n 0, 1) := by decide +kernel
theorem dX7_nextToken_107 : decode cX7_nextToken 107 = .ok (.getfield 24, 3) := by decide +kernel
theorem dX7_nextToken_110 : decode cX7_nextToken 110 = .ok (.if_icmp .ge 54, 3) := by decide +kernel
theorem dX7_nextToken_113 : decode cX7_nextToken 113 = .ok (.iload_n 1, 1) := by decide +kernel
theorem dX7_nextToken_114 : decode cX7_nextToken 114 = .ok (.ifCond .eq 18, 3) := by decide +kernel
theorem dX7_nextToken_117 : decode cX7_nextToken 117 = .ok (.aload_n 0, 1) := by decide +kernel
theorem dX7_nextToken_118 : decode cX7_nextToken 118 = .ok (.getfield 9, 3) := by decide +kernel
theorem dX7_nextToken_121 : decode cX7_nextToken 121 = .ok (.aload_n 0, 1) := by decide +kernel
theorem dX7_nextToken_122 : decode cX7_nextToken 122 = .ok (.getfield 34, 3) := by decide +kernel
theorem dX7_nextToken_125 : decode cX7_nextToken 125 = .ok (.iaload, 1) := by decide +kernel
theorem dX7_nextToken_126 : decode cX7_nextToken 126 = .ok (.invokestatic 94, 3) := by decide +kernel
theorem dX7_nextToken_129 : decode cX7_nextToken 129 = .ok (.ifCond .ne 22, 3) := by decide +kernel
theorem dX7_nextToken_132 : decode cX7_nextToken 132 = .ok (.iload_n 2, 1) := by decide +kernel
theorem dX7_nextToken_133 : decode cX7_nextToken 133 = .ok (.ifCond .eq 31, 3) := by decide +kernel
theorem dX7_nextToken_136 : decode cX7_nextToken 136 = .ok (.aload_n 0, 1) := by decide +kernel
theorem dX7_nextToken_137 : decode cX7_nextToken 137 = .ok (.getfield 9, 3) := by decide +kernel
theorem dX7_nextToken_140 : decode cX7_nextToken 140 = .ok (.aload_n 0, 1) := by decide +kernel
theorem dX7_nextToken_141 : decode cX7_nextToken 141 = .ok (.getfield 34, 3) := by decide +kernel
theorem dX7_nextToken_144 : decode cX7_nextToken 144 = .ok (.iaload, 1) := by decide +kernel
theorem dX7_nextToken_145 : decode cX7_nextToken 145 = .ok (.invokestatic 90, 3) := by decide +kernel
theorem dX7_nextToken_148 : decode cX7_nextToken 148 = .ok (.ifCond .eq 16, 3) := by decide +kernel
theorem dX7_nextToken_151 : decode cX7_nextToken 151 = .ok (.aload_n 0, 1) := by decide +kernel
theorem dX7_nextToken_152 : decode cX7_nextToken 152 = .ok (.dup, 1) := by decide +kernel
theorem dX7_nextToken_153 : decode cX7_nextToken 153 = .ok (.getfield 34, 3) := by decide +kernel
theorem dX7_nextToken_156 : decode cX7_nextToken 156 = .ok (.iconst 1, 1) := by decide +kernel
theorem dX7_nextToken_157 : decode cX7_nextToken 157 = .ok (.iadd, 1) := by decide +kernel
theorem dX7_nextToken_158 : decode cX7_nextToken 158 = .ok (.putfield 34, 3) := by decide +kernel
theorem dX7_nextToken_161 : decode cX7_nextToken 161 = .ok (.goto (-59), 3) := by decide +kernel
theorem dX7_nextToken_164 : decode cX7_nextToken 164 = .ok (.return_, 1) := by decide +kernel
theorem dX7_isLetter_0 : decode cX7_isLetter 0 = .ok (.iload_n 0, 1) := by decide +kernel
theorem dX7_isLetter_1 : decode cX7_isLetter 1 = .ok (.bipush 97, 2) := by decide +kernel
theorem dX7_isLetter_3 : decode cX7_isLetter 3 = .ok (.if_icmp .lt 13, 3) := by decide +kernel
theorem dX7_isLetter_6 : decode cX7_isLetter 6 = .ok (.iload_n 0, 1) := by decide +kernel
theorem dX7_isLetter_7 : decode cX7_isLetter 7 = .ok (.bipush 122, 2) := by decide +kernel
theorem dX7_isLetter_9 : decode cX7_isLetter 9 = .ok (.if_icmp .gt 7, 3) := by decide +kernel
theorem dX7_isLetter_12 : decode cX7_isLetter 12 = .ok (.iconst 1, 1) := by decide +kernel
theorem dX7_isLetter_13 : decode cX7_isLetter 13 = .ok (.goto 4, 3) := by decide +kernel
theorem dX7_isLetter_16 : decode cX7_isLetter 16 = .ok (.iconst 0, 1) := by decide +kernel
theorem dX7_isLetter_17 : decode cX7_isLetter 17 = .ok (.ireturn, 1) := by decide +kernel
theorem dX7_isDigit_0 : decode cX7_isDigit 0 = .ok (.iload_n 0, 1) := by decide +kernel
theorem dX7_isDigit_1 : decode cX7_isDigit 1 = .ok (.bipush 48, 2) := by decide +kernel
theorem dX7_isDigit_3 : decode cX7_isDigit 3 = .ok (.if_icmp .lt 13, 3) := by decide +kernel
theorem dX7_isDigit_6 : decode cX7_isDigit 6 = .ok (.iload_n 0, 1) := by decide +kernel
theorem dX7_isDigit_7 : decode cX7_isDigit 7 = .ok (.bipush 57, 2) := by decide +kernel
theorem dX7_isDigit_9 : decode cX7_isDigit 9 = .ok (.if_icmp .gt 7, 3) := by decide +kernel
theorem dX7_isDigit_12 : decode cX7_isDigit 12 = .ok (.iconst 1, 1) := by decide +kernel
theorem dX7_isDigit_13 : decode cX7_isDigit 13 = .ok (.goto 4, 3) := by decide +kernel
theorem dX7_isDigit_16 : decode cX7_isDigit 16 = .ok (.iconst 0, 1) := by decide +kernel
theorem dX7_isDigit_17 : decode cX7_isDigit 17 = .ok (.ireturn, 1) := by decide +kernel
theorem dX8_init_0 : decode cX8_init 0 = .ok (.aload_n 0, 1) := by decide +kernel
theorem dX8_init_1 : decode cX8_init 1 = .ok (.invokespecial 3, 3) := by decide +kernel
theorem dX8_init_4 : decode cX8_init 4 = .ok (.aload_n 0, 1) := by decide +kernel
theorem dX8_init_5 : decode cX8_init 5 = .ok (.bipush 8, 2) := by decide +kernel
theorem dX8_init_7 : decode cX8_init 7 = .ok (.newarray .int, 2) := by decide +kernel
theorem dX8_init_9 : decode cX8_init 9 = .ok (.putfield 9, 3) := by decide +kernel
theorem dX8_init_12 : decode cX8_init 12 = .ok (.aload_n 0, 1) := by decide +kernel
theorem dX8_init_13 : decode cX8_init 13 = .ok (.bipush 16, 2) := by decide +kernel
theorem dX8_init_15 : decode cX8_init 15 = .ok (.newarray .int, 2) := by decide +kernel
theorem dX8_init_17 : decode cX8_init 17 = .ok (.putfield 15, 3) := by decide +kernel
theorem dX8_init_20 : decode cX8_init 20 = .ok (.aload_n 0, 1) := by decide +kernel
theorem dX8_init_21 : decode cX8_init 21 = .ok (.bipush 16, 2) := by decide +kernel
theorem dX8_init_23 : decode cX8_init 23 = .ok (.newarray .int, 2) := by decide +kernel
theorem dX8_init_25 : decode cX8_init 25 = .ok (.putfield 18, 3) := by decide +kernel
theorem dX8_init_28 : decode cX8_init 28 = .ok (.aload_n 0, 1) := by decide +kernel
theorem dX8_init_29 : decode cX8_init 29 = .ok (.bipush 16, 2) := by decide +kernel
theorem dX8_init_31 : decode cX8_init 31 = .ok (.newarray .int, 2) := by decide +kernel
theorem dX8_init_33 : decode cX8_init 33 = .ok (.putfield 21, 3) := by decide +kernel
theorem dX8_init_36 : decode cX8_init 36 = .ok (.aload_n 0, 1) := by decide +kernel
theorem dX8_init_37 : decode cX8_init 37 = .ok (.bipush 16, 2) := by decide +kernel
theorem dX8_init_39 : decode cX8_init 39 = .ok (.newarray .int, 2) := by decide +kernel
theorem dX8_init_41 : decode cX8_init 41 = .ok (.putfield 24, 3) := by decide +kernel
theorem dX8_init_44 : decode cX8_init 44 = .ok (.aload_n 0, 1) := by decide +kernel
theorem dX8_init_45 : decode cX8_init 45 = .ok (.bipush 16, 2) := by decide +kernel
theorem dX8_init_47 : decode cX8_init 47 = .ok (.newarray .int, 2) := by decide +kernel
theorem dX8_init_49 : decode cX8_init 49 = .ok (.putfield 27, 3) := by decide +kernel
theorem dX8_init_52 : decode cX8_init 52 = .ok (.aload_n 0, 1) := by decide +kernel
theorem dX8_init_53 : decode cX8_init 53 = .ok (.bipush 16, 2) := by decide +kernel
theorem dX8_init_55 : decode cX8_init 55 = .ok (.newarray .boolean, 2) := by decide +kernel
theorem dX8_init_57 : decode cX8_init 57 = .ok (.putfield 30, 3) := by decide +kernel
theorem dX8_init_60 : decode cX8_init 60 = .ok (.aload_n 0, 1) := by decide +kernel
theorem dX8_init_61 : decode cX8_init 61 = .ok (.iconst 0, 1) := by decide +kernel
theorem dX8_init_62 : decode cX8_init 62 = .ok (.putfield 34, 3) := by decide +kernel
theorem dX8_init_65 : decode cX8_init 65 = .ok (.iconst 0, 1) := by decide +kernel
theorem dX8_init_66 : decode cX8_init 66 = .ok (.istore_n 1, 1) := by decide +kernel
theorem dX8_init_67 : decode cX8_init 67 = .ok (.iload_n 1, 1) := by decide +kernel
theorem dX8_init_68 : decode cX8_init 68 = .ok (.bipush 8, 2) := by decide +kernel
theorem dX8_init_70 : decode cX8_init 70 = .ok (.if_icmp .ge 18, 3) := by decide +kernel
theorem dX8_init_73 : decode cX8_init 73 = .ok (.aload_n 0, 1) := by decide +kernel
theorem dX8_init_74 : decode cX8_init 74 = .ok (.getfield 9, 3) := by decide +kernel
theorem dX8_init_77 : decode cX8_init 77 = .ok (.iload_n 1, 1) := by decide +kernel
theorem dX8_init_78 : decode cX8_init 78 = .ok (.iconst 1, 1) := by decide +kernel
theorem dX8_init_79 : decode cX8_init 79 = .ok (.iload_n 1, 1) := by decide +kernel
theorem dX8_init_80 : decode cX8_init 80 = .ok (.ishl, 1) := by decide +kernel
theorem dX8_init_81 : decode cX8_init 81 = .ok (.iastore, 1) := by decide +kernel
theorem dX8_init_82 : decode cX8_init 82 = .ok (.iinc 1 1, 3) := by decide +kernel
theorem dX8_init_85 : decode cX8_init 85 = .ok (.goto (-18), 3) := by decide +kernel
theorem dX8_init_88 : decode cX8_init 88 = .ok (.return_, 1) := by decide +kernel
theorem dX8_addFact_0 : decode cX8_addFact 0 = .ok (.aload_n 0, 1) := by decide +kernel
theorem dX8_addFact_1 : decode cX8_addFact 1 = .ok (.getfield 34, 3) := by decide +kernel
theorem dX8_addFact_4 : decode cX8_addFact 4 = .ok (.bipush 16, 2) := by decide +kernel
theorem dX8_addFact_6 : decode cX8_addFact 6 = .ok (.if_icmp .lt 6, 3) := by decide +kernel
theorem dX8_addFact_9 : decode cX8_addFact 9 = .ok (.bipush (-5), 2) := by decide +kernel
theorem dX8_addFact_11 : decode cX8_addFact 11 = .ok (.ireturn, 1) := by decide +kernel
theorem dX8_addFact_12 : decode cX8_addFact 12 = .ok (.aload_n 0, 1) := by decide +kernel
theorem dX8_addFact_13 : decode cX8_addFact 13 = .ok (.getfield 15, 3) := by decide +kernel
theorem dX8_addFact_16 : decode cX8_addFact 16 = .ok (.aload_n 0, 1) := by decide +kernel
theorem dX8_addFact_17 : decode cX8_addFact 17 = .ok (.getfield 34, 3) := by decide +kernel
theorem dX8_addFact_20 : decode cX8_addFact 20 = .ok (.iload_n 1, 1) := by decide +kernel
theorem dX8_addFact_21 : decode cX8_addFact 21 = .ok (.iastore, 1) := by decide +kernel
theorem dX8_addFact_22 : decode cX8_addFact 22 = .ok (.aload_n 0, 1) := by decide +kernel
theorem dX8_addFact_23 : decode cX8_addFact 23 = .ok (.getfield 18, 3) := by decide +kernel
theorem dX8_addFact_26 : decode cX8_addFact 26 = .ok (.aload_n 0, 1) := by decide +kernel
theorem dX8_addFact_27 : decode cX8_addFact 27 = .ok (.getfield 34, 3) := by decide +kernel
theorem dX8_addFact_30 : decode cX8_addFact 30 = .ok (.iload_n 2, 1) := by decide +kernel
theorem dX8_addFact_31 : decode cX8_addFact 31 = .ok (.iastore, 1) := by decide +kernel
theorem dX8_addFact_32 : decode cX8_addFact 32 = .ok (.aload_n 0, 1) := by decide +kernel
theorem dX8_addFact_33 : decode cX8_addFact 33 = .ok (.getfield 21, 3) := by decide +kernel
theorem dX8_addFact_36 : decode cX8_addFact 36 = .ok (.aload_n 0, 1) := by decide +kernel
theorem dX8_addFact_37 : decode cX8_addFact 37 = .ok (.getfield 34, 3) := by decide +kernel
theorem dX8_addFact_40 : decode cX8_addFact 40 = .ok (.iload_n 3, 1) := by decide +kernel
theorem dX8_addFact_41 : decode cX8_addFact 41 = .ok (.iastore, 1) := by decide +kernel
theorem dX8_addFact_42 : decode cX8_addFact 42 = .ok (.aload_n 0, 1) := by decide +kernel
theorem dX8_addFact_43 : decode cX8_addFact 43 = .ok (.getfield 24, 3) := by decide +kernel
theorem dX8_addFact_46 : decode cX8_addFact 46 = .ok (.aload_n 0, 1) := by decide +kernel
theorem dX8_addFact_47 : decode cX8_addFact 47 = .ok (.getfield 34, 3) := by decide +kernel
theorem dX8_addFact_50 : decode cX8_addFact 50 = .ok (.iload 4, 2) := by decide +kernel
theorem dX8_addFact_52 : decode cX8_addFact 52 = .ok (.iastore, 1) := by decide +kernel
theorem dX8_addFact_53 : decode cX8_addFact 53 = .ok (.aload_n 0, 1) := by decide +kernel
theorem dX8_addFact_54 : decode cX8_addFact 54 = .ok (.getfield 27, 3) := by decide +kernel
theorem dX8_addFact_57 : decode cX8_addFact 57 = .ok (.aload_n 0, 1) := by decide +kernel
theorem dX8_addFact_58 : decode cX8_addFact 58 = .ok (.getfield 34, 3) := by decide +kernel
theorem dX8_addFact_61 : decode cX8_addFact 61 = .ok (.iload 5, 2) := by decide +kernel
theorem dX8_addFact_63 : decode cX8_addFact 63 = .ok (.iastore, 1) := by decide +kernel
theorem dX8_addFact_64 : decode cX8_addFact 64 = .ok (.aload_n 0, 1) := by decide +kernel
theorem dX8_addFact_65 : decode cX8_addFact 65 = .ok (.getfield 30, 3) := by decide +kernel
theorem dX8_addFact_68 : decode cX8_addFact 68 = .ok (.aload_n 0, 1) := by decide +kernel
theorem dX8_addFact_69 : decode cX8_addFact 69 = .ok (.getfield 34, 3) := by decide +kernel
theorem dX8_addFact_72 : decode cX8_addFact 72 = .ok (.iload 6, 2) := by decide +kernel
theorem dX8_addFact_74 : decode cX8_addFact 74 = .ok (.bastore, 1) := by decide +kernel
theorem dX8_addFact_75 : decode cX8_addFact 75 = .ok (.aload_n 0, 1) := by decide +kernel
theorem dX8_addFact_76 : decode cX8_addFact 76 = .ok (.dup, 1) := by decide +kernel
theorem dX8_addFact_77 : decode cX8_addFact 77 = .ok (.getfield 34, 3) := by decide +kernel
theorem dX8_addFact_80 : decode cX8_addFact 80 = .ok (.iconst 1, 1) := by decide +kernel
theorem dX8_addFact_81 : decode cX8_addFact 81 = .ok (.iadd, 1) := by decide +kernel
theorem dX8_addFact_82 : decode cX8_addFact 82 = .ok (.putfield 34, 3) := by decide +kernel
theorem dX8_addFact_85 : decode cX8_addFact 85 = .ok (.aload_n 0, 1) := by decide +kernel
theorem dX8_addFact_86 : decode cX8_addFact 86 = .ok (.getfield 34, 3) := by decide +kernel
theorem dX8_addFact_89 : decode cX8_addFact 89 = .ok (.iconst 1, 1) := by decide +kernel
theorem dX8_addFact_90 : decode cX8_addFact 90 = .ok (.isub, 1) := by decide +kernel
theorem dX8_addFact_91 : decode cX8_addFact 91 = .ok (.ireturn, 1) := by decide +kernel
theorem dX8_tells_0 : decode cX8_tells 0 = .ok (.aload_n 0, 1) := by decide +kernel
theorem dX8_tells_1 : decode cX8_tells 1 = .ok (.getfield 15, 3) := by decide +kernel
theorem dX8_tells_4 : decode cX8_tells 4 = .ok (.iload_n 1, 1) := by decide +kernel
theorem dX8_tells_5 : decode cX8_tells 5 = .ok (.iaload, 1) := by decide +kernel
theorem dX8_tells_6 : decode cX8_tells 6 = .ok (.iload_n 2, 1) := by decide +kernel
theorem dX8_tells_7 : decode cX8_tells 7 = .ok (.if_icmp .ne 39, 3) := by decide +kernel
theorem dX8_tells_10 : decode cX8_tells 10 = .ok (.aload_n 0, 1) := by decide +kernel
theorem dX8_tells_11 : decode cX8_tells 11 = .ok (.getfield 18, 3) := by decide +kernel
theorem dX8_tells_14 : decode cX8_tells 14 = .ok (.iload_n 1, 1) := by decide +kernel
theorem dX8_tells_15 : decode cX8_tells 15 = .ok (.iaload, 1) := by decide +kernel
theorem dX8_tells_16 : decode cX8_tells 16 = .ok (.iload_n 3, 1) := by decide +kernel
theorem dX8_tells_17 : decode cX8_tells 17 = .ok (.if_icmp .ne 29, 3) := by decide +kernel
theorem dX8_tells_20 : decode cX8_tells 20 = .ok (.aload_n 0, 1) := by decide +kernel
theorem dX8_tells_21 : decode cX8_tells 21 = .ok (.getfield 21, 3) := by decide +kernel
theorem dX8_tells_24 : decode cX8_tells 24 = .ok (.iload_n 1, 1) := by decide +kernel
theorem dX8_tells_25 : decode cX8_tells 25 = .ok (.iaload, 1) := by decide +kernel
theorem dX8_tells_26 : decode cX8_tells 26 = .ok (.iload 4, 2) := by decide +kernel
theorem dX8_tells_28 : decode cX8_tells 28 = .ok (.if_icmp .gt 18, 3) := by decide +kernel
theorem dX8_tells_31 : decode cX8_tells 31 = .ok (.iload 4, 2) := by decide +kernel
theorem dX8_tells_33 : decode cX8_tells 33 = .ok (.aload_n 0, 1) := by decide +kernel
theorem dX8_tells_34 : decode cX8_tells 34 = .ok (.getfield 24, 3) := by decide +kernel
theorem dX8_tells_37 : decode cX8_tells 37 = .ok (.iload_n 1, 1) := by decide +kernel
theorem dX8_tells_38 : decode cX8_tells 38 = .ok (.iaload, 1) := by decide +kernel
theorem dX8_tells_39 : decode cX8_tells 39 = .ok (.if_icmp .gt 7, 3) := by decide +kernel
theorem dX8_tells_42 : decode cX8_tells 42 = .ok (.iconst 1, 1) := by decide +kernel
theorem dX8_tells_43 : decode cX8_tells 43 = .ok (.goto 4, 3) := by decide +kernel
theorem dX8_tells_46 : decode cX8_tells 46 = .ok (.iconst 0, 1) := by decide +kernel
theorem dX8_tells_47 : decode cX8_tells 47 = .ok (.ireturn, 1) := by decide +kernel
theorem dX8_valueOf_0 : decode cX8_valueOf 0 = .ok (.iload_n 1, 1) := by decide +kernel
theorem dX8_valueOf_1 : decode cX8_valueOf 1 = .ok (.invokestatic 38, 3) := by decide +kernel
theorem dX8_valueOf_4 : decode cX8_valueOf 4 = .ok (.istore_n 2, 1) := by decide +kernel
theorem dX8_valueOf_5 : decode cX8_valueOf 5 = .ok (.iload_n 1, 1) := by decide +kernel
theorem dX8_valueOf_6 : decode cX8_valueOf 6 = .ok (.invokestatic 42, 3) := by decide +kernel
theorem dX8_valueOf_9 : decode cX8_valueOf 9 = .ok (.istore_n 3, 1) := by decide +kernel
theorem dX8_valueOf_10 : decode cX8_valueOf 10 = .ok (.iload_n 1, 1) := by decide +kernel
theorem dX8_valueOf_11 : decode cX8_valueOf 11 = .ok (.invokestatic 45, 3) := by decide +kernel
theorem dX8_valueOf_14 : decode cX8_valueOf 14 = .ok (.istore 4, 2) := by decide +kernel
theorem dX8_valueOf_16 : decode cX8_valueOf 16 = .ok (.aload_n 0, 1) := by decide +kernel
theorem dX8_valueOf_17 : decode cX8_valueOf 17 = .ok (.getfield 34, 3) := by decide +kernel
theorem dX8_valueOf_20 : decode cX8_valueOf 20 = .ok (.iconst 1, 1) := by decide +kernel
theorem dX8_valueOf_21 : decode cX8_valueOf 21 = .ok (.isub, 1) := by decide +kernel
theorem dX8_valueOf_22 : decode cX8_valueOf 22 = .ok (.istore 5, 2) := by decide +kernel
theorem dX8_valueOf_24 : decode cX8_valueOf 24 = .ok (.iload 5, 2) := by decide +kernel
theorem dX8_valueOf_26 : decode cX8_valueOf 26 = .ok (.ifCond .lt 30, 3) := by decide +kernel
theorem dX8_valueOf_29 : decode cX8_valueOf 29 = .ok (.aload_n 0, 1) := by decide +kernel
theorem dX8_valueOf_30 : decode cX8_valueOf 30 = .ok (.iload 5, 2) := by decide +kernel
theorem dX8_valueOf_32 : decode cX8_valueOf 32 = .ok (.iload_n 2, 1) := by decide +kernel
theorem dX8_valueOf_33 : decode cX8_valueOf 33 = .ok (.iload_n 3, 1) := by decide +kernel
theorem dX8_valueOf_34 : decode cX8_valueOf 34 = .ok (.iload 4, 2) := by decide +kernel
theorem dX8_valueOf_36 : decode cX8_valueOf 36 = .ok (.invokevirtual 48, 3) := by decide +kernel
theorem dX8_valueOf_39 : decode cX8_valueOf 39 = .ok (.ifCond .eq 11, 3) := by decide +kernel
theorem dX8_valueOf_42 : decode cX8_valueOf 42 = .ok (.aload_n 0, 1) := by decide +kernel
theorem dX8_valueOf_43 : decode cX8_valueOf 43 = .ok (.getfield 27, 3) := by decide +kernel
theorem dX8_valueOf_46 : decode cX8_valueOf 46 = .ok (.iload 5, 2) := by decide +kernel
theorem dX8_valueOf_48 : decode cX8_valueOf 48 = .ok (.iaload, 1) := by decide +kernel
theorem dX8_valueOf_49 : decode cX8_valueOf 49 = .ok (.ireturn, 1) := by decide +kernel
theorem dX8_valueOf_50 : decode cX8_valueOf 50 = .ok (.iinc 5 (-1), 3) := by decide +kernel
theorem dX8_valueOf_53 : decode cX8_valueOf 53 = .ok (.goto (-29), 3) := by decide +kernel
theorem dX8_valueOf_56 : decode cX8_valueOf 56 = .ok (.iconst 0, 1) := by decide +kernel
theorem dX8_valueOf_57 : decode cX8_valueOf 57 = .ok (.ireturn, 1) := by decide +kernel
theorem dX8_seenBy_0 : decode cX8_seenBy 0 = .ok (.aload_n 0, 1) := by decide +kernel
theorem dX8_seenBy_1 : decode cX8_seenBy 1 = .ok (.getfield 9, 3) := by decide +kernel
theorem dX8_seenBy_4 : decode cX8_seenBy 4 = .ok (.aload_n 1, 1) := by decide +kernel
theorem dX8_seenBy_5 : decode cX8_seenBy 5 = .ok (.iload_n 2, 1) := by decide +kernel
theorem dX8_seenBy_6 : decode cX8_seenBy 6 = .ok (.invokevirtual 52, 3) := by decide +kernel
theorem dX8_seenBy_9 : decode cX8_seenBy 9 = .ok (.iaload, 1) := by decide +kernel
theorem dX8_seenBy_10 : decode cX8_seenBy 10 = .ok (.ireturn, 1) := by decide +kernel
theorem dX8_wasSeen_0 : decode cX8_wasSeen 0 = .ok (.aload_n 0, 1) := by decide +kernel
theorem dX8_wasSeen_1 : decode cX8_wasSeen 1 = .ok (.getfield 24, 3) := by decide +kernel
theorem dX8_wasSeen_4 : decode cX8_wasSeen 4 = .ok (.iload_n 1, 1) := by decide +kernel
theorem dX8_wasSeen_5 : decode cX8_wasSeen 5 = .ok (.iaload, 1) := by decide +kernel
theorem dX8_wasSeen_6 : decode cX8_wasSeen 6 = .ok (.iload_n 3, 1) := by decide +kernel
theorem dX8_wasSeen_7 : decode cX8_wasSeen 7 = .ok (.invokestatic 57, 3) := by decide +kernel
theorem dX8_wasSeen_10 : decode cX8_wasSeen 10 = .ok (.istore 4, 2) := by decide +kernel
theorem dX8_wasSeen_12 : decode cX8_wasSeen 12 = .ok (.aload_n 0, 1) := by decide +kernel
theorem dX8_wasSeen_13 : decode cX8_wasSeen 13 = .ok (.getfield 21, 3) := by decide +kernel
theorem dX8_wasSeen_16 : decode cX8_wasSeen 16 = .ok (.iload_n 1, 1) := by decide +kernel
theorem dX8_wasSeen_17 : decode cX8_wasSeen 17 = .ok (.iaload, 1) := by decide +kernel
theorem dX8_wasSeen_18 : decode cX8_wasSeen 18 = .ok (.istore 5, 2) := by decide +kernel
theorem dX8_wasSeen_20 : decode cX8_wasSeen 20 = .ok (.iload 5, 2) := by decide +kernel
theorem dX8_wasSeen_22 : decode cX8_wasSeen 22 = .ok (.iload 4, 2) := by decide +kernel
theorem dX8_wasSeen_24 : decode cX8_wasSeen 24 = .ok (.if_icmp .gt 30, 3) := by decide +kernel
theorem dX8_wasSeen_27 : decode cX8_wasSeen 27 = .ok (.aload_n 0, 1) := by decide +kernel
theorem dX8_wasSeen_28 : decode cX8_wasSeen 28 = .ok (.aload_n 2, 1) := by decide +kernel
theorem dX8_wasSeen_29 : decode cX8_wasSeen 29 = .ok (.iload 5, 2) := by decide +kernel
theorem dX8_wasSeen_31 : decode cX8_wasSeen 31 = .ok (.invokevirtual 63, 3) := by decide +kernel
theorem dX8_wasSeen_34 : decode cX8_wasSeen 34 = .ok (.aload_n 0, 1) := by decide +kernel
theorem dX8_wasSeen_35 : decode cX8_wasSeen 35 = .ok (.getfield 15, 3) := by decide +kernel
theorem dX8_wasSeen_38 : decode cX8_wasSeen 38 = .ok (.iload_n 1, 1) := by decide +kernel
theorem dX8_wasSeen_39 : decode cX8_wasSeen 39 = .ok (.iaload, 1) := by decide +kernel
theorem dX8_wasSeen_40 : decode cX8_wasSeen 40 = .ok (.invokestatic 67, 3) := by decide +kernel
theorem dX8_wasSeen_43 : decode cX8_wasSeen 43 = .ok (.ifCond .eq 5, 3) := by decide +kernel
theorem dX8_wasSeen_46 : decode cX8_wasSeen 46 = .ok (.iconst 1, 1) := by decide +kernel
theorem dX8_wasSeen_47 : decode cX8_wasSeen 47 = .ok (.ireturn, 1) := by decide +kernel
theorem dX8_wasSeen_48 : decode cX8_wasSeen 48 = .ok (.iinc 5 1, 3) := by decide +kernel
theorem dX8_wasSeen_51 : decode cX8_wasSeen 51 = .ok (.goto (-31), 3) := by decide +kernel
theorem dX8_wasSeen_54 : decode cX8_wasSeen 54 = .ok (.iconst 0, 1) := by decide +kernel
theorem dX8_wasSeen_55 : decode cX8_wasSeen 55 = .ok (.ireturn, 1) := by decide +kernel
theorem dX8_showsSecret_0 : decode cX8_showsSecret 0 = .ok (.aload_n 0, 1) := by decide +kernel
theorem dX8_showsSecret_1 : decode cX8_showsSecret 1 = .ok (.aload_n 1, 1) := by decide +kernel
theorem dX8_showsSecret_2 : decode cX8_showsSecret 2 = .ok (.iload_n 2, 1) := by decide +kernel
theorem dX8_showsSecret_3 : decode cX8_showsSecret 3 = .ok (.invokevirtual 63, 3) := by decide +kernel
theorem dX8_showsSecret_6 : decode cX8_showsSecret 6 = .ok (.istore_n 3, 1) := by decide +kernel
theorem dX8_showsSecret_7 : decode cX8_showsSecret 7 = .ok (.iconst 0, 1) := by decide +kernel
theorem dX8_showsSecret_8 : decode cX8_showsSecret 8 = .ok (.istore 4, 2) := by decide +kernel
theorem dX8_showsSecret_10 : decode cX8_showsSecret 10 = .ok (.iload 4, 2) := by decide +kernel
theorem dX8_showsSecret_12 : decode cX8_showsSecret 12 = .ok (.aload_n 0, 1) := by decide +kernel
theorem dX8_showsSecret_13 : decode cX8_showsSecret 13 = .ok (.getfield 34, 3) := by decide +kernel
theorem dX8_showsSecret_16 : decode cX8_showsSecret 16 = .ok (.if_icmp .ge 57, 3) := by decide +kernel
theorem dX8_showsSecret_19 : decode cX8_showsSecret 19 = .ok (.aload_n 0, 1) := by decide +kernel
theorem dX8_showsSecret_20 : decode cX8_showsSecret 20 = .ok (.getfield 30, 3) := by decide +kernel
theorem dX8_showsSecret_23 : decode cX8_showsSecret 23 = .ok (.iload 4, 2) := by decide +kernel
theorem dX8_showsSecret_25 : decode cX8_showsSecret 25 = .ok (.baload, 1) := by decide +kernel
theorem dX8_showsSecret_26 : decode cX8_showsSecret 26 = .ok (.ifCond .eq 41, 3) := by decide +kernel
theorem dX8_showsSecret_29 : decode cX8_showsSecret 29 = .ok (.aload_n 0, 1) := by decide +kernel
theorem dX8_showsSecret_30 : decode cX8_showsSecret 30 = .ok (.getfield 21, 3) := by decide +kernel
theorem dX8_showsSecret_33 : decode cX8_showsSecret 33 = .ok (.iload 4, 2) := by decide +kernel
theorem dX8_showsSecret_35 : decode cX8_showsSecret 35 = .ok (.iaload, 1) := by decide +kernel
theorem dX8_showsSecret_36 : decode cX8_showsSecret 36 = .ok (.iload_n 2, 1) := by decide +kernel
theorem dX8_showsSecret_37 : decode cX8_showsSecret 37 = .ok (.if_icmp .gt 30, 3) := by decide +kernel
theorem dX8_showsSecret_40 : decode cX8_showsSecret 40 = .ok (.iload_n 2, 1) := by decide +kernel
theorem dX8_showsSecret_41 : decode cX8_showsSecret 41 = .ok (.aload_n 0, 1) := by decide +kernel
theorem dX8_showsSecret_42 : decode cX8_showsSecret 42 = .ok (.getfield 24, 3) := by decide +kernel
theorem dX8_showsSecret_45 : decode cX8_showsSecret 45 = .ok (.iload 4, 2) := by decide +kernel
theorem dX8_showsSecret_47 : decode cX8_showsSecret 47 = .ok (.iaload, 1) := by decide +kernel
theorem dX8_showsSecret_48 : decode cX8_showsSecret 48 = .ok (.if_icmp .gt 19, 3) := by decide +kernel
theorem dX8_showsSecret_51 : decode cX8_showsSecret 51 = .ok (.iload_n 3, 1) := by decide +kernel
theorem dX8_showsSecret_52 : decode cX8_showsSecret 52 = .ok (.aload_n 0, 1) := by decide +kernel
theorem dX8_showsSecret_53 : decode cX8_showsSecret 53 = .ok (.getfield 15, 3) := by decide +kernel
theorem dX8_showsSecret_56 : decode cX8_showsSecret 56 = .ok (.iload 4, 2) := by decide +kernel
theorem dX8_showsSecret_58 : decode cX8_showsSecret 58 = .ok (.iaload, 1) := by decide +kernel
theorem dX8_showsSecret_59 : decode cX8_showsSecret 59 = .ok (.invokestatic 67, 3) := by decide +kernel
theorem dX8_showsSecret_62 : decode cX8_showsSecret 62 = .ok (.ifCond .eq 5, 3) := by decide +kernel
theorem dX8_showsSecret_65 : decode cX8_showsSecret 65 = .ok (.iconst 1, 1) := by decide +kernel
theorem dX8_showsSecret_66 : decode cX8_showsSecret 66 = .ok (.ireturn, 1) := by decide +kernel
theorem dX8_showsSecret_67 : decode cX8_showsSecret 67 = .ok (.iinc 4 1, 3) := by decide +kernel
theorem dX8_showsSecret_70 : decode cX8_showsSecret 70 = .ok (.goto (-60), 3) := by decide +kernel
theorem dX8_showsSecret_73 : decode cX8_showsSecret 73 = .ok (.iconst 0, 1) := by decide +kernel
theorem dX8_showsSecret_74 : decode cX8_showsSecret 74 = .ok (.ireturn, 1) := by decide +kernel
theorem dX9_init_0 : decode cX9_init 0 = .ok (.aload_n 0, 1) := by decide +kernel
theorem dX9_init_1 : decode cX9_init 1 = .ok (.invokespecial 3, 3) := by decide +kernel
theorem dX9_init_4 : decode cX9_init 4 = .ok (.new 9, 3) := by decide +kernel
theorem dX9_init_7 : decode cX9_init 7 = .ok (.dup, 1) := by decide +kernel
theorem dX9_init_8 : decode cX9_init 8 = .ok (.invokespecial 11, 3) := by decide +kernel
theorem dX9_init_11 : decode cX9_init 11 = .ok (.astore_n 1, 1) := by decide +kernel
theorem dX9_init_12 : decode cX9_init 12 = .ok (.getstatic 12, 3) := by decide +kernel
theorem dX9_init_15 : decode cX9_init 15 = .ok (.invokevirtual 16, 3) := by decide +kernel
theorem dX9_init_18 : decode cX9_init 18 = .ok (.checkcast 17, 3) := by decide +kernel
theorem dX9_init_21 : decode cX9_init 21 = .ok (.astore_n 2, 1) := by decide +kernel
theorem dX9_init_22 : decode cX9_init 22 = .ok (.new 21, 3) := by decide +kernel
theorem dX9_init_25 : decode cX9_init 25 = .ok (.dup, 1) := by decide +kernel
theorem dX9_init_26 : decode cX9_init 26 = .ok (.bipush 24, 2) := by decide +kernel
theorem dX9_init_28 : decode cX9_init 28 = .ok (.aload_n 2, 1) := by decide +kernel
theorem dX9_init_29 : decode cX9_init 29 = .ok (.invokespecial 23, 3) := by decide +kernel
theorem dX9_init_32 : decode cX9_init 32 = .ok (.astore_n 3, 1) := by decide +kernel
theorem dX9_init_33 : decode cX9_init 33 = .ok (.new 21, 3) := by decide +kernel
theorem dX9_init_36 : decode cX9_init 36 = .ok (.dup, 1) := by decide +kernel
theorem dX9_init_37 : decode cX9_init 37 = .ok (.bipush 10, 2) := by decide +kernel
theorem dX9_init_39 : decode cX9_init 39 = .ok (.aload_n 2, 1) := by decide +kernel
theorem dX9_init_40 : decode cX9_init 40 = .ok (.invokespecial 23, 3) := by decide +kernel
theorem dX9_init_43 : decode cX9_init 43 = .ok (.astore 4, 2) := by decide +kernel
theorem dX9_init_45 : decode cX9_init 45 = .ok (.new 26, 3) := by decide +kernel
theorem dX9_init_48 : decode cX9_init 48 = .ok (.dup, 1) := by decide +kernel
theorem dX9_init_49 : decode cX9_init 49 = .ok (.aload_n 1, 1) := by decide +kernel
theorem dX9_init_50 : decode cX9_init 50 = .ok (.aload_n 3, 1) := by decide +kernel
theorem dX9_init_51 : decode cX9_init 51 = .ok (.invokespecial 28, 3) := by decide +kernel
theorem dX9_init_54 : decode cX9_init 54 = .ok (.astore 5, 2) := by decide +kernel
theorem dX9_init_56 : decode cX9_init 56 = .ok (.bipush 6, 2) := by decide +kernel
theorem dX9_init_58 : decode cX9_init 58 = .ok (.anewarray 31, 3) := by decide +kernel
theorem dX9_init_61 : decode cX9_init 61 = .ok (.astore 6, 2) := by decide +kernel
theorem dX9_init_63 : decode cX9_init 63 = .ok (.iconst 0, 1) := by decide +kernel
theorem dX9_init_64 : decode cX9_init 64 = .ok (.istore 7, 2) := by decide +kernel
theorem dX9_init_66 : decode cX9_init 66 = .ok (.iload 7, 2) := by decide +kernel
theorem dX9_init_68 : decode cX9_init 68 = .ok (.bipush 6, 2) := by decide +kernel
theorem dX9_init_70 : decode cX9_init 70 = .ok (.if_icmp .ge 21, 3) := by decide +kernel
theorem dX9_init_73 : decode cX9_init 73 = .ok (.aload 6, 2) := by decide +kernel
theorem dX9_init_75 : decode cX9_init 75 = .ok (.iload 7, 2) := by decide +kernel
theorem dX9_init_77 : decode cX9_init 77 = .ok (.new 31, 3) := by decide +kernel
theorem dX9_init_80 : decode cX9_init 80 = .ok (.dup, 1) := by decide +kernel
theorem dX9_init_81 : decode cX9_init 81 = .ok (.invokespecial 33, 3) := by decide +kernel
theorem dX9_init_84 : decode cX9_init 84 = .ok (.aastore, 1) := by decide +kernel
theorem dX9_init_85 : decode cX9_init 85 = .ok (.iinc 7 1, 3) := by decide +kernel
theorem dX9_init_88 : decode cX9_init 88 = .ok (.goto (-22), 3) := by decide +kernel
theorem dX9_init_91 : decode cX9_init 91 = .ok (.iconst 2, 1) := by decide +kernel
theorem dX9_init_92 : decode cX9_init 92 = .ok (.anewarray 34, 3) := by decide +kernel
theorem dX9_init_95 : decode cX9_init 95 = .ok (.astore 7, 2) := by decide +kernel
theorem dX9_init_97 : decode cX9_init 97 = .ok (.iconst 0, 1) := by decide +kernel
theorem dX9_init_98 : decode cX9_init 98 = .ok (.istore 8, 2) := by decide +kernel
theorem dX9_init_100 : decode cX9_init 100 = .ok (.iload 8, 2) := by decide +kernel
theorem dX9_init_102 : decode cX9_init 102 = .ok (.iconst 2, 1) := by decide +kernel
theorem dX9_init_103 : decode cX9_init 103 = .ok (.if_icmp .ge 21, 3) := by decide +kernel
theorem dX9_init_106 : decode cX9_init 106 = .ok (.aload 7, 2) := by decide +kernel
theorem dX9_init_108 : decode cX9_init 108 = .ok (.iload 8, 2) := by decide +kernel
theorem dX9_init_110 : decode cX9_init 110 = .ok (.new 34, 3) := by decide +kernel
theorem dX9_init_113 : decode cX9_init 113 = .ok (.dup, 1) := by decide +kernel
theorem dX9_init_114 : decode cX9_init 114 = .ok (.invokespecial 36, 3) := by decide +kernel
theorem dX9_init_117 : decode cX9_init 117 = .ok (.aastore, 1) := by decide +kernel
theorem dX9_init_118 : decode cX9_init 118 = .ok (.iinc 8 1, 3) := by decide +kernel
theorem dX9_init_121 : decode cX9_init 121 = .ok (.goto (-21), 3) := by decide +kernel
theorem dX9_init_124 : decode cX9_init 124 = .ok (.aload_n 0, 1) := by decide +kernel
theorem dX9_init_125 : decode cX9_init 125 = .ok (.aload_n 1, 1) := by decide +kernel
theorem dX9_init_126 : decode cX9_init 126 = .ok (.putfield 37, 3) := by decide +kernel
theorem dX9_init_129 : decode cX9_init 129 = .ok (.aload_n 0, 1) := by decide +kernel
theorem dX9_init_130 : decode cX9_init 130 = .ok (.aload 6, 2) := by decide +kernel
theorem dX9_init_132 : decode cX9_init 132 = .ok (.putfield 41, 3) := by decide +kernel
theorem dX9_init_135 : decode cX9_init 135 = .ok (.aload_n 0, 1) := by decide +kernel
theorem dX9_init_136 : decode cX9_init 136 = .ok (.new 45, 3) := by decide +kernel
theorem dX9_init_139 : decode cX9_init 139 = .ok (.dup, 1) := by decide +kernel
theorem dX9_init_140 : decode cX9_init 140 = .ok (.invokespecial 47, 3) := by decide +kernel
theorem dX9_init_143 : decode cX9_init 143 = .ok (.putfield 48, 3) := by decide +kernel
theorem dX9_init_146 : decode cX9_init 146 = .ok (.aload_n 0, 1) := by decide +kernel
theorem dX9_init_147 : decode cX9_init 147 = .ok (.aload_n 2, 1) := by decide +kernel
theorem dX9_init_148 : decode cX9_init 148 = .ok (.putfield 52, 3) := by decide +kernel
theorem dX9_init_151 : decode cX9_init 151 = .ok (.aload_n 0, 1) := by decide +kernel
theorem dX9_init_152 : decode cX9_init 152 = .ok (.aload_n 3, 1) := by decide +kernel
theorem dX9_init_153 : decode cX9_init 153 = .ok (.putfield 55, 3) := by decide +kernel
theorem dX9_init_156 : decode cX9_init 156 = .ok (.aload_n 0, 1) := by decide +kernel
theorem dX9_init_157 : decode cX9_init 157 = .ok (.aload 4, 2) := by decide +kernel
theorem dX9_init_159 : decode cX9_init 159 = .ok (.putfield 59, 3) := by decide +kernel
theorem dX9_init_162 : decode cX9_init 162 = .ok (.aload_n 0, 1) := by decide +kernel
theorem dX9_init_163 : decode cX9_init 163 = .ok (.aload 7, 2) := by decide +kernel
theorem dX9_init_165 : decode cX9_init 165 = .ok (.putfield 62, 3) := by decide +kernel
theorem dX9_init_168 : decode cX9_init 168 = .ok (.aload_n 0, 1) := by decide +kernel
theorem dX9_init_169 : decode cX9_init 169 = .ok (.new 66, 3) := by decide +kernel
theorem dX9_init_172 : decode cX9_init 172 = .ok (.dup, 1) := by decide +kernel
theorem dX9_init_173 : decode cX9_init 173 = .ok (.invokespecial 68, 3) := by decide +kernel
theorem dX9_init_176 : decode cX9_init 176 = .ok (.putfield 69, 3) := by decide +kernel
theorem dX9_init_179 : decode cX9_init 179 = .ok (.aload_n 0, 1) := by decide +kernel
theorem dX9_init_180 : decode cX9_init 180 = .ok (.aload 5, 2) := by decide +kernel
theorem dX9_init_182 : decode cX9_init 182 = .ok (.putfield 73, 3) := by decide +kernel
theorem dX9_init_185 : decode cX9_init 185 = .ok (.aload_n 0, 1) := by decide +kernel
theorem dX9_init_186 : decode cX9_init 186 = .ok (.new 77, 3) := by decide +kernel
theorem dX9_init_189 : decode cX9_init 189 = .ok (.dup, 1) := by decide +kernel
theorem dX9_init_190 : decode cX9_init 190 = .ok (.aload_n 1, 1) := by decide +kernel
theorem dX9_init_191 : decode cX9_init 191 = .ok (.aload 5, 2) := by decide +kernel
theorem dX9_init_193 : decode cX9_init 193 = .ok (.aload 4, 2) := by decide +kernel
theorem dX9_init_195 : decode cX9_init 195 = .ok (.invokespecial 79, 3) := by decide +kernel
theorem dX9_init_198 : decode cX9_init 198 = .ok (.putfield 82, 3) := by decide +kernel
theorem dX9_init_201 : decode cX9_init 201 = .ok (.aload_n 0, 1) := by decide +kernel
theorem dX9_init_202 : decode cX9_init 202 = .ok (.new 86, 3) := by decide +kernel
theorem dX9_init_205 : decode cX9_init 205 = .ok (.dup, 1) := by decide +kernel
theorem dX9_init_206 : decode cX9_init 206 = .ok (.invokespecial 88, 3) := by decide +kernel
theorem dX9_init_209 : decode cX9_init 209 = .ok (.putfield 89, 3) := by decide +kernel
theorem dX9_init_212 : decode cX9_init 212 = .ok (.return_, 1) := by decide +kernel
theorem dX9_view_0 : decode cX9_view 0 = .ok (.iload_n 1, 1) := by decide +kernel
theorem dX9_view_1 : decode cX9_view 1 = .ok (.bipush 8, 2) := by decide +kernel
theorem dX9_view_3 : decode cX9_view 3 = .ok (.invokestatic 93, 3) := by decide +kernel
theorem dX9_view_6 : decode cX9_view 6 = .ok (.ifCond .ne 6, 3) := by decide +kernel
theorem dX9_view_9 : decode cX9_view 9 = .ok (.bipush (-2), 2) := by decide +kernel
theorem dX9_view_11 : decode cX9_view 11 = .ok (.ireturn, 1) := by decide +kernel
theorem dX9_view_12 : decode cX9_view 12 = .ok (.iload_n 2, 1) := by decide +kernel
theorem dX9_view_13 : decode cX9_view 13 = .ok (.sipush 256, 3) := by decide +kernel
theorem dX9_view_16 : decode cX9_view 16 = .ok (.invokestatic 93, 3) := by decide +kernel
theorem dX9_view_19 : decode cX9_view 19 = .ok (.ifCond .ne 6, 3) := by decide +kernel
theorem dX9_view_22 : decode cX9_view 22 = .ok (.bipush (-3), 2) := by decide +kernel
theorem dX9_view_24 : decode cX9_view 24 = .ok (.ireturn, 1) := by decide +kernel
theorem dX9_view_25 : decode cX9_view 25 = .ok (.aload_n 0, 1) := by decide +kernel
theorem dX9_view_26 : decode cX9_view 26 = .ok (.getfield 37, 3) := by decide +kernel
theorem dX9_view_29 : decode cX9_view 29 = .ok (.getfield 97, 3) := by decide +kernel
theorem dX9_view_32 : decode cX9_view 32 = .ok (.iload_n 1, 1) := by decide +kernel
theorem dX9_view_33 : decode cX9_view 33 = .ok (.iaload, 1) := by decide +kernel
theorem dX9_view_34 : decode cX9_view 34 = .ok (.istore_n 3, 1) := by decide +kernel
theorem dX9_view_35 : decode cX9_view 35 = .ok (.aload_n 0, 1) := by decide +kernel
theorem dX9_view_36 : decode cX9_view 36 = .ok (.getfield 37, 3) := by decide +kernel
theorem dX9_view_39 : decode cX9_view 39 = .ok (.getfield 97, 3) := by decide +kernel
theorem dX9_view_42 : decode cX9_view 42 = .ok (.iload_n 1, 1) := by decide +kernel
theorem dX9_view_43 : decode cX9_view 43 = .ok (.iload_n 2, 1) := by decide +kernel
theorem dX9_view_44 : decode cX9_view 44 = .ok (.iastore, 1) := by decide +kernel
theorem dX9_view_45 : decode cX9_view 45 = .ok (.iload_n 3, 1) := by decide +kernel
theorem dX9_view_46 : decode cX9_view 46 = .ok (.ireturn, 1) := by decide +kernel
theorem dX9_fact_0 : decode cX9_fact 0 = .ok (.iload_n 1, 1) := by decide +kernel
theorem dX9_fact_1 : decode cX9_fact 1 = .ok (.bipush 8, 2) := by decide +kernel
theorem dX9_fact_3 : decode cX9_fact 3 = .ok (.invokestatic 93, 3) := by decide +kernel
theorem dX9_fact_6 : decode cX9_fact 6 = .ok (.ifCond .eq 11, 3) := by decide +kernel
theorem dX9_fact_9 : decode cX9_fact 9 = .ok (.iload_n 2, 1) := by decide +kernel
theorem dX9_fact_10 : decode cX9_fact 10 = .ok (.iconst 4, 1) := by decide +kernel
theorem dX9_fact_11 : decode cX9_fact 11 = .ok (.invokestatic 93, 3) := by decide +kernel
theorem dX9_fact_14 : decode cX9_fact 14 = .ok (.ifCond .ne 6, 3) := by decide +kernel
theorem dX9_fact_17 : decode cX9_fact 17 = .ok (.bipush (-2), 2) := by decide +kernel
theorem dX9_fact_19 : decode cX9_fact 19 = .ok (.ireturn, 1) := by decide +kernel
theorem dX9_fact_20 : decode cX9_fact 20 = .ok (.iload_n 3, 1) := by decide +kernel
theorem dX9_fact_21 : decode cX9_fact 21 = .ok (.iload 4, 2) := by decide +kernel
theorem dX9_fact_23 : decode cX9_fact 23 = .ok (.invokestatic 100, 3) := by decide +kernel
theorem dX9_fact_26 : decode cX9_fact 26 = .ok (.ifCond .eq 16, 3) := by decide +kernel
theorem dX9_fact_29 : decode cX9_fact 29 = .ok (.iload 5, 2) := by decide +kernel
theorem dX9_fact_31 : decode cX9_fact 31 = .ok (.iconst 1, 1) := by decide +kernel
theorem dX9_fact_32 : decode cX9_fact 32 = .ok (.if_icmp .lt 10, 3) := by decide +kernel
theorem dX9_fact_35 : decode cX9_fact 35 = .ok (.iload 5, 2) := by decide +kernel
theorem dX9_fact_37 : decode cX9_fact 37 = .ok (.bipush 9, 2) := by decide +kernel
theorem dX9_fact_39 : decode cX9_fact 39 = .ok (.if_icmp .le 6, 3) := by decide +kernel
theorem dX9_fact_42 : decode cX9_fact 42 = .ok (.bipush (-3), 2) := by decide +kernel
theorem dX9_fact_44 : decode cX9_fact 44 = .ok (.ireturn, 1) := by decide +kernel
theorem dX9_fact_45 : decode cX9_fact 45 = .ok (.aload_n 0, 1) := by decide +kernel
theorem dX9_fact_46 : decode cX9_fact 46 = .ok (.getfield 37, 3) := by decide +kernel
theorem dX9_fact_49 : decode cX9_fact 49 = .ok (.iload_n 1, 1) := by decide +kernel
theorem dX9_fact_50 : decode cX9_fact 50 = .ok (.iload_n 2, 1) := by decide +kernel
theorem dX9_fact_51 : decode cX9_fact 51 = .ok (.iload_n 3, 1) := by decide +kernel
theorem dX9_fact_52 : decode cX9_fact 52 = .ok (.iload 4, 2) := by decide +kernel
theorem dX9_fact_54 : decode cX9_fact 54 = .ok (.iload 5, 2) := by decide +kernel
theorem dX9_fact_56 : decode cX9_fact 56 = .ok (.iload 6, 2) := by decide +kernel
theorem dX9_fact_58 : decode cX9_fact 58 = .ok (.invokevirtual 103, 3) := by decide +kernel
theorem dX9_fact_61 : decode cX9_fact 61 = .ok (.ireturn, 1) := by decide +kernel
theorem dX9_world_0 : decode cX9_world 0 = .ok (.iload_n 1, 1) := by decide +kernel
theorem dX9_world_1 : decode cX9_world 1 = .ok (.iload_n 2, 1) := by decide +kernel
theorem dX9_world_2 : decode cX9_world 2 = .ok (.iload_n 3, 1) := by decide +kernel
theorem dX9_world_3 : decode cX9_world 3 = .ok (.invokestatic 107, 3) := by decide +kernel
theorem dX9_world_6 : decode cX9_world 6 = .ok (.istore 4, 2) := by decide +kernel
theorem dX9_world_8 : decode cX9_world 8 = .ok (.iload 4, 2) := by decide +kernel
theorem dX9_world_10 : decode cX9_world 10 = .ok (.ifCond .eq 8, 3) := by decide +kernel
theorem dX9_world_13 : decode cX9_world 13 = .ok (.iload 4, 2) := by decide +kernel
theorem dX9_world_15 : decode cX9_world 15 = .ok (.goto 16, 3) := by decide +kernel
theorem dX9_world_18 : decode cX9_world 18 = .ok (.aload_n 0, 1) := by decide +kernel
theorem dX9_world_19 : decode cX9_world 19 = .ok (.getfield 37, 3) := by decide +kernel
theorem dX9_world_22 : decode cX9_world 22 = .ok (.iload_n 1, 1) := by decide +kernel
theorem dX9_world_23 : decode cX9_world 23 = .ok (.iload_n 2, 1) := by decide +kernel
theorem dX9_world_24 : decode cX9_world 24 = .ok (.iload_n 3, 1) := by decide +kernel
theorem dX9_world_25 : decode cX9_world 25 = .ok (.invokestatic 111, 3) := by decide +kernel
theorem dX9_world_28 : decode cX9_world 28 = .ok (.invokevirtual 114, 3) := by decide +kernel
theorem dX9_world_31 : decode cX9_world 31 = .ok (.ireturn, 1) := by decide +kernel
theorem dX9_home_0 : decode cX9_home 0 = .ok (.iload_n 1, 1) := by decide +kernel
theorem dX9_home_1 : decode cX9_home 1 = .ok (.bipush 6, 2) := by decide +kernel
theorem dX9_home_3 : decode cX9_home 3 = .ok (.invokestatic 93, 3) := by decide +kernel
theorem dX9_home_6 : decode cX9_home 6 = .ok (.ifCond .eq 12, 3) := by decide +kernel
theorem dX9_home_9 : decode cX9_home 9 = .ok (.iload_n 2, 1) := by decide +kernel
theorem dX9_home_10 : decode cX9_home 10 = .ok (.bipush 8, 2) := by decide +kernel
theorem dX9_home_12 : decode cX9_home 12 = .ok (.invokestatic 93, 3) := by decide +kernel
theorem dX9_home_15 : decode cX9_home 15 = .ok (.ifCond .ne 6, 3) := by decide +kernel
theorem dX9_home_18 : decode cX9_home 18 = .ok (.bipush (-2), 2) := by decide +kernel
theorem dX9_home_20 : decode cX9_home 20 = .ok (.ireturn, 1) := by decide +kernel
theorem dX9_home_21 : decode cX9_home 21 = .ok (.aload_n 0, 1) := by decide +kernel
theorem dX9_home_22 : decode cX9_home 22 = .ok (.getfield 41, 3) := by decide +kernel
theorem dX9_home_25 : decode cX9_home 25 = .ok (.iload_n 1, 1) := by decide +kernel
theorem dX9_home_26 : decode cX9_home 26 = .ok (.aaload, 1) := by decide +kernel
theorem dX9_home_27 : decode cX9_home 27 = .ok (.getfield 118, 3) := by decide +kernel
theorem dX9_home_30 : decode cX9_home 30 = .ok (.istore_n 3, 1) := by decide +kernel
theorem dX9_home_31 : decode cX9_home 31 = .ok (.aload_n 0, 1) := by decide +kernel
theorem dX9_home_32 : decode cX9_home 32 = .ok (.getfield 41, 3) := by decide +kernel
theorem dX9_home_35 : decode cX9_home 35 = .ok (.iload_n 1, 1) := by decide +kernel
theorem dX9_home_36 : decode cX9_home 36 = .ok (.aaload, 1) := by decide +kernel
theorem dX9_home_37 : decode cX9_home 37 = .ok (.iload_n 2, 1) := by decide +kernel
theorem dX9_home_38 : decode cX9_home 38 = .ok (.putfield 118, 3) := by decide +kernel
theorem dX9_home_41 : decode cX9_home 41 = .ok (.iload_n 3, 1) := by decide +kernel
theorem dX9_home_42 : decode cX9_home 42 = .ok (.ireturn, 1) := by decide +kernel
theorem dX9_write_0 : decode cX9_write 0 = .ok (.iload_n 3, 1) := by decide +kernel
theorem dX9_write_1 : decode cX9_write 1 = .ok (.iconst 1, 1) := by decide +kernel
theorem dX9_write_2 : decode cX9_write 2 = .ok (.if_icmp .lt 9, 3) := by decide +kernel
theorem dX9_write_5 : decode cX9_write 5 = .ok (.iload_n 3, 1) := by decide +kernel
theorem dX9_write_6 : decode cX9_write 6 = .ok (.bipush 8, 2) := by decide +kernel
theorem dX9_write_8 : decode cX9_write 8 = .ok (.if_icmp .le 6, 3) := by decide +kernel
theorem dX9_write_11 : decode cX9_write 11 = .ok (.bipush (-3), 2) := by decide +kernel
theorem dX9_write_13 : decode cX9_write 13 = .ok (.ireturn, 1) := by decide +kernel
theorem dX9_write_14 : decode cX9_write 14 = .ok (.aload_n 0, 1) := by decide +kernel
theorem dX9_write_15 : decode cX9_write 15 = .ok (.getfield 48, 3) := by decide +kernel
theorem dX9_write_18 : decode cX9_write 18 = .ok (.lload_n 1, 1) := by decide +kernel
theorem dX9_write_19 : decode cX9_write 19 = .ok (.iload_n 3, 1) := by decide +kernel
theorem dX9_write_20 : decode cX9_write 20 = .ok (.invokevirtual 122, 3) := by decide +kernel
theorem dX9_write_23 : decode cX9_write 23 = .ok (.ireturn, 1) := by decide +kernel
theorem dX9_erase_0 : decode cX9_erase 0 = .ok (.aload_n 0, 1) := by decide +kernel
theorem dX9_erase_1 : decode cX9_erase 1 = .ok (.getfield 48, 3) := by decide +kernel
theorem dX9_erase_4 : decode cX9_erase 4 = .ok (.invokevirtual 126, 3) := by decide +kernel
theorem dX9_erase_7 : decode cX9_erase 7 = .ok (.ireturn, 1) := by decide +kernel
theorem dX9_fault_0 : decode cX9_fault 0 = .ok (.iload_n 1, 1) := by decide +kernel
theorem dX9_fault_1 : decode cX9_fault 1 = .ok (.iconst 2, 1) := by decide +kernel
theorem dX9_fault_2 : decode cX9_fault 2 = .ok (.invokestatic 93, 3) := by decide +kernel
theorem dX9_fault_5 : decode cX9_fault 5 = .ok (.ifCond .ne 6, 3) := by decide +kernel
theorem dX9_fault_8 : decode cX9_fault 8 = .ok (.bipush (-3), 2) := by decide +kernel
theorem dX9_fault_10 : decode cX9_fault 10 = .ok (.ireturn, 1) := by decide +kernel
theorem dX9_fault_11 : decode cX9_fault 11 = .ok (.aload_n 0, 1) := by decide +kernel
theorem dX9_fault_12 : decode cX9_fault 12 = .ok (.getfield 48, 3) := by decide +kernel
theorem dX9_fault_15 : decode cX9_fault 15 = .ok (.iload_n 1, 1) := by decide +kernel
theorem dX9_fault_16 : decode cX9_fault 16 = .ok (.ifCond .ne 7, 3) := by decide +kernel
theorem dX9_fault_19 : decode cX9_fault 19 = .ok (.iconst 1, 1) := by decide +kernel
theorem dX9_fault_20 : decode cX9_fault 20 = .ok (.goto 4, 3) := by decide +kernel
theorem dX9_fault_23 : decode cX9_fault 23 = .ok (.iconst 0, 1) := by decide +kernel
theorem dX9_fault_24 : decode cX9_fault 24 = .ok (.invokevirtual 130, 3) := by decide +kernel
theorem dX9_fault_27 : decode cX9_fault 27 = .ok (.ireturn, 1) := by decide +kernel
theorem dX9_life_0 : decode cX9_life 0 = .ok (.iload_n 1, 1) := by decide +kernel
theorem dX9_life_1 : decode cX9_life 1 = .ok (.bipush 6, 2) := by decide +kernel
theorem dX9_life_3 : decode cX9_life 3 = .ok (.invokestatic 93, 3) := by decide +kernel
theorem dX9_life_6 : decode cX9_life 6 = .ok (.ifCond .ne 6, 3) := by decide +kernel
theorem dX9_life_9 : decode cX9_life 9 = .ok (.bipush (-2), 2) := by decide +kernel
theorem dX9_life_11 : decode cX9_life 11 = .ok (.ireturn, 1) := by decide +kernel
theorem dX9_life_12 : decode cX9_life 12 = .ok (.aload_n 0, 1) := by decide +kernel
theorem dX9_life_13 : decode cX9_life 13 = .ok (.getfield 48, 3) := by decide +kernel
theorem dX9_life_16 : decode cX9_life 16 = .ok (.iconst 1, 1) := by decide +kernel
theorem dX9_life_17 : decode cX9_life 17 = .ok (.invokevirtual 130, 3) := by decide +kernel
theorem dX9_life_20 : decode cX9_life 20 = .ok (.iconst (-1), 1) := by decide +kernel
theorem dX9_life_21 : decode cX9_life 21 = .ok (.if_icmp .eq 6, 3) := by decide +kernel
theorem dX9_life_24 : decode cX9_life 24 = .ok (.bipush (-4), 2) := by decide +kernel
theorem dX9_life_26 : decode cX9_life 26 = .ok (.ireturn, 1) := by decide +kernel
theorem dX9_life_27 : decode cX9_life 27 = .ok (.aload_n 0, 1) := by decide +kernel
theorem dX9_life_28 : decode cX9_life 28 = .ok (.getfield 48, 3) := by decide +kernel
theorem dX9_life_31 : decode cX9_life 31 = .ok (.invokevirtual 126, 3) := by decide +kernel
theorem dX9_life_34 : decode cX9_life 34 = .ok (.pop, 1) := by decide +kernel
theorem dX9_life_35 : decode cX9_life 35 = .ok (.aload_n 0, 1) := by decide +kernel
theorem dX9_life_36 : decode cX9_life 36 = .ok (.getfield 41, 3) := by decide +kernel
theorem dX9_life_39 : decode cX9_life 39 = .ok (.iload_n 1, 1) := by decide +kernel
theorem dX9_life_40 : decode cX9_life 40 = .ok (.aaload, 1) := by decide +kernel
theorem dX9_life_41 : decode cX9_life 41 = .ok (.aload_n 0, 1) := by decide +kernel
theorem dX9_life_42 : decode cX9_life 42 = .ok (.getfield 48, 3) := by decide +kernel
theorem dX9_life_45 : decode cX9_life 45 = .ok (.invokevirtual 134, 3) := by decide +kernel
theorem dX9_life_48 : decode cX9_life 48 = .ok (.ireturn, 1) := by decide +kernel
theorem dX9_table_0 : decode cX9_table 0 = .ok (.iload_n 1, 1) := by decide +kernel
theorem dX9_table_1 : decode cX9_table 1 = .ok (.iconst 2, 1) := by decide +kernel
theorem dX9_table_2 : decode cX9_table 2 = .ok (.invokestatic 93, 3) := by decide +kernel
theorem dX9_table_5 : decode cX9_table 5 = .ok (.ifCond .ne 6, 3) := by decide +kernel
theorem dX9_table_8 : decode cX9_table 8 = .ok (.bipush (-2), 2) := by decide +kernel
theorem dX9_table_10 : decode cX9_table 10 = .ok (.ireturn, 1) := by decide +kernel
theorem dX9_table_11 : decode cX9_table 11 = .ok (.aload_n 0, 1) := by decide +kernel
theorem dX9_table_12 : decode cX9_table 12 = .ok (.getfield 48, 3) := by decide +kernel
theorem dX9_table_15 : decode cX9_table 15 = .ok (.iconst 0, 1) := by decide +kernel
theorem dX9_table_16 : decode cX9_table 16 = .ok (.invokevirtual 130, 3) := by decide +kernel
theorem dX9_table_19 : decode cX9_table 19 = .ok (.iconst (-1), 1) := by decide +kernel
theorem dX9_table_20 : decode cX9_table 20 = .ok (.if_icmp .eq 6, 3) := by decide +kernel
theorem dX9_table_23 : decode cX9_table 23 = .ok (.bipush (-4), 2) := by decide +kernel
theorem dX9_table_25 : decode cX9_table 25 = .ok (.ireturn, 1) := by decide +kernel
theorem dX9_table_26 : decode cX9_table 26 = .ok (.aload_n 0, 1) := by decide +kernel
theorem dX9_table_27 : decode cX9_table 27 = .ok (.getfield 48, 3) := by decide +kernel
theorem dX9_table_30 : decode cX9_table 30 = .ok (.invokevirtual 126, 3) := by decide +kernel
theorem dX9_table_33 : decode cX9_table 33 = .ok (.pop, 1) := by decide +kernel
theorem dX9_table_34 : decode cX9_table 34 = .ok (.aload_n 0, 1) := by decide +kernel
theorem dX9_table_35 : decode cX9_table 35 = .ok (.getfield 62, 3) := by decide +kernel
theorem dX9_table_38 : decode cX9_table 38 = .ok (.iload_n 1, 1) := by decide +kernel
theorem dX9_table_39 : decode cX9_table 39 = .ok (.aaload, 1) := by decide +kernel
theorem dX9_table_40 : decode cX9_table 40 = .ok (.aload_n 0, 1) := by decide +kernel
theorem dX9_table_41 : decode cX9_table 41 = .ok (.getfield 48, 3) := by decide +kernel
theorem dX9_table_44 : decode cX9_table 44 = .ok (.invokevirtual 138, 3) := by decide +kernel
theorem dX9_table_47 : decode cX9_table 47 = .ok (.ireturn, 1) := by decide +kernel
theorem dX9_where_0 : decode cX9_where 0 = .ok (.iload_n 1, 1) := by decide +kernel
theorem dX9_where_1 : decode cX9_where 1 = .ok (.bipush 6, 2) := by decide +kernel
theorem dX9_where_3 : decode cX9_where 3 = .ok (.iload_n 2, 1) := by decide +kernel
theorem dX9_where_4 : decode cX9_where 4 = .ok (.invokestatic 141, 3) := by decide +kernel
theorem dX9_where_7 : decode cX9_where 7 = .ok (.istore_n 3, 1) := by decide +kernel
theorem dX9_where_8 : decode cX9_where 8 = .ok (.iload_n 3, 1) := by decide +kernel
theorem dX9_where_9 : decode cX9_where 9 = .ok (.ifCond .eq 7, 3) := by decide +kernel
theorem dX9_where_12 : decode cX9_where 12 = .ok (.iload_n 3, 1) := by decide +kernel
theorem dX9_where_13 : decode cX9_where 13 = .ok (.goto 13, 3) := by decide +kernel
theorem dX9_where_16 : decode cX9_where 16 = .ok (.aload_n 0, 1) := by decide +kernel
theorem dX9_where_17 : decode cX9_where 17 = .ok (.getfield 41, 3) := by decide +kernel
theorem dX9_where_20 : decode cX9_where 20 = .ok (.iload_n 1, 1) := by decide +kernel
theorem dX9_where_21 : decode cX9_where 21 = .ok (.aaload, 1) := by decide +kernel
theorem dX9_where_22 : decode cX9_where 22 = .ok (.iload_n 2, 1) := by decide +kernel
theorem dX9_where_23 : decode cX9_where 23 = .ok (.invokevirtual 144, 3) := by decide +kernel
theorem dX9_where_26 : decode cX9_where 26 = .ok (.ireturn, 1) := by decide +kernel
theorem dX9_saw_0 : decode cX9_saw 0 = .ok (.iload_n 1, 1) := by decide +kernel
theorem dX9_saw_1 : decode cX9_saw 1 = .ok (.bipush 6, 2) := by decide +kernel
theorem dX9_saw_3 : decode cX9_saw 3 = .ok (.iload_n 2, 1) := by decide +kernel
theorem dX9_saw_4 : decode cX9_saw 4 = .ok (.invokestatic 141, 3) := by decide +kernel
theorem dX9_saw_7 : decode cX9_saw 7 = .ok (.istore_n 3, 1) := by decide +kernel
theorem dX9_saw_8 : decode cX9_saw 8 = .ok (.iload_n 3, 1) := by decide +kernel
theorem dX9_saw_9 : decode cX9_saw 9 = .ok (.ifCond .eq 7, 3) := by decide +kernel
theorem dX9_saw_12 : decode cX9_saw 12 = .ok (.iload_n 3, 1) := by decide +kernel
theorem dX9_saw_13 : decode cX9_saw 13 = .ok (.goto 17, 3) := by decide +kernel
theorem dX9_saw_16 : decode cX9_saw 16 = .ok (.aload_n 0, 1) := by decide +kernel
theorem dX9_saw_17 : decode cX9_saw 17 = .ok (.getfield 37, 3) := by decide +kernel
theorem dX9_saw_20 : decode cX9_saw 20 = .ok (.aload_n 0, 1) := by decide +kernel
theorem dX9_saw_21 : decode cX9_saw 21 = .ok (.getfield 41, 3) := by decide +kernel
theorem dX9_saw_24 : decode cX9_saw 24 = .ok (.iload_n 1, 1) := by decide +kernel
theorem dX9_saw_25 : decode cX9_saw 25 = .ok (.aaload, 1) := by decide +kernel
theorem dX9_saw_26 : decode cX9_saw 26 = .ok (.iload_n 2, 1) := by decide +kernel
theorem dX9_saw_27 : decode cX9_saw 27 = .ok (.invokevirtual 147, 3) := by decide +kernel
theorem dX9_saw_30 : decode cX9_saw 30 = .ok (.ireturn, 1) := by decide +kernel
theorem dX9_post_0 : decode cX9_post 0 = .ok (.iload_n 1, 1) := by decide +kernel
theorem dX9_post_1 : decode cX9_post 1 = .ok (.iconst 3, 1) := by decide +kernel
theorem dX9_post_2 : decode cX9_post 2 = .ok (.invokestatic 93, 3) := by decide +kernel
theorem dX9_post_5 : decode cX9_post 5 = .ok (.ifCond .ne 6, 3) := by decide +kernel
theorem dX9_post_8 : decode cX9_post 8 = .ok (.bipush (-2), 2) := by decide +kernel
theorem dX9_post_10 : decode cX9_post 10 = .ok (.ireturn, 1) := by decide +kernel
theorem dX9_post_11 : decode cX9_post 11 = .ok (.iload_n 2, 1) := by decide +kernel
theorem dX9_post_12 : decode cX9_post 12 = .ok (.ifCond .lt 9, 3) := by decide +kernel
theorem dX9_post_15 : decode cX9_post 15 = .ok (.iload_n 2, 1) := by decide +kernel
theorem dX9_post_16 : decode cX9_post 16 = .ok (.bipush 20, 2) := by decide +kernel
theorem dX9_post_18 : decode cX9_post 18 = .ok (.if_icmp .le 6, 3) := by decide +kernel
theorem dX9_post_21 : decode cX9_post 21 = .ok (.bipush (-3), 2) := by decide +kernel
theorem dX9_post_23 : decode cX9_post 23 = .ok (.ireturn, 1) := by decide +kernel
theorem dX9_post_24 : decode cX9_post 24 = .ok (.aload_n 0, 1) := by decide +kernel
theorem dX9_post_25 : decode cX9_post 25 = .ok (.getfield 52, 3) := by decide +kernel
theorem dX9_post_28 : decode cX9_post 28 = .ok (.iload_n 1, 1) := by decide +kernel
theorem dX9_post_29 : decode cX9_post 29 = .ok (.iaload, 1) := by decide +kernel
theorem dX9_post_30 : decode cX9_post 30 = .ok (.istore_n 3, 1) := by decide +kernel
theorem dX9_post_31 : decode cX9_post 31 = .ok (.aload_n 0, 1) := by decide +kernel
theorem dX9_post_32 : decode cX9_post 32 = .ok (.getfield 52, 3) := by decide +kernel
theorem dX9_post_35 : decode cX9_post 35 = .ok (.iload_n 1, 1) := by decide +kernel
theorem dX9_post_36 : decode cX9_post 36 = .ok (.iload_n 2, 1) := by decide +kernel
theorem dX9_post_37 : decode cX9_post 37 = .ok (.iastore, 1) := by decide +kernel
theorem dX9_post_38 : decode cX9_post 38 = .ok (.iload_n 3, 1) := by decide +kernel
theorem dX9_post_39 : decode cX9_post 39 = .ok (.ireturn, 1) := by decide +kernel
theorem dX9_send_0 : decode cX9_send 0 = .ok (.iload_n 1, 1) := by decide +kernel
theorem dX9_send_1 : decode cX9_send 1 = .ok (.iload_n 2, 1) := by decide +kernel
theorem dX9_send_2 : decode cX9_send 2 = .ok (.iload_n 3, 1) := by decide +kernel
theorem dX9_send_3 : decode cX9_send 3 = .ok (.iload 4, 2) := by decide +kernel
theorem dX9_send_5 : decode cX9_send 5 = .ok (.iload 5, 2) := by decide +kernel
theorem dX9_send_7 : decode cX9_send 7 = .ok (.iload 6, 2) := by decide +kernel
theorem dX9_send_9 : decode cX9_send 9 = .ok (.iload 7, 2) := by decide +kernel
theorem dX9_send_11 : decode cX9_send 11 = .ok (.invokestatic 151, 3) := by decide +kernel
theorem dX9_send_14 : decode cX9_send 14 = .ok (.istore 8, 2) := by decide +kernel
theorem dX9_send_16 : decode cX9_send 16 = .ok (.iload 8, 2) := by decide +kernel
theorem dX9_send_18 : decode cX9_send 18 = .ok (.ifCond .eq 8, 3) := by decide +kernel
theorem dX9_send_21 : decode cX9_send 21 = .ok (.iload 8, 2) := by decide +kernel
theorem dX9_send_23 : decode cX9_send 23 = .ok (.goto 24, 3) := by decide +kernel
theorem dX9_send_26 : decode cX9_send 26 = .ok (.aload_n 0, 1) := by decide +kernel
theorem dX9_send_27 : decode cX9_send 27 = .ok (.getfield 55, 3) := by decide +kernel
theorem dX9_send_30 : decode cX9_send 30 = .ok (.iload_n 1, 1) := by decide +kernel
theorem dX9_send_31 : decode cX9_send 31 = .ok (.iload_n 2, 1) := by decide +kernel
theorem dX9_send_32 : decode cX9_send 32 = .ok (.iload_n 3, 1) := by decide +kernel
theorem dX9_send_33 : decode cX9_send 33 = .ok (.iload 4, 2) := by decide +kernel
theorem dX9_send_35 : decode cX9_send 35 = .ok (.iload 5, 2) := by decide +kernel
theorem dX9_send_37 : decode cX9_send 37 = .ok (.iload 6, 2) := by decide +kernel
theorem dX9_send_39 : decode cX9_send 39 = .ok (.invokestatic 111, 3) := by decide +kernel
theorem dX9_send_42 : decode cX9_send 42 = .ok (.iload 7, 2) := by decide +kernel
theorem dX9_send_44 : decode cX9_send 44 = .ok (.invokevirtual 155, 3) := by decide +kernel
theorem dX9_send_47 : decode cX9_send 47 = .ok (.ireturn, 1) := by decide +kernel
theorem dX9_right_0 : decode cX9_right 0 = .ok (.iload_n 1, 1) := by decide +kernel
theorem dX9_right_1 : decode cX9_right 1 = .ok (.aload_n 0, 1) := by decide +kernel
theorem dX9_right_2 : decode cX9_right 2 = .ok (.getfield 55, 3) := by decide +kernel
theorem dX9_right_5 : decode cX9_right 5 = .ok (.getfield 159, 3) := by decide +kernel
theorem dX9_right_8 : decode cX9_right 8 = .ok (.invokestatic 93, 3) := by decide +kernel
theorem dX9_right_11 : decode cX9_right 11 = .ok (.ifCond .ne 6, 3) := by decide +kernel
theorem dX9_right_14 : decode cX9_right 14 = .ok (.bipush (-2), 2) := by decide +kernel
theorem dX9_right_16 : decode cX9_right 16 = .ok (.ireturn, 1) := by decide +kernel
theorem dX9_right_17 : decode cX9_right 17 = .ok (.aload_n 0, 1) := by decide +kernel
theorem dX9_right_18 : decode cX9_right 18 = .ok (.getfield 37, 3) := by decide +kernel
theorem dX9_right_21 : decode cX9_right 21 = .ok (.aload_n 0, 1) := by decide +kernel
theorem dX9_right_22 : decode cX9_right 22 = .ok (.getfield 55, 3) := by decide +kernel
theorem dX9_right_25 : decode cX9_right 25 = .ok (.getfield 162, 3) := by decide +kernel
theorem dX9_right_28 : decode cX9_right 28 = .ok (.iload_n 1, 1) := by decide +kernel
theorem dX9_right_29 : decode cX9_right 29 = .ok (.iaload, 1) := by decide +kernel
theorem dX9_right_30 : decode cX9_right 30 = .ok (.invokevirtual 114, 3) := by decide +kernel
theorem dX9_right_33 : decode cX9_right 33 = .ok (.aload_n 0, 1) := by decide +kernel
theorem dX9_right_34 : decode cX9_right 34 = .ok (.getfield 55, 3) := by decide +kernel
theorem dX9_right_37 : decode cX9_right 37 = .ok (.getfield 165, 3) := by decide +kernel
theorem dX9_right_40 : decode cX9_right 40 = .ok (.iload_n 1, 1) := by decide +kernel
theorem dX9_right_41 : decode cX9_right 41 = .ok (.iaload, 1) := by decide +kernel
theorem dX9_right_42 : decode cX9_right 42 = .ok (.if_icmp .ne 7, 3) := by decide +kernel
theorem dX9_right_45 : decode cX9_right 45 = .ok (.iconst 1, 1) := by decide +kernel
theorem dX9_right_46 : decode cX9_right 46 = .ok (.goto 4, 3) := by decide +kernel
theorem dX9_right_49 : decode cX9_right 49 = .ok (.iconst 0, 1) := by decide +kernel
theorem dX9_right_50 : decode cX9_right 50 = .ok (.ireturn, 1) := by decide +kernel
theorem dX9_comes_0 : decode cX9_comes 0 = .ok (.iload_n 1, 1) := by decide +kernel
theorem dX9_comes_1 : decode cX9_comes 1 = .ok (.aload_n 0, 1) := by decide +kernel
theorem dX9_comes_2 : decode cX9_comes 2 = .ok (.getfield 55, 3) := by decide +kernel
theorem dX9_comes_5 : decode cX9_comes 5 = .ok (.getfield 159, 3) := by decide +kernel
theorem dX9_comes_8 : decode cX9_comes 8 = .ok (.invokestatic 93, 3) := by decide +kernel
theorem dX9_comes_11 : decode cX9_comes 11 = .ok (.ifCond .eq 14, 3) := by decide +kernel
theorem dX9_comes_14 : decode cX9_comes 14 = .ok (.aload_n 0, 1) := by decide +kernel
theorem dX9_comes_15 : decode cX9_comes 15 = .ok (.getfield 55, 3) := by decide +kernel
theorem dX9_comes_18 : decode cX9_comes 18 = .ok (.iload_n 1, 1) := by decide +kernel
theorem dX9_comes_19 : decode cX9_comes 19 = .ok (.invokevirtual 168, 3) := by decide +kernel
theorem dX9_comes_22 : decode cX9_comes 22 = .ok (.goto 5, 3) := by decide +kernel
theorem dX9_comes_25 : decode cX9_comes 25 = .ok (.bipush (-2), 2) := by decide +kernel
theorem dX9_comes_27 : decode cX9_comes 27 = .ok (.ireturn, 1) := by decide +kernel
theorem dX9_slips_0 : decode cX9_slips 0 = .ok (.iload_n 1, 1) := by decide +kernel
theorem dX9_slips_1 : decode cX9_slips 1 = .ok (.aload_n 0, 1) := by decide +kernel
theorem dX9_slips_2 : decode cX9_slips 2 = .ok (.getfield 55, 3) := by decide +kernel
theorem dX9_slips_5 : decode cX9_slips 5 = .ok (.getfield 159, 3) := by decide +kernel
theorem dX9_slips_8 : decode cX9_slips 8 = .ok (.invokestatic 93, 3) := by decide +kernel
theorem dX9_slips_11 : decode cX9_slips 11 = .ok (.ifCond .ne 6, 3) := by decide +kernel
theorem dX9_slips_14 : decode cX9_slips 14 = .ok (.bipush (-2), 2) := by decide +kernel
theorem dX9_slips_16 : decode cX9_slips 16 = .ok (.ireturn, 1) := by decide +kernel
theorem dX9_slips_17 : decode cX9_slips 17 = .ok (.aload_n 0, 1) := by decide +kernel
theorem dX9_slips_18 : decode cX9_slips 18 = .ok (.getfield 55, 3) := by decide +kernel
theorem dX9_slips_21 : decode cX9_slips 21 = .ok (.getfield 162, 3) := by decide +kernel
theorem dX9_slips_24 : decode cX9_slips 24 = .ok (.iload_n 1, 1) := by decide +kernel
theorem dX9_slips_25 : decode cX9_slips 25 = .ok (.iaload, 1) := by decide +kernel
theorem dX9_slips_26 : decode cX9_slips 26 = .ok (.invokestatic 171, 3) := by decide +kernel
theorem dX9_slips_29 : decode cX9_slips 29 = .ok (.istore_n 2, 1) := by decide +kernel
theorem dX9_slips_30 : decode cX9_slips 30 = .ok (.aload_n 0, 1) := by decide +kernel
theorem dX9_slips_31 : decode cX9_slips 31 = .ok (.getfield 37, 3) := by decide +kernel
theorem dX9_slips_34 : decode cX9_slips 34 = .ok (.aload_n 0, 1) := by decide +kernel
theorem dX9_slips_35 : decode cX9_slips 35 = .ok (.getfield 41, 3) := by decide +kernel
theorem dX9_slips_38 : decode cX9_slips 38 = .ok (.aload_n 0, 1) := by decide +kernel
theorem dX9_slips_39 : decode cX9_slips 39 = .ok (.getfield 55, 3) := by decide +kernel
theorem dX9_slips_42 : decode cX9_slips 42 = .ok (.getfield 174, 3) := by decide +kernel
theorem dX9_slips_45 : decode cX9_slips 45 = .ok (.iload_n 1, 1) := by decide +kernel
theorem dX9_slips_46 : decode cX9_slips 46 = .ok (.iaload, 1) := by decide +kernel
theorem dX9_slips_47 : decode cX9_slips 47 = .ok (.aaload, 1) := by decide +kernel
theorem dX9_slips_48 : decode cX9_slips 48 = .ok (.iload_n 2, 1) := by decide +kernel
theorem dX9_slips_49 : decode cX9_slips 49 = .ok (.invokevirtual 147, 3) := by decide +kernel
theorem dX9_slips_52 : decode cX9_slips 52 = .ok (.istore_n 3, 1) := by decide +kernel
theorem dX9_slips_53 : decode cX9_slips 53 = .ok (.iload_n 3, 1) := by decide +kernel
theorem dX9_slips_54 : decode cX9_slips 54 = .ok (.aload_n 0, 1) := by decide +kernel
theorem dX9_slips_55 : decode cX9_slips 55 = .ok (.getfield 55, 3) := by decide +kernel
theorem dX9_slips_58 : decode cX9_slips 58 = .ok (.getfield 162, 3) := by decide +kernel
theorem dX9_slips_61 : decode cX9_slips 61 = .ok (.iload_n 1, 1) := by decide +kernel
theorem dX9_slips_62 : decode cX9_slips 62 = .ok (.iaload, 1) := by decide +kernel
theorem dX9_slips_63 : decode cX9_slips 63 = .ok (.invokestatic 177, 3) := by decide +kernel
theorem dX9_slips_66 : decode cX9_slips 66 = .ok (.invokestatic 180, 3) := by decide +kernel
theorem dX9_slips_69 : decode cX9_slips 69 = .ok (.ifCond .eq 7, 3) := by decide +kernel
theorem dX9_slips_72 : decode cX9_slips 72 = .ok (.iconst 0, 1) := by decide +kernel
theorem dX9_slips_73 : decode cX9_slips 73 = .ok (.goto 4, 3) := by decide +kernel
theorem dX9_slips_76 : decode cX9_slips 76 = .ok (.iconst 1, 1) := by decide +kernel
theorem dX9_slips_77 : decode cX9_slips 77 = .ok (.istore 4, 2) := by decide +kernel
theorem dX9_slips_79 : decode cX9_slips 79 = .ok (.iload_n 2, 1) := by decide +kernel
theorem dX9_slips_80 : decode cX9_slips 80 = .ok (.aload_n 0, 1) := by decide +kernel
theorem dX9_slips_81 : decode cX9_slips 81 = .ok (.getfield 55, 3) := by decide +kernel
theorem dX9_slips_84 : decode cX9_slips 84 = .ok (.getfield 183, 3) := by decide +kernel
theorem dX9_slips_87 : decode cX9_slips 87 = .ok (.iload_n 1, 1) := by decide +kernel
theorem dX9_slips_88 : decode cX9_slips 88 = .ok (.iaload, 1) := by decide +kernel
theorem dX9_slips_89 : decode cX9_slips 89 = .ok (.if_icmp .le 7, 3) := by decide +kernel
theorem dX9_slips_92 : decode cX9_slips 92 = .ok (.iconst 2, 1) := by decide +kernel
theorem dX9_slips_93 : decode cX9_slips 93 = .ok (.goto 4, 3) := by decide +kernel
theorem dX9_slips_96 : decode cX9_slips 96 = .ok (.iconst 0, 1) := by decide +kernel
theorem dX9_slips_97 : decode cX9_slips 97 = .ok (.istore 5, 2) := by decide +kernel
theorem dX9_slips_99 : decode cX9_slips 99 = .ok (.iload 4, 2) := by decide +kernel
theorem dX9_slips_101 : decode cX9_slips 101 = .ok (.iload 5, 2) := by decide +kernel
theorem dX9_slips_103 : decode cX9_slips 103 = .ok (.ior, 1) := by decide +kernel
theorem dX9_slips_104 : decode cX9_slips 104 = .ok (.aload_n 0, 1) := by decide +kernel
theorem dX9_slips_105 : decode cX9_slips 105 = .ok (.getfield 55, 3) := by decide +kernel
theorem dX9_slips_108 : decode cX9_slips 108 = .ok (.iload_n 1, 1) := by decide +kernel
theorem dX9_slips_109 : decode cX9_slips 109 = .ok (.invokevirtual 186, 3) := by decide +kernel
theorem dX9_slips_112 : decode cX9_slips 112 = .ok (.ior, 1) := by decide +kernel
theorem dX9_slips_113 : decode cX9_slips 113 = .ok (.ireturn, 1) := by decide +kernel
theorem dX9_lacks_0 : decode cX9_lacks 0 = .ok (.iload_n 1, 1) := by decide +kernel
theorem dX9_lacks_1 : decode cX9_lacks 1 = .ok (.bipush 6, 2) := by decide +kernel
theorem dX9_lacks_3 : decode cX9_lacks 3 = .ok (.iload_n 2, 1) := by decide +kernel
theorem dX9_lacks_4 : decode cX9_lacks 4 = .ok (.invokestatic 141, 3) := by decide +kernel
theorem dX9_lacks_7 : decode cX9_lacks 7 = .ok (.istore_n 3, 1) := by decide +kernel
theorem dX9_lacks_8 : decode cX9_lacks 8 = .ok (.iload_n 3, 1) := by decide +kernel
theorem dX9_lacks_9 : decode cX9_lacks 9 = .ok (.ifCond .eq 5, 3) := by decide +kernel
theorem dX9_lacks_12 : decode cX9_lacks 12 = .ok (.iload_n 3, 1) := by decide +kernel
theorem dX9_lacks_13 : decode cX9_lacks 13 = .ok (.ireturn, 1) := by decide +kernel
theorem dX9_lacks_14 : decode cX9_lacks 14 = .ok (.iconst 0, 1) := by decide +kernel
theorem dX9_lacks_15 : decode cX9_lacks 15 = .ok (.istore 4, 2) := by decide +kernel
theorem dX9_lacks_17 : decode cX9_lacks 17 = .ok (.iconst 0, 1) := by decide +kernel
theorem dX9_lacks_18 : decode cX9_lacks 18 = .ok (.istore 5, 2) := by decide +kernel
theorem dX9_lacks_20 : decode cX9_lacks 20 = .ok (.iload 5, 2) := by decide +kernel
theorem dX9_lacks_22 : decode cX9_lacks 22 = .ok (.aload_n 0, 1) := by decide +kernel
theorem dX9_lacks_23 : decode cX9_lacks 23 = .ok (.getfield 37, 3) := by decide +kernel
theorem dX9_lacks_26 : decode cX9_lacks 26 = .ok (.getfield 189, 3) := by decide +kernel
theorem dX9_lacks_29 : decode cX9_lacks 29 = .ok (.if_icmp .ge 55, 3) := by decide +kernel
theorem dX9_lacks_32 : decode cX9_lacks 32 = .ok (.aload_n 0, 1) := by decide +kernel
theorem dX9_lacks_33 : decode cX9_lacks 33 = .ok (.getfield 37, 3) := by decide +kernel
theorem dX9_lacks_36 : decode cX9_lacks 36 = .ok (.iload 5, 2) := by decide +kernel
theorem dX9_lacks_38 : decode cX9_lacks 38 = .ok (.aload_n 0, 1) := by decide +kernel
end
section
theorem dX9_lacks_39 : decode cX9_lacks 39 = .ok (.getfield 41, 3) := by decide +kernel
theorem dX9_lacks_42 : decode cX9_lacks 42 = .ok (.iload_n 1, 1) := by decide +kernel
theorem dX9_lacks_43 : decode cX9_lacks 43 = .ok (.aaload, 1) := by decide +kernel
theorem dX9_lacks_44 : decode cX9_lacks 44 = .ok (.iload_n 2, 1) := by decide +kernel
theorem dX9_lacks_45 : decode cX9_lacks 45 = .ok (.invokevirtual 192, 3) := by decide +kernel
theorem dX9_lacks_48 : decode cX9_lacks 48 = .ok (.ifCond .eq 30, 3) := by decide +kernel
theorem dX9_lacks_51 : decode cX9_lacks 51 = .ok (.aload_n 0, 1) := by decide +kernel
theorem dX9_lacks_52 : decode cX9_lacks 52 = .ok (.getfield 55, 3) := by decide +kernel
theorem dX9_lacks_55 : decode cX9_lacks 55 = .ok (.aload_n 0, 1) := by decide +kernel
theorem dX9_lacks_56 : decode cX9_lacks 56 = .ok (.getfield 37, 3) := by decide +kernel
theorem dX9_lacks_59 : decode cX9_lacks 59 = .ok (.iload 5, 2) := by decide +kernel
theorem dX9_lacks_61 : decode cX9_lacks 61 = .ok (.iload_n 1, 1) := by decide +kernel
theorem dX9_lacks_62 : decode cX9_lacks 62 = .ok (.iload_n 2, 1) := by decide +kernel
theorem dX9_lacks_63 : decode cX9_lacks 63 = .ok (.invokevirtual 196, 3) := by decide +kernel
theorem dX9_lacks_66 : decode cX9_lacks 66 = .ok (.ifCond .ne 12, 3) := by decide +kernel
theorem dX9_lacks_69 : decode cX9_lacks 69 = .ok (.iload 4, 2) := by decide +kernel
theorem dX9_lacks_71 : decode cX9_lacks 71 = .ok (.iconst 1, 1) := by decide +kernel
theorem dX9_lacks_72 : decode cX9_lacks 72 = .ok (.iload 5, 2) := by decide +kernel
theorem dX9_lacks_74 : decode cX9_lacks 74 = .ok (.ishl, 1) := by decide +kernel
theorem dX9_lacks_75 : decode cX9_lacks 75 = .ok (.ior, 1) := by decide +kernel
theorem dX9_lacks_76 : decode cX9_lacks 76 = .ok (.istore 4, 2) := by decide +kernel
theorem dX9_lacks_78 : decode cX9_lacks 78 = .ok (.iinc 5 1, 3) := by decide +kernel
theorem dX9_lacks_81 : decode cX9_lacks 81 = .ok (.goto (-61), 3) := by decide +kernel
theorem dX9_lacks_84 : decode cX9_lacks 84 = .ok (.iload 4, 2) := by decide +kernel
theorem dX9_lacks_86 : decode cX9_lacks 86 = .ok (.ireturn, 1) := by decide +kernel
theorem dX9_ill_0 : decode cX9_ill 0 = .ok (.iload_n 1, 1) := by decide +kernel
theorem dX9_ill_1 : decode cX9_ill 1 = .ok (.bipush 6, 2) := by decide +kernel
theorem dX9_ill_3 : decode cX9_ill 3 = .ok (.invokestatic 93, 3) := by decide +kernel
theorem dX9_ill_6 : decode cX9_ill 6 = .ok (.ifCond .ne 6, 3) := by decide +kernel
theorem dX9_ill_9 : decode cX9_ill 9 = .ok (.bipush (-2), 2) := by decide +kernel
theorem dX9_ill_11 : decode cX9_ill 11 = .ok (.ireturn, 1) := by decide +kernel
theorem dX9_ill_12 : decode cX9_ill 12 = .ok (.iconst 0, 1) := by decide +kernel
theorem dX9_ill_13 : decode cX9_ill 13 = .ok (.istore_n 2, 1) := by decide +kernel
theorem dX9_ill_14 : decode cX9_ill 14 = .ok (.iload_n 2, 1) := by decide +kernel
theorem dX9_ill_15 : decode cX9_ill 15 = .ok (.bipush 60, 2) := by decide +kernel
theorem dX9_ill_17 : decode cX9_ill 17 = .ok (.if_icmp .gt 28, 3) := by decide +kernel
theorem dX9_ill_20 : decode cX9_ill 20 = .ok (.aload_n 0, 1) := by decide +kernel
theorem dX9_ill_21 : decode cX9_ill 21 = .ok (.getfield 37, 3) := by decide +kernel
theorem dX9_ill_24 : decode cX9_ill 24 = .ok (.aload_n 0, 1) := by decide +kernel
theorem dX9_ill_25 : decode cX9_ill 25 = .ok (.getfield 41, 3) := by decide +kernel
theorem dX9_ill_28 : decode cX9_ill 28 = .ok (.iload_n 1, 1) := by decide +kernel
theorem dX9_ill_29 : decode cX9_ill 29 = .ok (.aaload, 1) := by decide +kernel
theorem dX9_ill_30 : decode cX9_ill 30 = .ok (.iload_n 2, 1) := by decide +kernel
theorem dX9_ill_31 : decode cX9_ill 31 = .ok (.invokevirtual 200, 3) := by decide +kernel
theorem dX9_ill_34 : decode cX9_ill 34 = .ok (.ifCond .eq 5, 3) := by decide +kernel
theorem dX9_ill_37 : decode cX9_ill 37 = .ok (.iload_n 2, 1) := by decide +kernel
theorem dX9_ill_38 : decode cX9_ill 38 = .ok (.ireturn, 1) := by decide +kernel
theorem dX9_ill_39 : decode cX9_ill 39 = .ok (.iinc 2 1, 3) := by decide +kernel
theorem dX9_ill_42 : decode cX9_ill 42 = .ok (.goto (-28), 3) := by decide +kernel
theorem dX9_ill_45 : decode cX9_ill 45 = .ok (.iconst (-1), 1) := by decide +kernel
theorem dX9_ill_46 : decode cX9_ill 46 = .ok (.ireturn, 1) := by decide +kernel
theorem dX9_eyes_0 : decode cX9_eyes 0 = .ok (.iload_n 1, 1) := by decide +kernel
theorem dX9_eyes_1 : decode cX9_eyes 1 = .ok (.iconst 2, 1) := by decide +kernel
theorem dX9_eyes_2 : decode cX9_eyes 2 = .ok (.invokestatic 93, 3) := by decide +kernel
theorem dX9_eyes_5 : decode cX9_eyes 5 = .ok (.ifCond .eq 12, 3) := by decide +kernel
theorem dX9_eyes_8 : decode cX9_eyes 8 = .ok (.iload_n 2, 1) := by decide +kernel
theorem dX9_eyes_9 : decode cX9_eyes 9 = .ok (.bipush 8, 2) := by decide +kernel
theorem dX9_eyes_11 : decode cX9_eyes 11 = .ok (.invokestatic 93, 3) := by decide +kernel
theorem dX9_eyes_14 : decode cX9_eyes 14 = .ok (.ifCond .ne 6, 3) := by decide +kernel
theorem dX9_eyes_17 : decode cX9_eyes 17 = .ok (.bipush (-2), 2) := by decide +kernel
theorem dX9_eyes_19 : decode cX9_eyes 19 = .ok (.ireturn, 1) := by decide +kernel
theorem dX9_eyes_20 : decode cX9_eyes 20 = .ok (.iload_n 3, 1) := by decide +kernel
theorem dX9_eyes_21 : decode cX9_eyes 21 = .ok (.iload 4, 2) := by decide +kernel
theorem dX9_eyes_23 : decode cX9_eyes 23 = .ok (.invokestatic 100, 3) := by decide +kernel
theorem dX9_eyes_26 : decode cX9_eyes 26 = .ok (.ifCond .ne 6, 3) := by decide +kernel
theorem dX9_eyes_29 : decode cX9_eyes 29 = .ok (.bipush (-3), 2) := by decide +kernel
theorem dX9_eyes_31 : decode cX9_eyes 31 = .ok (.ireturn, 1) := by decide +kernel
theorem dX9_eyes_32 : decode cX9_eyes 32 = .ok (.aload_n 0, 1) := by decide +kernel
theorem dX9_eyes_33 : decode cX9_eyes 33 = .ok (.getfield 62, 3) := by decide +kernel
theorem dX9_eyes_36 : decode cX9_eyes 36 = .ok (.iload_n 1, 1) := by decide +kernel
theorem dX9_eyes_37 : decode cX9_eyes 37 = .ok (.aaload, 1) := by decide +kernel
theorem dX9_eyes_38 : decode cX9_eyes 38 = .ok (.iload_n 2, 1) := by decide +kernel
theorem dX9_eyes_39 : decode cX9_eyes 39 = .ok (.iload_n 3, 1) := by decide +kernel
theorem dX9_eyes_40 : decode cX9_eyes 40 = .ok (.iload 4, 2) := by decide +kernel
theorem dX9_eyes_42 : decode cX9_eyes 42 = .ok (.invokevirtual 204, 3) := by decide +kernel
theorem dX9_eyes_45 : decode cX9_eyes 45 = .ok (.ireturn, 1) := by decide +kernel
theorem dX9_told_0 : decode cX9_told 0 = .ok (.iload_n 1, 1) := by decide +kernel
theorem dX9_told_1 : decode cX9_told 1 = .ok (.iconst 2, 1) := by decide +kernel
theorem dX9_told_2 : decode cX9_told 2 = .ok (.invokestatic 93, 3) := by decide +kernel
theorem dX9_told_5 : decode cX9_told 5 = .ok (.ifCond .ne 6, 3) := by decide +kernel
theorem dX9_told_8 : decode cX9_told 8 = .ok (.bipush (-2), 2) := by decide +kernel
theorem dX9_told_10 : decode cX9_told 10 = .ok (.ireturn, 1) := by decide +kernel
theorem dX9_told_11 : decode cX9_told 11 = .ok (.iload_n 2, 1) := by decide +kernel
theorem dX9_told_12 : decode cX9_told 12 = .ok (.bipush 6, 2) := by decide +kernel
theorem dX9_told_14 : decode cX9_told 14 = .ok (.invokestatic 93, 3) := by decide +kernel
theorem dX9_told_17 : decode cX9_told 17 = .ok (.ifCond .eq 17, 3) := by decide +kernel
theorem dX9_told_20 : decode cX9_told 20 = .ok (.aload_n 0, 1) := by decide +kernel
theorem dX9_told_21 : decode cX9_told 21 = .ok (.getfield 62, 3) := by decide +kernel
theorem dX9_told_24 : decode cX9_told 24 = .ok (.iload_n 1, 1) := by decide +kernel
theorem dX9_told_25 : decode cX9_told 25 = .ok (.aaload, 1) := by decide +kernel
theorem dX9_told_26 : decode cX9_told 26 = .ok (.getfield 207, 3) := by decide +kernel
theorem dX9_told_29 : decode cX9_told 29 = .ok (.iload_n 2, 1) := by decide +kernel
theorem dX9_told_30 : decode cX9_told 30 = .ok (.iaload, 1) := by decide +kernel
theorem dX9_told_31 : decode cX9_told 31 = .ok (.goto 5, 3) := by decide +kernel
theorem dX9_told_34 : decode cX9_told 34 = .ok (.bipush (-3), 2) := by decide +kernel
theorem dX9_told_36 : decode cX9_told 36 = .ok (.ireturn, 1) := by decide +kernel
theorem dX9_trust_0 : decode cX9_trust 0 = .ok (.iload_n 1, 1) := by decide +kernel
theorem dX9_trust_1 : decode cX9_trust 1 = .ok (.iconst 2, 1) := by decide +kernel
theorem dX9_trust_2 : decode cX9_trust 2 = .ok (.invokestatic 93, 3) := by decide +kernel
theorem dX9_trust_5 : decode cX9_trust 5 = .ok (.ifCond .eq 12, 3) := by decide +kernel
theorem dX9_trust_8 : decode cX9_trust 8 = .ok (.iload_n 2, 1) := by decide +kernel
theorem dX9_trust_9 : decode cX9_trust 9 = .ok (.bipush 6, 2) := by decide +kernel
theorem dX9_trust_11 : decode cX9_trust 11 = .ok (.invokestatic 93, 3) := by decide +kernel
theorem dX9_trust_14 : decode cX9_trust 14 = .ok (.ifCond .ne 6, 3) := by decide +kernel
theorem dX9_trust_17 : decode cX9_trust 17 = .ok (.bipush (-2), 2) := by decide +kernel
theorem dX9_trust_19 : decode cX9_trust 19 = .ok (.ireturn, 1) := by decide +kernel
theorem dX9_trust_20 : decode cX9_trust 20 = .ok (.iload_n 3, 1) := by decide +kernel
theorem dX9_trust_21 : decode cX9_trust 21 = .ok (.bipush 61, 2) := by decide +kernel
theorem dX9_trust_23 : decode cX9_trust 23 = .ok (.invokestatic 93, 3) := by decide +kernel
theorem dX9_trust_26 : decode cX9_trust 26 = .ok (.ifCond .eq 21, 3) := by decide +kernel
theorem dX9_trust_29 : decode cX9_trust 29 = .ok (.aload_n 0, 1) := by decide +kernel
theorem dX9_trust_30 : decode cX9_trust 30 = .ok (.getfield 73, 3) := by decide +kernel
theorem dX9_trust_33 : decode cX9_trust 33 = .ok (.aload_n 0, 1) := by decide +kernel
theorem dX9_trust_34 : decode cX9_trust 34 = .ok (.getfield 62, 3) := by decide +kernel
theorem dX9_trust_37 : decode cX9_trust 37 = .ok (.iload_n 1, 1) := by decide +kernel
theorem dX9_trust_38 : decode cX9_trust 38 = .ok (.aaload, 1) := by decide +kernel
theorem dX9_trust_39 : decode cX9_trust 39 = .ok (.iload_n 2, 1) := by decide +kernel
theorem dX9_trust_40 : decode cX9_trust 40 = .ok (.iload_n 3, 1) := by decide +kernel
theorem dX9_trust_41 : decode cX9_trust 41 = .ok (.invokevirtual 210, 3) := by decide +kernel
theorem dX9_trust_44 : decode cX9_trust 44 = .ok (.goto 5, 3) := by decide +kernel
theorem dX9_trust_47 : decode cX9_trust 47 = .ok (.bipush (-3), 2) := by decide +kernel
theorem dX9_trust_49 : decode cX9_trust 49 = .ok (.ireturn, 1) := by decide +kernel
theorem dX9_concluded_0 : decode cX9_concluded 0 = .ok (.iload_n 1, 1) := by decide +kernel
theorem dX9_concluded_1 : decode cX9_concluded 1 = .ok (.iload_n 2, 1) := by decide +kernel
theorem dX9_concluded_2 : decode cX9_concluded 2 = .ok (.iload_n 3, 1) := by decide +kernel
theorem dX9_concluded_3 : decode cX9_concluded 3 = .ok (.iload 4, 2) := by decide +kernel
theorem dX9_concluded_5 : decode cX9_concluded 5 = .ok (.iload 5, 2) := by decide +kernel
theorem dX9_concluded_7 : decode cX9_concluded 7 = .ok (.invokestatic 214, 3) := by decide +kernel
theorem dX9_concluded_10 : decode cX9_concluded 10 = .ok (.istore 6, 2) := by decide +kernel
theorem dX9_concluded_12 : decode cX9_concluded 12 = .ok (.iload 6, 2) := by decide +kernel
theorem dX9_concluded_14 : decode cX9_concluded 14 = .ok (.ifCond .eq 8, 3) := by decide +kernel
theorem dX9_concluded_17 : decode cX9_concluded 17 = .ok (.iload 6, 2) := by decide +kernel
theorem dX9_concluded_19 : decode cX9_concluded 19 = .ok (.goto 25, 3) := by decide +kernel
theorem dX9_concluded_22 : decode cX9_concluded 22 = .ok (.aload_n 0, 1) := by decide +kernel
theorem dX9_concluded_23 : decode cX9_concluded 23 = .ok (.getfield 73, 3) := by decide +kernel
theorem dX9_concluded_26 : decode cX9_concluded 26 = .ok (.aload_n 0, 1) := by decide +kernel
theorem dX9_concluded_27 : decode cX9_concluded 27 = .ok (.getfield 62, 3) := by decide +kernel
theorem dX9_concluded_30 : decode cX9_concluded 30 = .ok (.iload_n 1, 1) := by decide +kernel
theorem dX9_concluded_31 : decode cX9_concluded 31 = .ok (.aaload, 1) := by decide +kernel
theorem dX9_concluded_32 : decode cX9_concluded 32 = .ok (.iload_n 2, 1) := by decide +kernel
theorem dX9_concluded_33 : decode cX9_concluded 33 = .ok (.iload_n 3, 1) := by decide +kernel
theorem dX9_concluded_34 : decode cX9_concluded 34 = .ok (.iload 4, 2) := by decide +kernel
theorem dX9_concluded_36 : decode cX9_concluded 36 = .ok (.invokestatic 111, 3) := by decide +kernel
theorem dX9_concluded_39 : decode cX9_concluded 39 = .ok (.iload 5, 2) := by decide +kernel
theorem dX9_concluded_41 : decode cX9_concluded 41 = .ok (.invokevirtual 217, 3) := by decide +kernel
theorem dX9_concluded_44 : decode cX9_concluded 44 = .ok (.ireturn, 1) := by decide +kernel
theorem dX9_weight_0 : decode cX9_weight 0 = .ok (.iload_n 1, 1) := by decide +kernel
theorem dX9_weight_1 : decode cX9_weight 1 = .ok (.iload_n 2, 1) := by decide +kernel
theorem dX9_weight_2 : decode cX9_weight 2 = .ok (.iload_n 3, 1) := by decide +kernel
theorem dX9_weight_3 : decode cX9_weight 3 = .ok (.iload 4, 2) := by decide +kernel
theorem dX9_weight_5 : decode cX9_weight 5 = .ok (.iload 6, 2) := by decide +kernel
theorem dX9_weight_7 : decode cX9_weight 7 = .ok (.invokestatic 214, 3) := by decide +kernel
theorem dX9_weight_10 : decode cX9_weight 10 = .ok (.istore 7, 2) := by decide +kernel
theorem dX9_weight_12 : decode cX9_weight 12 = .ok (.iload 7, 2) := by decide +kernel
theorem dX9_weight_14 : decode cX9_weight 14 = .ok (.ifCond .eq 6, 3) := by decide +kernel
theorem dX9_weight_17 : decode cX9_weight 17 = .ok (.iload 7, 2) := by decide +kernel
theorem dX9_weight_19 : decode cX9_weight 19 = .ok (.ireturn, 1) := by decide +kernel
theorem dX9_weight_20 : decode cX9_weight 20 = .ok (.iload 5, 2) := by decide +kernel
theorem dX9_weight_22 : decode cX9_weight 22 = .ok (.bipush 10, 2) := by decide +kernel
theorem dX9_weight_24 : decode cX9_weight 24 = .ok (.invokestatic 93, 3) := by decide +kernel
theorem dX9_weight_27 : decode cX9_weight 27 = .ok (.ifCond .ne 6, 3) := by decide +kernel
theorem dX9_weight_30 : decode cX9_weight 30 = .ok (.bipush (-3), 2) := by decide +kernel
theorem dX9_weight_32 : decode cX9_weight 32 = .ok (.ireturn, 1) := by decide +kernel
theorem dX9_weight_33 : decode cX9_weight 33 = .ok (.aload_n 0, 1) := by decide +kernel
theorem dX9_weight_34 : decode cX9_weight 34 = .ok (.getfield 73, 3) := by decide +kernel
theorem dX9_weight_37 : decode cX9_weight 37 = .ok (.aload_n 0, 1) := by decide +kernel
theorem dX9_weight_38 : decode cX9_weight 38 = .ok (.getfield 62, 3) := by decide +kernel
theorem dX9_weight_41 : decode cX9_weight 41 = .ok (.iload_n 1, 1) := by decide +kernel
theorem dX9_weight_42 : decode cX9_weight 42 = .ok (.aaload, 1) := by decide +kernel
theorem dX9_weight_43 : decode cX9_weight 43 = .ok (.iload 6, 2) := by decide +kernel
theorem dX9_weight_45 : decode cX9_weight 45 = .ok (.invokevirtual 220, 3) := by decide +kernel
theorem dX9_weight_48 : decode cX9_weight 48 = .ok (.aload_n 0, 1) := by decide +kernel
theorem dX9_weight_49 : decode cX9_weight 49 = .ok (.getfield 73, 3) := by decide +kernel
theorem dX9_weight_52 : decode cX9_weight 52 = .ok (.iload_n 2, 1) := by decide +kernel
theorem dX9_weight_53 : decode cX9_weight 53 = .ok (.iload_n 3, 1) := by decide +kernel
theorem dX9_weight_54 : decode cX9_weight 54 = .ok (.iload 4, 2) := by decide +kernel
theorem dX9_weight_56 : decode cX9_weight 56 = .ok (.invokestatic 111, 3) := by decide +kernel
theorem dX9_weight_59 : decode cX9_weight 59 = .ok (.iload 6, 2) := by decide +kernel
theorem dX9_weight_61 : decode cX9_weight 61 = .ok (.invokevirtual 224, 3) := by decide +kernel
theorem dX9_weight_64 : decode cX9_weight 64 = .ok (.aload_n 0, 1) := by decide +kernel
theorem dX9_weight_65 : decode cX9_weight 65 = .ok (.getfield 73, 3) := by decide +kernel
theorem dX9_weight_68 : decode cX9_weight 68 = .ok (.aload_n 0, 1) := by decide +kernel
theorem dX9_weight_69 : decode cX9_weight 69 = .ok (.getfield 62, 3) := by decide +kernel
theorem dX9_weight_72 : decode cX9_weight 72 = .ok (.iload_n 1, 1) := by decide +kernel
theorem dX9_weight_73 : decode cX9_weight 73 = .ok (.aaload, 1) := by decide +kernel
theorem dX9_weight_74 : decode cX9_weight 74 = .ok (.iload 5, 2) := by decide +kernel
theorem dX9_weight_76 : decode cX9_weight 76 = .ok (.invokevirtual 228, 3) := by decide +kernel
theorem dX9_weight_79 : decode cX9_weight 79 = .ok (.ireturn, 1) := by decide +kernel
theorem dX9_story_0 : decode cX9_story 0 = .ok (.iload_n 1, 1) := by decide +kernel
theorem dX9_story_1 : decode cX9_story 1 = .ok (.iload_n 2, 1) := by decide +kernel
theorem dX9_story_2 : decode cX9_story 2 = .ok (.iload_n 3, 1) := by decide +kernel
theorem dX9_story_3 : decode cX9_story 3 = .ok (.invokestatic 107, 3) := by decide +kernel
theorem dX9_story_6 : decode cX9_story 6 = .ok (.istore 5, 2) := by decide +kernel
theorem dX9_story_8 : decode cX9_story 8 = .ok (.iload 5, 2) := by decide +kernel
theorem dX9_story_10 : decode cX9_story 10 = .ok (.ifCond .eq 6, 3) := by decide +kernel
theorem dX9_story_13 : decode cX9_story 13 = .ok (.iload 5, 2) := by decide +kernel
theorem dX9_story_15 : decode cX9_story 15 = .ok (.ireturn, 1) := by decide +kernel
theorem dX9_story_16 : decode cX9_story 16 = .ok (.iload 4, 2) := by decide +kernel
theorem dX9_story_18 : decode cX9_story 18 = .ok (.bipush 10, 2) := by decide +kernel
theorem dX9_story_20 : decode cX9_story 20 = .ok (.invokestatic 93, 3) := by decide +kernel
theorem dX9_story_23 : decode cX9_story 23 = .ok (.ifCond .eq 21, 3) := by decide +kernel
theorem dX9_story_26 : decode cX9_story 26 = .ok (.aload_n 0, 1) := by decide +kernel
theorem dX9_story_27 : decode cX9_story 27 = .ok (.getfield 69, 3) := by decide +kernel
theorem dX9_story_30 : decode cX9_story 30 = .ok (.iload_n 1, 1) := by decide +kernel
theorem dX9_story_31 : decode cX9_story 31 = .ok (.iload_n 2, 1) := by decide +kernel
theorem dX9_story_32 : decode cX9_story 32 = .ok (.iload_n 3, 1) := by decide +kernel
theorem dX9_story_33 : decode cX9_story 33 = .ok (.invokestatic 111, 3) := by decide +kernel
theorem dX9_story_36 : decode cX9_story 36 = .ok (.iload 4, 2) := by decide +kernel
theorem dX9_story_38 : decode cX9_story 38 = .ok (.invokevirtual 232, 3) := by decide +kernel
theorem dX9_story_41 : decode cX9_story 41 = .ok (.goto 5, 3) := by decide +kernel
theorem dX9_story_44 : decode cX9_story 44 = .ok (.bipush (-3), 2) := by decide +kernel
theorem dX9_story_46 : decode cX9_story 46 = .ok (.ireturn, 1) := by decide +kernel
theorem dX9_holds_0 : decode cX9_holds 0 = .ok (.iload_n 1, 1) := by decide +kernel
theorem dX9_holds_1 : decode cX9_holds 1 = .ok (.iconst 2, 1) := by decide +kernel
theorem dX9_holds_2 : decode cX9_holds 2 = .ok (.iload_n 2, 1) := by decide +kernel
theorem dX9_holds_3 : decode cX9_holds 3 = .ok (.invokestatic 141, 3) := by decide +kernel
theorem dX9_holds_6 : decode cX9_holds 6 = .ok (.istore_n 3, 1) := by decide +kernel
theorem dX9_holds_7 : decode cX9_holds 7 = .ok (.iload_n 3, 1) := by decide +kernel
theorem dX9_holds_8 : decode cX9_holds 8 = .ok (.ifCond .eq 7, 3) := by decide +kernel
theorem dX9_holds_11 : decode cX9_holds 11 = .ok (.iload_n 3, 1) := by decide +kernel
theorem dX9_holds_12 : decode cX9_holds 12 = .ok (.goto 21, 3) := by decide +kernel
theorem dX9_holds_15 : decode cX9_holds 15 = .ok (.aload_n 0, 1) := by decide +kernel
theorem dX9_holds_16 : decode cX9_holds 16 = .ok (.getfield 73, 3) := by decide +kernel
theorem dX9_holds_19 : decode cX9_holds 19 = .ok (.aload_n 0, 1) := by decide +kernel
theorem dX9_holds_20 : decode cX9_holds 20 = .ok (.getfield 62, 3) := by decide +kernel
theorem dX9_holds_23 : decode cX9_holds 23 = .ok (.iload_n 1, 1) := by decide +kernel
theorem dX9_holds_24 : decode cX9_holds 24 = .ok (.aaload, 1) := by decide +kernel
theorem dX9_holds_25 : decode cX9_holds 25 = .ok (.aload_n 0, 1) := by decide +kernel
theorem dX9_holds_26 : decode cX9_holds 26 = .ok (.getfield 69, 3) := by decide +kernel
theorem dX9_holds_29 : decode cX9_holds 29 = .ok (.iload_n 2, 1) := by decide +kernel
theorem dX9_holds_30 : decode cX9_holds 30 = .ok (.invokevirtual 235, 3) := by decide +kernel
theorem dX9_holds_33 : decode cX9_holds 33 = .ok (.ireturn, 1) := by decide +kernel
theorem dX9_keeps_0 : decode cX9_keeps 0 = .ok (.iload_n 1, 1) := by decide +kernel
theorem dX9_keeps_1 : decode cX9_keeps 1 = .ok (.iconst 2, 1) := by decide +kernel
theorem dX9_keeps_2 : decode cX9_keeps 2 = .ok (.iload_n 2, 1) := by decide +kernel
theorem dX9_keeps_3 : decode cX9_keeps 3 = .ok (.invokestatic 141, 3) := by decide +kernel
theorem dX9_keeps_6 : decode cX9_keeps 6 = .ok (.istore_n 3, 1) := by decide +kernel
theorem dX9_keeps_7 : decode cX9_keeps 7 = .ok (.iload_n 3, 1) := by decide +kernel
theorem dX9_keeps_8 : decode cX9_keeps 8 = .ok (.ifCond .eq 5, 3) := by decide +kernel
theorem dX9_keeps_11 : decode cX9_keeps 11 = .ok (.iload_n 3, 1) := by decide +kernel
theorem dX9_keeps_12 : decode cX9_keeps 12 = .ok (.ireturn, 1) := by decide +kernel
theorem dX9_keeps_13 : decode cX9_keeps 13 = .ok (.iload_n 2, 1) := by decide +kernel
theorem dX9_keeps_14 : decode cX9_keeps 14 = .ok (.istore 4, 2) := by decide +kernel
theorem dX9_keeps_16 : decode cX9_keeps 16 = .ok (.iload 4, 2) := by decide +kernel
theorem dX9_keeps_18 : decode cX9_keeps 18 = .ok (.bipush 60, 2) := by decide +kernel
theorem dX9_keeps_20 : decode cX9_keeps 20 = .ok (.if_icmp .gt 38, 3) := by decide +kernel
theorem dX9_keeps_23 : decode cX9_keeps 23 = .ok (.aload_n 0, 1) := by decide +kernel
theorem dX9_keeps_24 : decode cX9_keeps 24 = .ok (.getfield 73, 3) := by decide +kernel
theorem dX9_keeps_27 : decode cX9_keeps 27 = .ok (.aload_n 0, 1) := by decide +kernel
theorem dX9_keeps_28 : decode cX9_keeps 28 = .ok (.getfield 62, 3) := by decide +kernel
theorem dX9_keeps_31 : decode cX9_keeps 31 = .ok (.iload_n 1, 1) := by decide +kernel
theorem dX9_keeps_32 : decode cX9_keeps 32 = .ok (.aaload, 1) := by decide +kernel
theorem dX9_keeps_33 : decode cX9_keeps 33 = .ok (.aload_n 0, 1) := by decide +kernel
theorem dX9_keeps_34 : decode cX9_keeps 34 = .ok (.getfield 69, 3) := by decide +kernel
theorem dX9_keeps_37 : decode cX9_keeps 37 = .ok (.iload 4, 2) := by decide +kernel
theorem dX9_keeps_39 : decode cX9_keeps 39 = .ok (.invokevirtual 235, 3) := by decide +kernel
theorem dX9_keeps_42 : decode cX9_keeps 42 = .ok (.aload_n 0, 1) := by decide +kernel
theorem dX9_keeps_43 : decode cX9_keeps 43 = .ok (.getfield 69, 3) := by decide +kernel
theorem dX9_keeps_46 : decode cX9_keeps 46 = .ok (.invokevirtual 239, 3) := by decide +kernel
theorem dX9_keeps_49 : decode cX9_keeps 49 = .ok (.if_icmp .ne 9, 3) := by decide +kernel
theorem dX9_keeps_52 : decode cX9_keeps 52 = .ok (.iinc 4 1, 3) := by decide +kernel
theorem dX9_keeps_55 : decode cX9_keeps 55 = .ok (.goto (-39), 3) := by decide +kernel
theorem dX9_keeps_58 : decode cX9_keeps 58 = .ok (.iload 4, 2) := by decide +kernel
theorem dX9_keeps_60 : decode cX9_keeps 60 = .ok (.iload_n 2, 1) := by decide +kernel
theorem dX9_keeps_61 : decode cX9_keeps 61 = .ok (.isub, 1) := by decide +kernel
theorem dX9_keeps_62 : decode cX9_keeps 62 = .ok (.ireturn, 1) := by decide +kernel
theorem dX9_draft_0 : decode cX9_draft 0 = .ok (.iload_n 1, 1) := by decide +kernel
theorem dX9_draft_1 : decode cX9_draft 1 = .ok (.iload_n 2, 1) := by decide +kernel
theorem dX9_draft_2 : decode cX9_draft 2 = .ok (.iload_n 3, 1) := by decide +kernel
theorem dX9_draft_3 : decode cX9_draft 3 = .ok (.iload 4, 2) := by decide +kernel
theorem dX9_draft_5 : decode cX9_draft 5 = .ok (.iload 5, 2) := by decide +kernel
theorem dX9_draft_7 : decode cX9_draft 7 = .ok (.iload 6, 2) := by decide +kernel
theorem dX9_draft_9 : decode cX9_draft 9 = .ok (.iload 7, 2) := by decide +kernel
theorem dX9_draft_11 : decode cX9_draft 11 = .ok (.invokestatic 151, 3) := by decide +kernel
theorem dX9_draft_14 : decode cX9_draft 14 = .ok (.istore 8, 2) := by decide +kernel
theorem dX9_draft_16 : decode cX9_draft 16 = .ok (.iload 8, 2) := by decide +kernel
theorem dX9_draft_18 : decode cX9_draft 18 = .ok (.ifCond .eq 8, 3) := by decide +kernel
theorem dX9_draft_21 : decode cX9_draft 21 = .ok (.iload 8, 2) := by decide +kernel
theorem dX9_draft_23 : decode cX9_draft 23 = .ok (.goto 24, 3) := by decide +kernel
theorem dX9_draft_26 : decode cX9_draft 26 = .ok (.aload_n 0, 1) := by decide +kernel
theorem dX9_draft_27 : decode cX9_draft 27 = .ok (.getfield 59, 3) := by decide +kernel
theorem dX9_draft_30 : decode cX9_draft 30 = .ok (.iload_n 1, 1) := by decide +kernel
theorem dX9_draft_31 : decode cX9_draft 31 = .ok (.iload_n 2, 1) := by decide +kernel
theorem dX9_draft_32 : decode cX9_draft 32 = .ok (.iload_n 3, 1) := by decide +kernel
theorem dX9_draft_33 : decode cX9_draft 33 = .ok (.iload 4, 2) := by decide +kernel
theorem dX9_draft_35 : decode cX9_draft 35 = .ok (.iload 5, 2) := by decide +kernel
theorem dX9_draft_37 : decode cX9_draft 37 = .ok (.iload 6, 2) := by decide +kernel
theorem dX9_draft_39 : decode cX9_draft 39 = .ok (.invokestatic 111, 3) := by decide +kernel
theorem dX9_draft_42 : decode cX9_draft 42 = .ok (.iload 7, 2) := by decide +kernel
theorem dX9_draft_44 : decode cX9_draft 44 = .ok (.invokevirtual 155, 3) := by decide +kernel
theorem dX9_draft_47 : decode cX9_draft 47 = .ok (.ireturn, 1) := by decide +kernel
theorem dX9_mark_0 : decode cX9_mark 0 = .ok (.iload_n 1, 1) := by decide +kernel
theorem dX9_mark_1 : decode cX9_mark 1 = .ok (.aload_n 0, 1) := by decide +kernel
theorem dX9_mark_2 : decode cX9_mark 2 = .ok (.getfield 59, 3) := by decide +kernel
theorem dX9_mark_5 : decode cX9_mark 5 = .ok (.getfield 159, 3) := by decide +kernel
theorem dX9_mark_8 : decode cX9_mark 8 = .ok (.invokestatic 93, 3) := by decide +kernel
theorem dX9_mark_11 : decode cX9_mark 11 = .ok (.ifCond .ne 6, 3) := by decide +kernel
theorem dX9_mark_14 : decode cX9_mark 14 = .ok (.bipush (-2), 2) := by decide +kernel
theorem dX9_mark_16 : decode cX9_mark 16 = .ok (.ireturn, 1) := by decide +kernel
theorem dX9_mark_17 : decode cX9_mark 17 = .ok (.iload_n 2, 1) := by decide +kernel
theorem dX9_mark_18 : decode cX9_mark 18 = .ok (.iconst 2, 1) := by decide +kernel
theorem dX9_mark_19 : decode cX9_mark 19 = .ok (.invokestatic 93, 3) := by decide +kernel
theorem dX9_mark_22 : decode cX9_mark 22 = .ok (.ifCond .eq 13, 3) := by decide +kernel
theorem dX9_mark_25 : decode cX9_mark 25 = .ok (.iload_n 3, 1) := by decide +kernel
theorem dX9_mark_26 : decode cX9_mark 26 = .ok (.ifCond .lt 9, 3) := by decide +kernel
theorem dX9_mark_29 : decode cX9_mark 29 = .ok (.iload_n 3, 1) := by decide +kernel
theorem dX9_mark_30 : decode cX9_mark 30 = .ok (.bipush 99, 2) := by decide +kernel
theorem dX9_mark_32 : decode cX9_mark 32 = .ok (.if_icmp .le 6, 3) := by decide +kernel
theorem dX9_mark_35 : decode cX9_mark 35 = .ok (.bipush (-3), 2) := by decide +kernel
theorem dX9_mark_37 : decode cX9_mark 37 = .ok (.ireturn, 1) := by decide +kernel
theorem dX9_mark_38 : decode cX9_mark 38 = .ok (.iload_n 2, 1) := by decide +kernel
theorem dX9_mark_39 : decode cX9_mark 39 = .ok (.ifCond .ne 13, 3) := by decide +kernel
theorem dX9_mark_42 : decode cX9_mark 42 = .ok (.aload_n 0, 1) := by decide +kernel
theorem dX9_mark_43 : decode cX9_mark 43 = .ok (.getfield 82, 3) := by decide +kernel
theorem dX9_mark_46 : decode cX9_mark 46 = .ok (.getfield 242, 3) := by decide +kernel
theorem dX9_mark_49 : decode cX9_mark 49 = .ok (.goto 10, 3) := by decide +kernel
theorem dX9_mark_52 : decode cX9_mark 52 = .ok (.aload_n 0, 1) := by decide +kernel
theorem dX9_mark_53 : decode cX9_mark 53 = .ok (.getfield 82, 3) := by decide +kernel
theorem dX9_mark_56 : decode cX9_mark 56 = .ok (.getfield 245, 3) := by decide +kernel
theorem dX9_mark_59 : decode cX9_mark 59 = .ok (.astore 4, 2) := by decide +kernel
theorem dX9_mark_61 : decode cX9_mark 61 = .ok (.aload 4, 2) := by decide +kernel
theorem dX9_mark_63 : decode cX9_mark 63 = .ok (.iload_n 1, 1) := by decide +kernel
theorem dX9_mark_64 : decode cX9_mark 64 = .ok (.iaload, 1) := by decide +kernel
theorem dX9_mark_65 : decode cX9_mark 65 = .ok (.istore 5, 2) := by decide +kernel
theorem dX9_mark_67 : decode cX9_mark 67 = .ok (.aload 4, 2) := by decide +kernel
theorem dX9_mark_69 : decode cX9_mark 69 = .ok (.iload_n 1, 1) := by decide +kernel
theorem dX9_mark_70 : decode cX9_mark 70 = .ok (.iload_n 3, 1) := by decide +kernel
theorem dX9_mark_71 : decode cX9_mark 71 = .ok (.iastore, 1) := by decide +kernel
theorem dX9_mark_72 : decode cX9_mark 72 = .ok (.iload 5, 2) := by decide +kernel
theorem dX9_mark_74 : decode cX9_mark 74 = .ok (.ireturn, 1) := by decide +kernel
theorem dX9_make_0 : decode cX9_make 0 = .ok (.iload_n 1, 1) := by decide +kernel
theorem dX9_make_1 : decode cX9_make 1 = .ok (.bipush 61, 2) := by decide +kernel
theorem dX9_make_3 : decode cX9_make 3 = .ok (.invokestatic 93, 3) := by decide +kernel
theorem dX9_make_6 : decode cX9_make 6 = .ok (.ifCond .eq 24, 3) := by decide +kernel
theorem dX9_make_9 : decode cX9_make 9 = .ok (.aload_n 0, 1) := by decide +kernel
theorem dX9_make_10 : decode cX9_make 10 = .ok (.getfield 82, 3) := by decide +kernel
theorem dX9_make_13 : decode cX9_make 13 = .ok (.aload_n 0, 1) := by decide +kernel
theorem dX9_make_14 : decode cX9_make 14 = .ok (.getfield 62, 3) := by decide +kernel
theorem dX9_make_17 : decode cX9_make 17 = .ok (.iconst 0, 1) := by decide +kernel
theorem dX9_make_18 : decode cX9_make 18 = .ok (.aaload, 1) := by decide +kernel
theorem dX9_make_19 : decode cX9_make 19 = .ok (.aload_n 0, 1) := by decide +kernel
theorem dX9_make_20 : decode cX9_make 20 = .ok (.getfield 69, 3) := by decide +kernel
theorem dX9_make_23 : decode cX9_make 23 = .ok (.iload_n 1, 1) := by decide +kernel
theorem dX9_make_24 : decode cX9_make 24 = .ok (.invokevirtual 248, 3) := by decide +kernel
theorem dX9_make_27 : decode cX9_make 27 = .ok (.goto 5, 3) := by decide +kernel
theorem dX9_make_30 : decode cX9_make 30 = .ok (.bipush (-3), 2) := by decide +kernel
theorem dX9_make_32 : decode cX9_make 32 = .ok (.ireturn, 1) := by decide +kernel
theorem dX9_buy_0 : decode cX9_buy 0 = .ok (.iload_n 1, 1) := by decide +kernel
theorem dX9_buy_1 : decode cX9_buy 1 = .ok (.bipush 6, 2) := by decide +kernel
theorem dX9_buy_3 : decode cX9_buy 3 = .ok (.invokestatic 93, 3) := by decide +kernel
theorem dX9_buy_6 : decode cX9_buy 6 = .ok (.ifCond .ne 6, 3) := by decide +kernel
theorem dX9_buy_9 : decode cX9_buy 9 = .ok (.bipush (-2), 2) := by decide +kernel
theorem dX9_buy_11 : decode cX9_buy 11 = .ok (.ireturn, 1) := by decide +kernel
theorem dX9_buy_12 : decode cX9_buy 12 = .ok (.iload_n 2, 1) := by decide +kernel
theorem dX9_buy_13 : decode cX9_buy 13 = .ok (.bipush 61, 2) := by decide +kernel
theorem dX9_buy_15 : decode cX9_buy 15 = .ok (.invokestatic 93, 3) := by decide +kernel
theorem dX9_buy_18 : decode cX9_buy 18 = .ok (.ifCond .eq 13, 3) := by decide +kernel
theorem dX9_buy_21 : decode cX9_buy 21 = .ok (.iload_n 3, 1) := by decide +kernel
theorem dX9_buy_22 : decode cX9_buy 22 = .ok (.ifCond .lt 9, 3) := by decide +kernel
theorem dX9_buy_25 : decode cX9_buy 25 = .ok (.iload_n 3, 1) := by decide +kernel
theorem dX9_buy_26 : decode cX9_buy 26 = .ok (.bipush 100, 2) := by decide +kernel
theorem dX9_buy_28 : decode cX9_buy 28 = .ok (.if_icmp .le 6, 3) := by decide +kernel
theorem dX9_buy_31 : decode cX9_buy 31 = .ok (.bipush (-3), 2) := by decide +kernel
theorem dX9_buy_33 : decode cX9_buy 33 = .ok (.ireturn, 1) := by decide +kernel
theorem dX9_buy_34 : decode cX9_buy 34 = .ok (.aload_n 0, 1) := by decide +kernel
theorem dX9_buy_35 : decode cX9_buy 35 = .ok (.getfield 82, 3) := by decide +kernel
theorem dX9_buy_38 : decode cX9_buy 38 = .ok (.aload_n 0, 1) := by decide +kernel
theorem dX9_buy_39 : decode cX9_buy 39 = .ok (.getfield 62, 3) := by decide +kernel
theorem dX9_buy_42 : decode cX9_buy 42 = .ok (.iconst 0, 1) := by decide +kernel
theorem dX9_buy_43 : decode cX9_buy 43 = .ok (.aaload, 1) := by decide +kernel
theorem dX9_buy_44 : decode cX9_buy 44 = .ok (.iload_n 1, 1) := by decide +kernel
theorem dX9_buy_45 : decode cX9_buy 45 = .ok (.iload_n 2, 1) := by decide +kernel
theorem dX9_buy_46 : decode cX9_buy 46 = .ok (.iload_n 3, 1) := by decide +kernel
theorem dX9_buy_47 : decode cX9_buy 47 = .ok (.invokevirtual 251, 3) := by decide +kernel
theorem dX9_buy_50 : decode cX9_buy 50 = .ok (.ireturn, 1) := by decide +kernel
theorem dX9_question_0 : decode cX9_question 0 = .ok (.iload_n 2, 1) := by decide +kernel
theorem dX9_question_1 : decode cX9_question 1 = .ok (.iload_n 3, 1) := by decide +kernel
theorem dX9_question_2 : decode cX9_question 2 = .ok (.iload 4, 2) := by decide +kernel
theorem dX9_question_4 : decode cX9_question 4 = .ok (.invokestatic 107, 3) := by decide +kernel
theorem dX9_question_7 : decode cX9_question 7 = .ok (.istore 5, 2) := by decide +kernel
theorem dX9_question_9 : decode cX9_question 9 = .ok (.iload 5, 2) := by decide +kernel
theorem dX9_question_11 : decode cX9_question 11 = .ok (.ifCond .eq 6, 3) := by decide +kernel
theorem dX9_question_14 : decode cX9_question 14 = .ok (.iload 5, 2) := by decide +kernel
theorem dX9_question_16 : decode cX9_question 16 = .ok (.ireturn, 1) := by decide +kernel
theorem dX9_question_17 : decode cX9_question 17 = .ok (.iload_n 1, 1) := by decide +kernel
theorem dX9_question_18 : decode cX9_question 18 = .ok (.bipush 61, 2) := by decide +kernel
theorem dX9_question_20 : decode cX9_question 20 = .ok (.invokestatic 93, 3) := by decide +kernel
theorem dX9_question_23 : decode cX9_question 23 = .ok (.ifCond .eq 21, 3) := by decide +kernel
theorem dX9_question_26 : decode cX9_question 26 = .ok (.aload_n 0, 1) := by decide +kernel
theorem dX9_question_27 : decode cX9_question 27 = .ok (.getfield 89, 3) := by decide +kernel
theorem dX9_question_30 : decode cX9_question 30 = .ok (.iload_n 1, 1) := by decide +kernel
theorem dX9_question_31 : decode cX9_question 31 = .ok (.iload_n 2, 1) := by decide +kernel
theorem dX9_question_32 : decode cX9_question 32 = .ok (.iload_n 3, 1) := by decide +kernel
theorem dX9_question_33 : decode cX9_question 33 = .ok (.iload 4, 2) := by decide +kernel
theorem dX9_question_35 : decode cX9_question 35 = .ok (.invokestatic 111, 3) := by decide +kernel
theorem dX9_question_38 : decode cX9_question 38 = .ok (.invokevirtual 255, 3) := by decide +kernel
theorem dX9_question_41 : decode cX9_question 41 = .ok (.goto 5, 3) := by decide +kernel
theorem dX9_question_44 : decode cX9_question 44 = .ok (.bipush (-3), 2) := by decide +kernel
theorem dX9_question_46 : decode cX9_question 46 = .ok (.ireturn, 1) := by decide +kernel
theorem dX9_pay_0 : decode cX9_pay 0 = .ok (.iload_n 2, 1) := by decide +kernel
theorem dX9_pay_1 : decode cX9_pay 1 = .ok (.bipush 6, 2) := by decide +kernel
theorem dX9_pay_3 : decode cX9_pay 3 = .ok (.iload_n 1, 1) := by decide +kernel
theorem dX9_pay_4 : decode cX9_pay 4 = .ok (.invokestatic 141, 3) := by decide +kernel
theorem dX9_pay_7 : decode cX9_pay 7 = .ok (.istore_n 3, 1) := by decide +kernel
theorem dX9_pay_8 : decode cX9_pay 8 = .ok (.iload_n 3, 1) := by decide +kernel
theorem dX9_pay_9 : decode cX9_pay 9 = .ok (.ifCond .eq 7, 3) := by decide +kernel
theorem dX9_pay_12 : decode cX9_pay 12 = .ok (.iload_n 3, 1) := by decide +kernel
theorem dX9_pay_13 : decode cX9_pay 13 = .ok (.goto 12, 3) := by decide +kernel
theorem dX9_pay_16 : decode cX9_pay 16 = .ok (.aload_n 0, 1) := by decide +kernel
theorem dX9_pay_17 : decode cX9_pay 17 = .ok (.getfield 89, 3) := by decide +kernel
theorem dX9_pay_20 : decode cX9_pay 20 = .ok (.iload_n 1, 1) := by decide +kernel
theorem dX9_pay_21 : decode cX9_pay 21 = .ok (.iload_n 2, 1) := by decide +kernel
theorem dX9_pay_22 : decode cX9_pay 22 = .ok (.invokevirtual 258, 3) := by decide +kernel
theorem dX9_pay_25 : decode cX9_pay 25 = .ok (.ireturn, 1) := by decide +kernel
theorem dX9_which_0 : decode cX9_which 0 = .ok (.iconst 0, 1) := by decide +kernel
theorem dX9_which_1 : decode cX9_which 1 = .ok (.istore_n 1, 1) := by decide +kernel
theorem dX9_which_2 : decode cX9_which 2 = .ok (.iconst 0, 1) := by decide +kernel
theorem dX9_which_3 : decode cX9_which 3 = .ok (.istore_n 2, 1) := by decide +kernel
theorem dX9_which_4 : decode cX9_which 4 = .ok (.iload_n 2, 1) := by decide +kernel
theorem dX9_which_5 : decode cX9_which 5 = .ok (.iconst 2, 1) := by decide +kernel
theorem dX9_which_6 : decode cX9_which 6 = .ok (.if_icmp .ge 35, 3) := by decide +kernel
theorem dX9_which_9 : decode cX9_which 9 = .ok (.aload_n 0, 1) := by decide +kernel
theorem dX9_which_10 : decode cX9_which 10 = .ok (.getfield 89, 3) := by decide +kernel
theorem dX9_which_13 : decode cX9_which 13 = .ok (.aload_n 0, 1) := by decide +kernel
theorem dX9_which_14 : decode cX9_which 14 = .ok (.getfield 62, 3) := by decide +kernel
theorem dX9_which_17 : decode cX9_which 17 = .ok (.iload_n 2, 1) := by decide +kernel
theorem dX9_which_18 : decode cX9_which 18 = .ok (.aaload, 1) := by decide +kernel
theorem dX9_which_19 : decode cX9_which 19 = .ok (.aload_n 0, 1) := by decide +kernel
theorem dX9_which_20 : decode cX9_which 20 = .ok (.getfield 73, 3) := by decide +kernel
theorem dX9_which_23 : decode cX9_which 23 = .ok (.invokevirtual 261, 3) := by decide +kernel
theorem dX9_which_26 : decode cX9_which 26 = .ok (.ifCond .eq 9, 3) := by decide +kernel
theorem dX9_which_29 : decode cX9_which 29 = .ok (.iload_n 1, 1) := by decide +kernel
theorem dX9_which_30 : decode cX9_which 30 = .ok (.iconst 1, 1) := by decide +kernel
theorem dX9_which_31 : decode cX9_which 31 = .ok (.iload_n 2, 1) := by decide +kernel
theorem dX9_which_32 : decode cX9_which 32 = .ok (.ishl, 1) := by decide +kernel
theorem dX9_which_33 : decode cX9_which 33 = .ok (.ior, 1) := by decide +kernel
theorem dX9_which_34 : decode cX9_which 34 = .ok (.istore_n 1, 1) := by decide +kernel
theorem dX9_which_35 : decode cX9_which 35 = .ok (.iinc 2 1, 3) := by decide +kernel
theorem dX9_which_38 : decode cX9_which 38 = .ok (.goto (-34), 3) := by decide +kernel
theorem dX9_which_41 : decode cX9_which 41 = .ok (.iload_n 1, 1) := by decide +kernel
theorem dX9_which_42 : decode cX9_which 42 = .ok (.ireturn, 1) := by decide +kernel
theorem dX9_warning_0 : decode cX9_warning 0 = .ok (.iload_n 1, 1) := by decide +kernel
theorem dX9_warning_1 : decode cX9_warning 1 = .ok (.iconst 3, 1) := by decide +kernel
theorem dX9_warning_2 : decode cX9_warning 2 = .ok (.iload_n 2, 1) := by decide +kernel
theorem dX9_warning_3 : decode cX9_warning 3 = .ok (.invokestatic 141, 3) := by decide +kernel
theorem dX9_warning_6 : decode cX9_warning 6 = .ok (.istore 4, 2) := by decide +kernel
theorem dX9_warning_8 : decode cX9_warning 8 = .ok (.iload 4, 2) := by decide +kernel
theorem dX9_warning_10 : decode cX9_warning 10 = .ok (.ifCond .eq 6, 3) := by decide +kernel
theorem dX9_warning_13 : decode cX9_warning 13 = .ok (.iload 4, 2) := by decide +kernel
theorem dX9_warning_15 : decode cX9_warning 15 = .ok (.ireturn, 1) := by decide +kernel
theorem dX9_warning_16 : decode cX9_warning 16 = .ok (.iload_n 3, 1) := by decide +kernel
theorem dX9_warning_17 : decode cX9_warning 17 = .ok (.iconst 2, 1) := by decide +kernel
theorem dX9_warning_18 : decode cX9_warning 18 = .ok (.invokestatic 93, 3) := by decide +kernel
theorem dX9_warning_21 : decode cX9_warning 21 = .ok (.ifCond .ne 6, 3) := by decide +kernel
theorem dX9_warning_24 : decode cX9_warning 24 = .ok (.bipush (-3), 2) := by decide +kernel
theorem dX9_warning_26 : decode cX9_warning 26 = .ok (.ireturn, 1) := by decide +kernel
theorem dX9_warning_27 : decode cX9_warning 27 = .ok (.iload_n 2, 1) := by decide +kernel
theorem dX9_warning_28 : decode cX9_warning 28 = .ok (.aload_n 0, 1) := by decide +kernel
theorem dX9_warning_29 : decode cX9_warning 29 = .ok (.getfield 52, 3) := by decide +kernel
theorem dX9_warning_32 : decode cX9_warning 32 = .ok (.iload_n 1, 1) := by decide +kernel
theorem dX9_warning_33 : decode cX9_warning 33 = .ok (.iaload, 1) := by decide +kernel
theorem dX9_warning_34 : decode cX9_warning 34 = .ok (.isub, 1) := by decide +kernel
theorem dX9_warning_35 : decode cX9_warning 35 = .ok (.istore 5, 2) := by decide +kernel
theorem dX9_warning_37 : decode cX9_warning 37 = .ok (.iconst 0, 1) := by decide +kernel
theorem dX9_warning_38 : decode cX9_warning 38 = .ok (.iload_n 3, 1) := by decide +kernel
theorem dX9_warning_39 : decode cX9_warning 39 = .ok (.ifCond .ne 8, 3) := by decide +kernel
theorem dX9_warning_42 : decode cX9_warning 42 = .ok (.iload 5, 2) := by decide +kernel
theorem dX9_warning_44 : decode cX9_warning 44 = .ok (.goto 6, 3) := by decide +kernel
theorem dX9_warning_47 : decode cX9_warning 47 = .ok (.iload 5, 2) := by decide +kernel
theorem dX9_warning_49 : decode cX9_warning 49 = .ok (.ineg, 1) := by decide +kernel
theorem dX9_warning_50 : decode cX9_warning 50 = .ok (.invokestatic 265, 3) := by decide +kernel
theorem dX9_warning_53 : decode cX9_warning 53 = .ok (.ireturn, 1) := by decide +kernel
theorem dX9_count_0 : decode cX9_count 0 = .ok (.iload_n 1, 1) := by decide +kernel
theorem dX9_count_1 : decode cX9_count 1 = .ok (.tableswitch 111 0 6 #[43, 51, 59, 67, 75, 83, 91], 43) := by decide +kernel
theorem dX9_count_44 : decode cX9_count 44 = .ok (.aload_n 0, 1) := by decide +kernel
theorem dX9_count_45 : decode cX9_count 45 = .ok (.getfield 37, 3) := by decide +kernel
theorem dX9_count_48 : decode cX9_count 48 = .ok (.getfield 189, 3) := by decide +kernel
theorem dX9_count_51 : decode cX9_count 51 = .ok (.ireturn, 1) := by decide +kernel
theorem dX9_count_52 : decode cX9_count 52 = .ok (.aload_n 0, 1) := by decide +kernel
theorem dX9_count_53 : decode cX9_count 53 = .ok (.getfield 48, 3) := by decide +kernel
theorem dX9_count_56 : decode cX9_count 56 = .ok (.getfield 270, 3) := by decide +kernel
theorem dX9_count_59 : decode cX9_count 59 = .ok (.ireturn, 1) := by decide +kernel
theorem dX9_count_60 : decode cX9_count 60 = .ok (.aload_n 0, 1) := by decide +kernel
theorem dX9_count_61 : decode cX9_count 61 = .ok (.getfield 55, 3) := by decide +kernel
theorem dX9_count_64 : decode cX9_count 64 = .ok (.getfield 159, 3) := by decide +kernel
theorem dX9_count_67 : decode cX9_count 67 = .ok (.ireturn, 1) := by decide +kernel
theorem dX9_count_68 : decode cX9_count 68 = .ok (.aload_n 0, 1) := by decide +kernel
theorem dX9_count_69 : decode cX9_count 69 = .ok (.getfield 69, 3) := by decide +kernel
theorem dX9_count_72 : decode cX9_count 72 = .ok (.getfield 273, 3) := by decide +kernel
theorem dX9_count_75 : decode cX9_count 75 = .ok (.ireturn, 1) := by decide +kernel
theorem dX9_count_76 : decode cX9_count 76 = .ok (.aload_n 0, 1) := by decide +kernel
theorem dX9_count_77 : decode cX9_count 77 = .ok (.getfield 59, 3) := by decide +kernel
theorem dX9_count_80 : decode cX9_count 80 = .ok (.getfield 159, 3) := by decide +kernel
theorem dX9_count_83 : decode cX9_count 83 = .ok (.ireturn, 1) := by decide +kernel
theorem dX9_count_84 : decode cX9_count 84 = .ok (.aload_n 0, 1) := by decide +kernel
theorem dX9_count_85 : decode cX9_count 85 = .ok (.getfield 89, 3) := by decide +kernel
theorem dX9_count_88 : decode cX9_count 88 = .ok (.getfield 274, 3) := by decide +kernel
theorem dX9_count_91 : decode cX9_count 91 = .ok (.ireturn, 1) := by decide +kernel
theorem dX9_count_92 : decode cX9_count 92 = .ok (.aload_n 0, 1) := by decide +kernel
theorem dX9_count_93 : decode cX9_count 93 = .ok (.getfield 62, 3) := by decide +kernel
theorem dX9_count_96 : decode cX9_count 96 = .ok (.iconst 0, 1) := by decide +kernel
theorem dX9_count_97 : decode cX9_count 97 = .ok (.aaload, 1) := by decide +kernel
theorem dX9_count_98 : decode cX9_count 98 = .ok (.getfield 275, 3) := by decide +kernel
theorem dX9_count_101 : decode cX9_count 101 = .ok (.aload_n 0, 1) := by decide +kernel
theorem dX9_count_102 : decode cX9_count 102 = .ok (.getfield 62, 3) := by decide +kernel
theorem dX9_count_105 : decode cX9_count 105 = .ok (.iconst 1, 1) := by decide +kernel
theorem dX9_count_106 : decode cX9_count 106 = .ok (.aaload, 1) := by decide +kernel
theorem dX9_count_107 : decode cX9_count 107 = .ok (.getfield 275, 3) := by decide +kernel
theorem dX9_count_110 : decode cX9_count 110 = .ok (.iadd, 1) := by decide +kernel
theorem dX9_count_111 : decode cX9_count 111 = .ok (.ireturn, 1) := by decide +kernel
theorem dX9_count_112 : decode cX9_count 112 = .ok (.bipush (-3), 2) := by decide +kernel
theorem dX9_count_114 : decode cX9_count 114 = .ok (.ireturn, 1) := by decide +kernel
theorem dX9_isBelow_0 : decode cX9_isBelow 0 = .ok (.iload_n 0, 1) := by decide +kernel
theorem dX9_isBelow_1 : decode cX9_isBelow 1 = .ok (.ifCond .lt 12, 3) := by decide +kernel
theorem dX9_isBelow_4 : decode cX9_isBelow 4 = .ok (.iload_n 0, 1) := by decide +kernel
theorem dX9_isBelow_5 : decode cX9_isBelow 5 = .ok (.iload_n 1, 1) := by decide +kernel
theorem dX9_isBelow_6 : decode cX9_isBelow 6 = .ok (.if_icmp .ge 7, 3) := by decide +kernel
theorem dX9_isBelow_9 : decode cX9_isBelow 9 = .ok (.iconst 1, 1) := by decide +kernel
theorem dX9_isBelow_10 : decode cX9_isBelow 10 = .ok (.goto 4, 3) := by decide +kernel
theorem dX9_isBelow_13 : decode cX9_isBelow 13 = .ok (.iconst 0, 1) := by decide +kernel
theorem dX9_isBelow_14 : decode cX9_isBelow 14 = .ok (.ireturn, 1) := by decide +kernel
theorem dX9_isSpan_0 : decode cX9_isSpan 0 = .ok (.iload_n 0, 1) := by decide +kernel
theorem dX9_isSpan_1 : decode cX9_isSpan 1 = .ok (.bipush 61, 2) := by decide +kernel
theorem dX9_isSpan_3 : decode cX9_isSpan 3 = .ok (.invokestatic 93, 3) := by decide +kernel
theorem dX9_isSpan_6 : decode cX9_isSpan 6 = .ok (.ifCond .eq 21, 3) := by decide +kernel
theorem dX9_isSpan_9 : decode cX9_isSpan 9 = .ok (.iload_n 1, 1) := by decide +kernel
theorem dX9_isSpan_10 : decode cX9_isSpan 10 = .ok (.bipush 61, 2) := by decide +kernel
theorem dX9_isSpan_12 : decode cX9_isSpan 12 = .ok (.invokestatic 93, 3) := by decide +kernel
theorem dX9_isSpan_15 : decode cX9_isSpan 15 = .ok (.ifCond .eq 12, 3) := by decide +kernel
theorem dX9_isSpan_18 : decode cX9_isSpan 18 = .ok (.iload_n 0, 1) := by decide +kernel
theorem dX9_isSpan_19 : decode cX9_isSpan 19 = .ok (.iload_n 1, 1) := by decide +kernel
theorem dX9_isSpan_20 : decode cX9_isSpan 20 = .ok (.if_icmp .gt 7, 3) := by decide +kernel
theorem dX9_isSpan_23 : decode cX9_isSpan 23 = .ok (.iconst 1, 1) := by decide +kernel
theorem dX9_isSpan_24 : decode cX9_isSpan 24 = .ok (.goto 4, 3) := by decide +kernel
theorem dX9_isSpan_27 : decode cX9_isSpan 27 = .ok (.iconst 0, 1) := by decide +kernel
theorem dX9_isSpan_28 : decode cX9_isSpan 28 = .ok (.ireturn, 1) := by decide +kernel
theorem dX9_hasBit_0 : decode cX9_hasBit 0 = .ok (.iload_n 0, 1) := by decide +kernel
theorem dX9_hasBit_1 : decode cX9_hasBit 1 = .ok (.iload_n 1, 1) := by decide +kernel
theorem dX9_hasBit_2 : decode cX9_hasBit 2 = .ok (.ishr, 1) := by decide +kernel
theorem dX9_hasBit_3 : decode cX9_hasBit 3 = .ok (.iconst 1, 1) := by decide +kernel
theorem dX9_hasBit_4 : decode cX9_hasBit 4 = .ok (.iand, 1) := by decide +kernel
theorem dX9_hasBit_5 : decode cX9_hasBit 5 = .ok (.ifCond .eq 7, 3) := by decide +kernel
theorem dX9_hasBit_8 : decode cX9_hasBit 8 = .ok (.iconst 1, 1) := by decide +kernel
theorem dX9_hasBit_9 : decode cX9_hasBit 9 = .ok (.goto 4, 3) := by decide +kernel
theorem dX9_hasBit_12 : decode cX9_hasBit 12 = .ok (.iconst 0, 1) := by decide +kernel
theorem dX9_hasBit_13 : decode cX9_hasBit 13 = .ok (.ireturn, 1) := by decide +kernel
theorem dX9_refuseDayOf_0 : decode cX9_refuseDayOf 0 = .ok (.iload_n 0, 1) := by decide +kernel
theorem dX9_refuseDayOf_1 : decode cX9_refuseDayOf 1 = .ok (.iload_n 1, 1) := by decide +kernel
theorem dX9_refuseDayOf_2 : decode cX9_refuseDayOf 2 = .ok (.invokestatic 93, 3) := by decide +kernel
theorem dX9_refuseDayOf_5 : decode cX9_refuseDayOf 5 = .ok (.ifCond .ne 6, 3) := by decide +kernel
theorem dX9_refuseDayOf_8 : decode cX9_refuseDayOf 8 = .ok (.bipush (-2), 2) := by decide +kernel
theorem dX9_refuseDayOf_10 : decode cX9_refuseDayOf 10 = .ok (.ireturn, 1) := by decide +kernel
theorem dX9_refuseDayOf_11 : decode cX9_refuseDayOf 11 = .ok (.iload_n 2, 1) := by decide +kernel
theorem dX9_refuseDayOf_12 : decode cX9_refuseDayOf 12 = .ok (.bipush 61, 2) := by decide +kernel
theorem dX9_refuseDayOf_14 : decode cX9_refuseDayOf 14 = .ok (.invokestatic 93, 3) := by decide +kernel
theorem dX9_refuseDayOf_17 : decode cX9_refuseDayOf 17 = .ok (.ifCond .eq 7, 3) := by decide +kernel
theorem dX9_refuseDayOf_20 : decode cX9_refuseDayOf 20 = .ok (.iconst 0, 1) := by decide +kernel
theorem dX9_refuseDayOf_21 : decode cX9_refuseDayOf 21 = .ok (.goto 5, 3) := by decide +kernel
theorem dX9_refuseDayOf_24 : decode cX9_refuseDayOf 24 = .ok (.bipush (-3), 2) := by decide +kernel
theorem dX9_refuseDayOf_26 : decode cX9_refuseDayOf 26 = .ok (.ireturn, 1) := by decide +kernel
theorem dX9_refuseTopic_0 : decode cX9_refuseTopic 0 = .ok (.iload_n 0, 1) := by decide +kernel
theorem dX9_refuseTopic_1 : decode cX9_refuseTopic 1 = .ok (.bipush 8, 2) := by decide +kernel
theorem dX9_refuseTopic_3 : decode cX9_refuseTopic 3 = .ok (.invokestatic 93, 3) := by decide +kernel
theorem dX9_refuseTopic_6 : decode cX9_refuseTopic 6 = .ok (.ifCond .eq 11, 3) := by decide +kernel
theorem dX9_refuseTopic_9 : decode cX9_refuseTopic 9 = .ok (.iload_n 1, 1) := by decide +kernel
theorem dX9_refuseTopic_10 : decode cX9_refuseTopic 10 = .ok (.iconst 4, 1) := by decide +kernel
theorem dX9_refuseTopic_11 : decode cX9_refuseTopic 11 = .ok (.invokestatic 93, 3) := by decide +kernel
theorem dX9_refuseTopic_14 : decode cX9_refuseTopic 14 = .ok (.ifCond .ne 6, 3) := by decide +kernel
theorem dX9_refuseTopic_17 : decode cX9_refuseTopic 17 = .ok (.bipush (-2), 2) := by decide +kernel
theorem dX9_refuseTopic_19 : decode cX9_refuseTopic 19 = .ok (.ireturn, 1) := by decide +kernel
theorem dX9_refuseTopic_20 : decode cX9_refuseTopic 20 = .ok (.iload_n 2, 1) := by decide +kernel
theorem dX9_refuseTopic_21 : decode cX9_refuseTopic 21 = .ok (.bipush 61, 2) := by decide +kernel
theorem dX9_refuseTopic_23 : decode cX9_refuseTopic 23 = .ok (.invokestatic 93, 3) := by decide +kernel
theorem dX9_refuseTopic_26 : decode cX9_refuseTopic 26 = .ok (.ifCond .eq 7, 3) := by decide +kernel
theorem dX9_refuseTopic_29 : decode cX9_refuseTopic 29 = .ok (.iconst 0, 1) := by decide +kernel
theorem dX9_refuseTopic_30 : decode cX9_refuseTopic 30 = .ok (.goto 5, 3) := by decide +kernel
theorem dX9_refuseTopic_33 : decode cX9_refuseTopic 33 = .ok (.bipush (-3), 2) := by decide +kernel
theorem dX9_refuseTopic_35 : decode cX9_refuseTopic 35 = .ok (.ireturn, 1) := by decide +kernel
theorem dX9_refuseReading_0 : decode cX9_refuseReading 0 = .ok (.iload_n 0, 1) := by decide +kernel
theorem dX9_refuseReading_1 : decode cX9_refuseReading 1 = .ok (.iconst 2, 1) := by decide +kernel
theorem dX9_refuseReading_2 : decode cX9_refuseReading 2 = .ok (.invokestatic 93, 3) := by decide +kernel
theorem dX9_refuseReading_5 : decode cX9_refuseReading 5 = .ok (.ifCond .ne 6, 3) := by decide +kernel
theorem dX9_refuseReading_8 : decode cX9_refuseReading 8 = .ok (.bipush (-2), 2) := by decide +kernel
theorem dX9_refuseReading_10 : decode cX9_refuseReading 10 = .ok (.ireturn, 1) := by decide +kernel
theorem dX9_refuseReading_11 : decode cX9_refuseReading 11 = .ok (.iload_n 1, 1) := by decide +kernel
theorem dX9_refuseReading_12 : decode cX9_refuseReading 12 = .ok (.iload_n 2, 1) := by decide +kernel
theorem dX9_refuseReading_13 : decode cX9_refuseReading 13 = .ok (.iload_n 3, 1) := by decide +kernel
theorem dX9_refuseReading_14 : decode cX9_refuseReading 14 = .ok (.invokestatic 107, 3) := by decide +kernel
theorem dX9_refuseReading_17 : decode cX9_refuseReading 17 = .ok (.istore 5, 2) := by decide +kernel
theorem dX9_refuseReading_19 : decode cX9_refuseReading 19 = .ok (.iload 5, 2) := by decide +kernel
theorem dX9_refuseReading_21 : decode cX9_refuseReading 21 = .ok (.ifCond .ne 18, 3) := by decide +kernel
theorem dX9_refuseReading_24 : decode cX9_refuseReading 24 = .ok (.iload 4, 2) := by decide +kernel
theorem dX9_refuseReading_26 : decode cX9_refuseReading 26 = .ok (.bipush 61, 2) := by decide +kernel
theorem dX9_refuseReading_28 : decode cX9_refuseReading 28 = .ok (.invokestatic 93, 3) := by decide +kernel
theorem dX9_refuseReading_31 : decode cX9_refuseReading 31 = .ok (.ifCond .ne 8, 3) := by decide +kernel
theorem dX9_refuseReading_34 : decode cX9_refuseReading 34 = .ok (.bipush (-3), 2) := by decide +kernel
theorem dX9_refuseReading_36 : decode cX9_refuseReading 36 = .ok (.goto 5, 3) := by decide +kernel
theorem dX9_refuseReading_39 : decode cX9_refuseReading 39 = .ok (.iload 5, 2) := by decide +kernel
theorem dX9_refuseReading_41 : decode cX9_refuseReading 41 = .ok (.ireturn, 1) := by decide +kernel
theorem dX9_refuseLetter_0 : decode cX9_refuseLetter 0 = .ok (.iload_n 0, 1) := by decide +kernel
theorem dX9_refuseLetter_1 : decode cX9_refuseLetter 1 = .ok (.bipush 6, 2) := by decide +kernel
theorem dX9_refuseLetter_3 : decode cX9_refuseLetter 3 = .ok (.invokestatic 93, 3) := by decide +kernel
theorem dX9_refuseLetter_6 : decode cX9_refuseLetter 6 = .ok (.ifCond .eq 11, 3) := by decide +kernel
theorem dX9_refuseLetter_9 : decode cX9_refuseLetter 9 = .ok (.iload_n 2, 1) := by decide +kernel
theorem dX9_refuseLetter_10 : decode cX9_refuseLetter 10 = .ok (.iconst 3, 1) := by decide +kernel
theorem dX9_refuseLetter_11 : decode cX9_refuseLetter 11 = .ok (.invokestatic 93, 3) := by decide +kernel
theorem dX9_refuseLetter_14 : decode cX9_refuseLetter 14 = .ok (.ifCond .ne 6, 3) := by decide +kernel
theorem dX9_refuseLetter_17 : decode cX9_refuseLetter 17 = .ok (.bipush (-2), 2) := by decide +kernel
theorem dX9_refuseLetter_19 : decode cX9_refuseLetter 19 = .ok (.ireturn, 1) := by decide +kernel
theorem dX9_refuseLetter_20 : decode cX9_refuseLetter 20 = .ok (.iload_n 3, 1) := by decide +kernel
theorem dX9_refuseLetter_21 : decode cX9_refuseLetter 21 = .ok (.iload 4, 2) := by decide +kernel
theorem dX9_refuseLetter_23 : decode cX9_refuseLetter 23 = .ok (.iload 5, 2) := by decide +kernel
theorem dX9_refuseLetter_25 : decode cX9_refuseLetter 25 = .ok (.invokestatic 107, 3) := by decide +kernel
theorem dX9_refuseLetter_28 : decode cX9_refuseLetter 28 = .ok (.istore 7, 2) := by decide +kernel
theorem dX9_refuseLetter_30 : decode cX9_refuseLetter 30 = .ok (.iload 7, 2) := by decide +kernel
theorem dX9_refuseLetter_32 : decode cX9_refuseLetter 32 = .ok (.ifCond .ne 27, 3) := by decide +kernel
theorem dX9_refuseLetter_35 : decode cX9_refuseLetter 35 = .ok (.iload_n 1, 1) := by decide +kernel
theorem dX9_refuseLetter_36 : decode cX9_refuseLetter 36 = .ok (.bipush 61, 2) := by decide +kernel
theorem dX9_refuseLetter_38 : decode cX9_refuseLetter 38 = .ok (.invokestatic 93, 3) := by decide +kernel
theorem dX9_refuseLetter_41 : decode cX9_refuseLetter 41 = .ok (.ifCond .eq 13, 3) := by decide +kernel
theorem dX9_refuseLetter_44 : decode cX9_refuseLetter 44 = .ok (.iload 6, 2) := by decide +kernel
theorem dX9_refuseLetter_46 : decode cX9_refuseLetter 46 = .ok (.bipush 10, 2) := by decide +kernel
theorem dX9_refuseLetter_48 : decode cX9_refuseLetter 48 = .ok (.invokestatic 93, 3) := by decide +kernel
theorem dX9_refuseLetter_51 : decode cX9_refuseLetter 51 = .ok (.ifCond .ne 8, 3) := by decide +kernel
theorem dX9_refuseLetter_54 : decode cX9_refuseLetter 54 = .ok (.bipush (-3), 2) := by decide +kernel
theorem dX9_refuseLetter_56 : decode cX9_refuseLetter 56 = .ok (.goto 5, 3) := by decide +kernel
theorem dX9_refuseLetter_59 : decode cX9_refuseLetter 59 = .ok (.iload 7, 2) := by decide +kernel
theorem dX9_refuseLetter_61 : decode cX9_refuseLetter 61 = .ok (.ireturn, 1) := by decide +kernel
theorem dX9_topicOf_0 : decode cX9_topicOf 0 = .ok (.iload_n 0, 1) := by decide +kernel
theorem dX9_topicOf_1 : decode cX9_topicOf 1 = .ok (.iconst 4, 1) := by decide +kernel
theorem dX9_topicOf_2 : decode cX9_topicOf 2 = .ok (.imul, 1) := by decide +kernel
theorem dX9_topicOf_3 : decode cX9_topicOf 3 = .ok (.iload_n 1, 1) := by decide +kernel
theorem dX9_topicOf_4 : decode cX9_topicOf 4 = .ok (.iadd, 1) := by decide +kernel
theorem dX9_topicOf_5 : decode cX9_topicOf 5 = .ok (.bipush 61, 2) := by decide +kernel
theorem dX9_topicOf_7 : decode cX9_topicOf 7 = .ok (.imul, 1) := by decide +kernel
theorem dX9_topicOf_8 : decode cX9_topicOf 8 = .ok (.iload_n 2, 1) := by decide +kernel
theorem dX9_topicOf_9 : decode cX9_topicOf 9 = .ok (.iadd, 1) := by decide +kernel
theorem dX9_topicOf_10 : decode cX9_topicOf 10 = .ok (.ireturn, 1) := by decide +kernel
theorem dX9_placeOf_0 : decode cX9_placeOf 0 = .ok (.iload_n 0, 1) := by decide +kernel
theorem dX9_placeOf_1 : decode cX9_placeOf 1 = .ok (.sipush 244, 3) := by decide +kernel
theorem dX9_placeOf_4 : decode cX9_placeOf 4 = .ok (.idiv, 1) := by decide +kernel
theorem dX9_placeOf_5 : decode cX9_placeOf 5 = .ok (.ireturn, 1) := by decide +kernel
theorem dX9_kindOf_0 : decode cX9_kindOf 0 = .ok (.iload_n 0, 1) := by decide +kernel
theorem dX9_kindOf_1 : decode cX9_kindOf 1 = .ok (.bipush 61, 2) := by decide +kernel
theorem dX9_kindOf_3 : decode cX9_kindOf 3 = .ok (.idiv, 1) := by decide +kernel
theorem dX9_kindOf_4 : decode cX9_kindOf 4 = .ok (.iconst 4, 1) := by decide +kernel
theorem dX9_kindOf_5 : decode cX9_kindOf 5 = .ok (.irem, 1) := by decide +kernel
theorem dX9_kindOf_6 : decode cX9_kindOf 6 = .ok (.ireturn, 1) := by decide +kernel
theorem dX9_dayOf_0 : decode cX9_dayOf 0 = .ok (.iload_n 0, 1) := by decide +kernel
theorem dX9_dayOf_1 : decode cX9_dayOf 1 = .ok (.bipush 61, 2) := by decide +kernel
theorem dX9_dayOf_3 : decode cX9_dayOf 3 = .ok (.irem, 1) := by decide +kernel
theorem dX9_dayOf_4 : decode cX9_dayOf 4 = .ok (.ireturn, 1) := by decide +kernel
theorem dX10_init_0 : decode cX10_init 0 = .ok (.aload_n 0, 1) := by decide +kernel
theorem dX10_init_1 : decode cX10_init 1 = .ok (.invokespecial 1, 3) := by decide +kernel
theorem dX10_init_4 : decode cX10_init 4 = .ok (.aload_n 0, 1) := by decide +kernel
theorem dX10_init_5 : decode cX10_init 5 = .ok (.bipush 8, 2) := by decide +kernel
theorem dX10_init_7 : decode cX10_init 7 = .ok (.newarray .int, 2) := by decide +kernel
theorem dX10_init_9 : decode cX10_init 9 = .ok (.dup, 1) := by decide +kernel
theorem dX10_init_10 : decode cX10_init 10 = .ok (.iconst 0, 1) := by decide +kernel
theorem dX10_init_11 : decode cX10_init 11 = .ok (.iconst 1, 1) := by decide +kernel
theorem dX10_init_12 : decode cX10_init 12 = .ok (.iastore, 1) := by decide +kernel
theorem dX10_init_13 : decode cX10_init 13 = .ok (.dup, 1) := by decide +kernel
theorem dX10_init_14 : decode cX10_init 14 = .ok (.iconst 1, 1) := by decide +kernel
theorem dX10_init_15 : decode cX10_init 15 = .ok (.iconst 2, 1) := by decide +kernel
theorem dX10_init_16 : decode cX10_init 16 = .ok (.iastore, 1) := by decide +kernel
theorem dX10_init_17 : decode cX10_init 17 = .ok (.dup, 1) := by decide +kernel
theorem dX10_init_18 : decode cX10_init 18 = .ok (.iconst 2, 1) := by decide +kernel
theorem dX10_init_19 : decode cX10_init 19 = .ok (.iconst 4, 1) := by decide +kernel
theorem dX10_init_20 : decode cX10_init 20 = .ok (.iastore, 1) := by decide +kernel
theorem dX10_init_21 : decode cX10_init 21 = .ok (.dup, 1) := by decide +kernel
theorem dX10_init_22 : decode cX10_init 22 = .ok (.iconst 3, 1) := by decide +kernel
theorem dX10_init_23 : decode cX10_init 23 = .ok (.bipush 8, 2) := by decide +kernel
theorem dX10_init_25 : decode cX10_init 25 = .ok (.iastore, 1) := by decide +kernel
theorem dX10_init_26 : decode cX10_init 26 = .ok (.dup, 1) := by decide +kernel
theorem dX10_init_27 : decode cX10_init 27 = .ok (.iconst 4, 1) := by decide +kernel
theorem dX10_init_28 : decode cX10_init 28 = .ok (.bipush 16, 2) := by decide +kernel
theorem dX10_init_30 : decode cX10_init 30 = .ok (.iastore, 1) := by decide +kernel
theorem dX10_init_31 : decode cX10_init 31 = .ok (.dup, 1) := by decide +kernel
theorem dX10_init_32 : decode cX10_init 32 = .ok (.iconst 5, 1) := by decide +kernel
theorem dX10_init_33 : decode cX10_init 33 = .ok (.bipush 32, 2) := by decide +kernel
theorem dX10_init_35 : decode cX10_init 35 = .ok (.iastore, 1) := by decide +kernel
theorem dX10_init_36 : decode cX10_init 36 = .ok (.dup, 1) := by decide +kernel
theorem dX10_init_37 : decode cX10_init 37 = .ok (.bipush 6, 2) := by decide +kernel
theorem dX10_init_39 : decode cX10_init 39 = .ok (.bipush 64, 2) := by decide +kernel
theorem dX10_init_41 : decode cX10_init 41 = .ok (.iastore, 1) := by decide +kernel
theorem dX10_init_42 : decode cX10_init 42 = .ok (.dup, 1) := by decide +kernel
theorem dX10_init_43 : decode cX10_init 43 = .ok (.bipush 7, 2) := by decide +kernel
theorem dX10_init_45 : decode cX10_init 45 = .ok (.sipush 128, 3) := by decide +kernel
theorem dX10_init_48 : decode cX10_init 48 = .ok (.iastore, 1) := by decide +kernel
theorem dX10_init_49 : decode cX10_init 49 = .ok (.putfield 7, 3) := by decide +kernel
theorem dX10_init_52 : decode cX10_init 52 = .ok (.aload_n 0, 1) := by decide +kernel
theorem dX10_init_53 : decode cX10_init 53 = .ok (.bipush 16, 2) := by decide +kernel
theorem dX10_init_55 : decode cX10_init 55 = .ok (.newarray .int, 2) := by decide +kernel
theorem dX10_init_57 : decode cX10_init 57 = .ok (.putfield 13, 3) := by decide +kernel
theorem dX10_init_60 : decode cX10_init 60 = .ok (.aload_n 0, 1) := by decide +kernel
theorem dX10_init_61 : decode cX10_init 61 = .ok (.bipush 16, 2) := by decide +kernel
theorem dX10_init_63 : decode cX10_init 63 = .ok (.newarray .int, 2) := by decide +kernel
theorem dX10_init_65 : decode cX10_init 65 = .ok (.putfield 16, 3) := by decide +kernel
theorem dX10_init_68 : decode cX10_init 68 = .ok (.aload_n 0, 1) := by decide +kernel
theorem dX10_init_69 : decode cX10_init 69 = .ok (.bipush 16, 2) := by decide +kernel
theorem dX10_init_71 : decode cX10_init 71 = .ok (.newarray .int, 2) := by decide +kernel
theorem dX10_init_73 : decode cX10_init 73 = .ok (.putfield 19, 3) := by decide +kernel
theorem dX10_init_76 : decode cX10_init 76 = .ok (.aload_n 0, 1) := by decide +kernel
theorem dX10_init_77 : decode cX10_init 77 = .ok (.bipush 16, 2) := by decide +kernel
theorem dX10_init_79 : decode cX10_init 79 = .ok (.newarray .int, 2) := by decide +kernel
theorem dX10_init_81 : decode cX10_init 81 = .ok (.putfield 22, 3) := by decide +kernel
theorem dX10_init_84 : decode cX10_init 84 = .ok (.aload_n 0, 1) := by decide +kernel
theorem dX10_init_85 : decode cX10_init 85 = .ok (.bipush 16, 2) := by decide +kernel
theorem dX10_init_87 : decode cX10_init 87 = .ok (.newarray .int, 2) := by decide +kernel
theorem dX10_init_89 : decode cX10_init 89 = .ok (.putfield 25, 3) := by decide +kernel
theorem dX10_init_92 : decode cX10_init 92 = .ok (.aload_n 0, 1) := by decide +kernel
theorem dX10_init_93 : decode cX10_init 93 = .ok (.bipush 16, 2) := by decide +kernel
theorem dX10_init_95 : decode cX10_init 95 = .ok (.newarray .boolean, 2) := by decide +kernel
theorem dX10_init_97 : decode cX10_init 97 = .ok (.putfield 28, 3) := by decide +kernel
theorem dX10_init_100 : decode cX10_init 100 = .ok (.aload_n 0, 1) := by decide +kernel
theorem dX10_init_101 : decode cX10_init 101 = .ok (.bipush 6, 2) := by decide +kernel
theorem dX10_init_103 : decode cX10_init 103 = .ok (.newarray .int, 2) := by decide +kernel
theorem dX10_init_105 : decode cX10_init 105 = .ok (.putfield 32, 3) := by decide +kernel
theorem dX10_init_108 : decode cX10_init 108 = .ok (.aload_n 0, 1) := by decide +kernel
theorem dX10_init_109 : decode cX10_init 109 = .ok (.sipush 160, 3) := by decide +kernel
theorem dX10_init_112 : decode cX10_init 112 = .ok (.newarray .int, 2) := by decide +kernel
theorem dX10_init_114 : decode cX10_init 114 = .ok (.putfield 35, 3) := by decide +kernel
theorem dX10_init_117 : decode cX10_init 117 = .ok (.aload_n 0, 1) := by decide +kernel
theorem dX10_init_118 : decode cX10_init 118 = .ok (.bipush 7, 2) := by decide +kernel
theorem dX10_init_120 : decode cX10_init 120 = .ok (.newarray .int, 2) := by decide +kernel
theorem dX10_init_122 : decode cX10_init 122 = .ok (.putfield 38, 3) := by decide +kernel
theorem dX10_init_125 : decode cX10_init 125 = .ok (.aload_n 0, 1) := by decide +kernel
theorem dX10_init_126 : decode cX10_init 126 = .ok (.bipush 56, 2) := by decide +kernel
theorem dX10_init_128 : decode cX10_init 128 = .ok (.newarray .int, 2) := by decide +kernel
theorem dX10_init_130 : decode cX10_init 130 = .ok (.putfield 41, 3) := by decide +kernel
theorem dX10_init_133 : decode cX10_init 133 = .ok (.aload_n 0, 1) := by decide +kernel
theorem dX10_init_134 : decode cX10_init 134 = .ok (.bipush 56, 2) := by decide +kernel
theorem dX10_init_136 : decode cX10_init 136 = .ok (.newarray .int, 2) := by decide +kernel
theorem dX10_init_138 : decode cX10_init 138 = .ok (.putfield 44, 3) := by decide +kernel
theorem dX10_init_141 : decode cX10_init 141 = .ok (.aload_n 0, 1) := by decide +kernel
theorem dX10_init_142 : decode cX10_init 142 = .ok (.bipush 56, 2) := by decide +kernel
theorem dX10_init_144 : decode cX10_init 144 = .ok (.newarray .int, 2) := by decide +kernel
theorem dX10_init_146 : decode cX10_init 146 = .ok (.putfield 47, 3) := by decide +kernel
theorem dX10_init_149 : decode cX10_init 149 = .ok (.aload_n 0, 1) := by decide +kernel
theorem dX10_init_150 : decode cX10_init 150 = .ok (.bipush 18, 2) := by decide +kernel
theorem dX10_init_152 : decode cX10_init 152 = .ok (.newarray .int, 2) := by decide +kernel
theorem dX10_init_154 : decode cX10_init 154 = .ok (.dup, 1) := by decide +kernel
theorem dX10_init_155 : decode cX10_init 155 = .ok (.iconst 0, 1) := by decide +kernel
theorem dX10_init_156 : decode cX10_init 156 = .ok (.bipush 50, 2) := by decide +kernel
theorem dX10_init_158 : decode cX10_init 158 = .ok (.iastore, 1) := by decide +kernel
theorem dX10_init_159 : decode cX10_init 159 = .ok (.dup, 1) := by decide +kernel
theorem dX10_init_160 : decode cX10_init 160 = .ok (.iconst 1, 1) := by decide +kernel
theorem dX10_init_161 : decode cX10_init 161 = .ok (.bipush 10, 2) := by decide +kernel
theorem dX10_init_163 : decode cX10_init 163 = .ok (.iastore, 1) := by decide +kernel
theorem dX10_init_164 : decode cX10_init 164 = .ok (.dup, 1) := by decide +kernel
theorem dX10_init_165 : decode cX10_init 165 = .ok (.iconst 2, 1) := by decide +kernel
theorem dX10_init_166 : decode cX10_init 166 = .ok (.bipush 30, 2) := by decide +kernel
theorem dX10_init_168 : decode cX10_init 168 = .ok (.iastore, 1) := by decide +kernel
theorem dX10_init_169 : decode cX10_init 169 = .ok (.dup, 1) := by decide +kernel
theorem dX10_init_170 : decode cX10_init 170 = .ok (.iconst 3, 1) := by decide +kernel
theorem dX10_init_171 : decode cX10_init 171 = .ok (.iconst 0, 1) := by decide +kernel
theorem dX10_init_172 : decode cX10_init 172 = .ok (.iastore, 1) := by decide +kernel
theorem dX10_init_173 : decode cX10_init 173 = .ok (.dup, 1) := by decide +kernel
theorem dX10_init_174 : decode cX10_init 174 = .ok (.iconst 4, 1) := by decide +kernel
theorem dX10_init_175 : decode cX10_init 175 = .ok (.iconst 0, 1) := by decide +kernel
theorem dX10_init_176 : decode cX10_init 176 = .ok (.iastore, 1) := by decide +kernel
theorem dX10_init_177 : decode cX10_init 177 = .ok (.dup, 1) := by decide +kernel
theorem dX10_init_178 : decode cX10_init 178 = .ok (.iconst 5, 1) := by decide +kernel
theorem dX10_init_179 : decode cX10_init 179 = .ok (.bipush 40, 2) := by decide +kernel
theorem dX10_init_181 : decode cX10_init 181 = .ok (.iastore, 1) := by decide +kernel
theorem dX10_init_182 : decode cX10_init 182 = .ok (.dup, 1) := by decide +kernel
theorem dX10_init_183 : decode cX10_init 183 = .ok (.bipush 6, 2) := by decide +kernel
theorem dX10_init_185 : decode cX10_init 185 = .ok (.bipush 50, 2) := by decide +kernel
theorem dX10_init_187 : decode cX10_init 187 = .ok (.iastore, 1) := by decide +kernel
theorem dX10_init_188 : decode cX10_init 188 = .ok (.dup, 1) := by decide +kernel
theorem dX10_init_189 : decode cX10_init 189 = .ok (.bipush 7, 2) := by decide +kernel
theorem dX10_init_191 : decode cX10_init 191 = .ok (.bipush 10, 2) := by decide +kernel
theorem dX10_init_193 : decode cX10_init 193 = .ok (.iastore, 1) := by decide +kernel
theorem dX10_init_194 : decode cX10_init 194 = .ok (.dup, 1) := by decide +kernel
theorem dX10_init_195 : decode cX10_init 195 = .ok (.bipush 8, 2) := by decide +kernel
theorem dX10_init_197 : decode cX10_init 197 = .ok (.bipush 30, 2) := by decide +kernel
theorem dX10_init_199 : decode cX10_init 199 = .ok (.iastore, 1) := by decide +kernel
theorem dX10_init_200 : decode cX10_init 200 = .ok (.dup, 1) := by decide +kernel
theorem dX10_init_201 : decode cX10_init 201 = .ok (.bipush 9, 2) := by decide +kernel
theorem dX10_init_203 : decode cX10_init 203 = .ok (.iconst 0, 1) := by decide +kernel
theorem dX10_init_204 : decode cX10_init 204 = .ok (.iastore, 1) := by decide +kernel
theorem dX10_init_205 : decode cX10_init 205 = .ok (.dup, 1) := by decide +kernel
theorem dX10_init_206 : decode cX10_init 206 = .ok (.bipush 10, 2) := by decide +kernel
theorem dX10_init_208 : decode cX10_init 208 = .ok (.iconst 0, 1) := by decide +kernel
theorem dX10_init_209 : decode cX10_init 209 = .ok (.iastore, 1) := by decide +kernel
theorem dX10_init_210 : decode cX10_init 210 = .ok (.dup, 1) := by decide +kernel
theorem dX10_init_211 : decode cX10_init 211 = .ok (.bipush 11, 2) := by decide +kernel
theorem dX10_init_213 : decode cX10_init 213 = .ok (.bipush 40, 2) := by decide +kernel
theorem dX10_init_215 : decode cX10_init 215 = .ok (.iastore, 1) := by decide +kernel
theorem dX10_init_216 : decode cX10_init 216 = .ok (.dup, 1) := by decide +kernel
theorem dX10_init_217 : decode cX10_init 217 = .ok (.bipush 12, 2) := by decide +kernel
theorem dX10_init_219 : decode cX10_init 219 = .ok (.bipush 50, 2) := by decide +kernel
theorem dX10_init_221 : decode cX10_init 221 = .ok (.iastore, 1) := by decide +kernel
theorem dX10_init_222 : decode cX10_init 222 = .ok (.dup, 1) := by decide +kernel
theorem dX10_init_223 : decode cX10_init 223 = .ok (.bipush 13, 2) := by decide +kernel
theorem dX10_init_225 : decode cX10_init 225 = .ok (.bipush 10, 2) := by decide +kernel
theorem dX10_init_227 : decode cX10_init 227 = .ok (.iastore, 1) := by decide +kernel
theorem dX10_init_228 : decode cX10_init 228 = .ok (.dup, 1) := by decide +kernel
theorem dX10_init_229 : decode cX10_init 229 = .ok (.bipush 14, 2) := by decide +kernel
theorem dX10_init_231 : decode cX10_init 231 = .ok (.bipush 30, 2) := by decide +kernel
theorem dX10_init_233 : decode cX10_init 233 = .ok (.iastore, 1) := by decide +kernel
theorem dX10_init_234 : decode cX10_init 234 = .ok (.dup, 1) := by decide +kernel
theorem dX10_init_235 : decode cX10_init 235 = .ok (.bipush 15, 2) := by decide +kernel
theorem dX10_init_237 : decode cX10_init 237 = .ok (.iconst 0, 1) := by decide +kernel
theorem dX10_init_238 : decode cX10_init 238 = .ok (.iastore, 1) := by decide +kernel
theorem dX10_init_239 : decode cX10_init 239 = .ok (.dup, 1) := by decide +kernel
theorem dX10_init_240 : decode cX10_init 240 = .ok (.bipush 16, 2) := by decide +kernel
theorem dX10_init_242 : decode cX10_init 242 = .ok (.iconst 0, 1) := by decide +kernel
theorem dX10_init_243 : decode cX10_init 243 = .ok (.iastore, 1) := by decide +kernel
theorem dX10_init_244 : decode cX10_init 244 = .ok (.dup, 1) := by decide +kernel
theorem dX10_init_245 : decode cX10_init 245 = .ok (.bipush 17, 2) := by decide +kernel
theorem dX10_init_247 : decode cX10_init 247 = .ok (.bipush 40, 2) := by decide +kernel
theorem dX10_init_249 : decode cX10_init 249 = .ok (.iastore, 1) := by decide +kernel
theorem dX10_init_250 : decode cX10_init 250 = .ok (.putfield 50, 3) := by decide +kernel
theorem dX10_init_253 : decode cX10_init 253 = .ok (.aload_n 0, 1) := by decide +kernel
theorem dX10_init_254 : decode cX10_init 254 = .ok (.iconst 3, 1) := by decide +kernel
theorem dX10_init_255 : decode cX10_init 255 = .ok (.newarray .int, 2) := by decide +kernel
theorem dX10_init_257 : decode cX10_init 257 = .ok (.dup, 1) := by decide +kernel
theorem dX10_init_258 : decode cX10_init 258 = .ok (.iconst 0, 1) := by decide +kernel
theorem dX10_init_259 : decode cX10_init 259 = .ok (.iconst 3, 1) := by decide +kernel
theorem dX10_init_260 : decode cX10_init 260 = .ok (.iastore, 1) := by decide +kernel
theorem dX10_init_261 : decode cX10_init 261 = .ok (.dup, 1) := by decide +kernel
theorem dX10_init_262 : decode cX10_init 262 = .ok (.iconst 1, 1) := by decide +kernel
theorem dX10_init_263 : decode cX10_init 263 = .ok (.iconst 0, 1) := by decide +kernel
theorem dX10_init_264 : decode cX10_init 264 = .ok (.iastore, 1) := by decide +kernel
theorem dX10_init_265 : decode cX10_init 265 = .ok (.dup, 1) := by decide +kernel
theorem dX10_init_266 : decode cX10_init 266 = .ok (.iconst 2, 1) := by decide +kernel
theorem dX10_init_267 : decode cX10_init 267 = .ok (.bipush 9, 2) := by decide +kernel
theorem dX10_init_269 : decode cX10_init 269 = .ok (.iastore, 1) := by decide +kernel
theorem dX10_init_270 : decode cX10_init 270 = .ok (.putfield 53, 3) := by decide +kernel
theorem dX10_init_273 : decode cX10_init 273 = .ok (.aload_n 0, 1) := by decide +kernel
theorem dX10_init_274 : decode cX10_init 274 = .ok (.bipush 34, 2) := by decide +kernel
theorem dX10_init_276 : decode cX10_init 276 = .ok (.newarray .int, 2) := by decide +kernel
theorem dX10_init_278 : decode cX10_init 278 = .ok (.putfield 56, 3) := by decide +kernel
theorem dX10_init_281 : decode cX10_init 281 = .ok (.aload_n 0, 1) := by decide +kernel
theorem dX10_init_282 : decode cX10_init 282 = .ok (.bipush 34, 2) := by decide +kernel
theorem dX10_init_284 : decode cX10_init 284 = .ok (.newarray .int, 2) := by decide +kernel
theorem dX10_init_286 : decode cX10_init 286 = .ok (.putfield 59, 3) := by decide +kernel
theorem dX10_init_289 : decode cX10_init 289 = .ok (.aload_n 0, 1) := by decide +kernel
theorem dX10_init_290 : decode cX10_init 290 = .ok (.bipush 34, 2) := by decide +kernel
theorem dX10_init_292 : decode cX10_init 292 = .ok (.newarray .int, 2) := by decide +kernel
theorem dX10_init_294 : decode cX10_init 294 = .ok (.putfield 62, 3) := by decide +kernel
theorem dX10_init_297 : decode cX10_init 297 = .ok (.aload_n 0, 1) := by decide +kernel
theorem dX10_init_298 : decode cX10_init 298 = .ok (.bipush 34, 2) := by decide +kernel
theorem dX10_init_300 : decode cX10_init 300 = .ok (.newarray .int, 2) := by decide +kernel
theorem dX10_init_302 : decode cX10_init 302 = .ok (.putfield 65, 3) := by decide +kernel
theorem dX10_init_305 : decode cX10_init 305 = .ok (.aload_n 0, 1) := by decide +kernel
theorem dX10_init_306 : decode cX10_init 306 = .ok (.bipush 34, 2) := by decide +kernel
theorem dX10_init_308 : decode cX10_init 308 = .ok (.newarray .int, 2) := by decide +kernel
theorem dX10_init_310 : decode cX10_init 310 = .ok (.putfield 68, 3) := by decide +kernel
theorem dX10_init_313 : decode cX10_init 313 = .ok (.aload_n 0, 1) := by decide +kernel
theorem dX10_init_314 : decode cX10_init 314 = .ok (.bipush 34, 2) := by decide +kernel
theorem dX10_init_316 : decode cX10_init 316 = .ok (.newarray .int, 2) := by decide +kernel
theorem dX10_init_318 : decode cX10_init 318 = .ok (.putfield 71, 3) := by decide +kernel
theorem dX10_init_321 : decode cX10_init 321 = .ok (.aload_n 0, 1) := by decide +kernel
theorem dX10_init_322 : decode cX10_init 322 = .ok (.bipush 34, 2) := by decide +kernel
theorem dX10_init_324 : decode cX10_init 324 = .ok (.newarray .int, 2) := by decide +kernel
theorem dX10_init_326 : decode cX10_init 326 = .ok (.putfield 74, 3) := by decide +kernel
theorem dX10_init_329 : decode cX10_init 329 = .ok (.aload_n 0, 1) := by decide +kernel
theorem dX10_init_330 : decode cX10_init 330 = .ok (.bipush 10, 2) := by decide +kernel
theorem dX10_init_332 : decode cX10_init 332 = .ok (.newarray .int, 2) := by decide +kernel
theorem dX10_init_334 : decode cX10_init 334 = .ok (.putfield 77, 3) := by decide +kernel
theorem dX10_init_337 : decode cX10_init 337 = .ok (.aload_n 0, 1) := by decide +kernel
theorem dX10_init_338 : decode cX10_init 338 = .ok (.bipush 10, 2) := by decide +kernel
theorem dX10_init_340 : decode cX10_init 340 = .ok (.newarray .int, 2) := by decide +kernel
theorem dX10_init_342 : decode cX10_init 342 = .ok (.putfield 80, 3) := by decide +kernel
theorem dX10_init_345 : decode cX10_init 345 = .ok (.aload_n 0, 1) := by decide +kernel
theorem dX10_init_346 : decode cX10_init 346 = .ok (.bipush 12, 2) := by decide +kernel
theorem dX10_init_348 : decode cX10_init 348 = .ok (.newarray .int, 2) := by decide +kernel
theorem dX10_init_350 : decode cX10_init 350 = .ok (.putfield 83, 3) := by decide +kernel
theorem dX10_init_353 : decode cX10_init 353 = .ok (.aload_n 0, 1) := by decide +kernel
theorem dX10_init_354 : decode cX10_init 354 = .ok (.bipush 12, 2) := by decide +kernel
theorem dX10_init_356 : decode cX10_init 356 = .ok (.newarray .int, 2) := by decide +kernel
theorem dX10_init_358 : decode cX10_init 358 = .ok (.putfield 86, 3) := by decide +kernel
theorem dX10_init_361 : decode cX10_init 361 = .ok (.aload_n 0, 1) := by decide +kernel
theorem dX10_init_362 : decode cX10_init 362 = .ok (.bipush 12, 2) := by decide +kernel
theorem dX10_init_364 : decode cX10_init 364 = .ok (.newarray .int, 2) := by decide +kernel
theorem dX10_init_366 : decode cX10_init 366 = .ok (.putfield 89, 3) := by decide +kernel
theorem dX10_init_369 : decode cX10_init 369 = .ok (.aload_n 0, 1) := by decide +kernel
theorem dX10_init_370 : decode cX10_init 370 = .ok (.iconst 2, 1) := by decide +kernel
theorem dX10_init_371 : decode cX10_init 371 = .ok (.newarray .int, 2) := by decide +kernel
theorem dX10_init_373 : decode cX10_init 373 = .ok (.putfield 92, 3) := by decide +kernel
theorem dX10_init_376 : decode cX10_init 376 = .ok (.aload_n 0, 1) := by decide +kernel
theorem dX10_init_377 : decode cX10_init 377 = .ok (.iconst 4, 1) := by decide +kernel
theorem dX10_init_378 : decode cX10_init 378 = .ok (.newarray .int, 2) := by decide +kernel
theorem dX10_init_380 : decode cX10_init 380 = .ok (.putfield 95, 3) := by decide +kernel
theorem dX10_init_383 : decode cX10_init 383 = .ok (.aload_n 0, 1) := by decide +kernel
theorem dX10_init_384 : decode cX10_init 384 = .ok (.iconst 4, 1) := by decide +kernel
theorem dX10_init_385 : decode cX10_init 385 = .ok (.newarray .int, 2) := by decide +kernel
theorem dX10_init_387 : decode cX10_init 387 = .ok (.putfield 98, 3) := by decide +kernel
theorem dX10_init_390 : decode cX10_init 390 = .ok (.aload_n 0, 1) := by decide +kernel
theorem dX10_init_391 : decode cX10_init 391 = .ok (.iconst 4, 1) := by decide +kernel
theorem dX10_init_392 : decode cX10_init 392 = .ok (.newarray .int, 2) := by decide +kernel
theorem dX10_init_394 : decode cX10_init 394 = .ok (.putfield 101, 3) := by decide +kernel
theorem dX10_init_397 : decode cX10_init 397 = .ok (.aload_n 0, 1) := by decide +kernel
theorem dX10_init_398 : decode cX10_init 398 = .ok (.iconst 4, 1) := by decide +kernel
theorem dX10_init_399 : decode cX10_init 399 = .ok (.newarray .int, 2) := by decide +kernel
theorem dX10_init_401 : decode cX10_init 401 = .ok (.putfield 104, 3) := by decide +kernel
theorem dX10_init_404 : decode cX10_init 404 = .ok (.aload_n 0, 1) := by decide +kernel
theorem dX10_init_405 : decode cX10_init 405 = .ok (.bipush 12, 2) := by decide +kernel
theorem dX10_init_407 : decode cX10_init 407 = .ok (.newarray .int, 2) := by decide +kernel
theorem dX10_init_409 : decode cX10_init 409 = .ok (.putfield 107, 3) := by decide +kernel
theorem dX10_init_412 : decode cX10_init 412 = .ok (.aload_n 0, 1) := by decide +kernel
theorem dX10_init_413 : decode cX10_init 413 = .ok (.bipush 12, 2) := by decide +kernel
theorem dX10_init_415 : decode cX10_init 415 = .ok (.newarray .int, 2) := by decide +kernel
theorem dX10_init_417 : decode cX10_init 417 = .ok (.putfield 110, 3) := by decide +kernel
theorem dX10_init_420 : decode cX10_init 420 = .ok (.aload_n 0, 1) := by decide +kernel
theorem dX10_init_421 : decode cX10_init 421 = .ok (.bipush 12, 2) := by decide +kernel
theorem dX10_init_423 : decode cX10_init 423 = .ok (.newarray .int, 2) := by decide +kernel
theorem dX10_init_425 : decode cX10_init 425 = .ok (.putfield 113, 3) := by decide +kernel
theorem dX10_init_428 : decode cX10_init 428 = .ok (.aload_n 0, 1) := by decide +kernel
theorem dX10_init_429 : decode cX10_init 429 = .ok (.bipush 12, 2) := by decide +kernel
theorem dX10_init_431 : decode cX10_init 431 = .ok (.newarray .int, 2) := by decide +kernel
theorem dX10_init_433 : decode cX10_init 433 = .ok (.putfield 116, 3) := by decide +kernel
theorem dX10_init_436 : decode cX10_init 436 = .ok (.return_, 1) := by decide +kernel
theorem dX10_in_0 : decode cX10_in 0 = .ok (.lload_n 0, 1) := by decide +kernel
theorem dX10_in_1 : decode cX10_in 1 = .ok (.lload_n 2, 1) := by decide +kernel
theorem dX10_in_2 : decode cX10_in 2 = .ok (.lcmp, 1) := by decide +kernel
theorem dX10_in_3 : decode cX10_in 3 = .ok (.ifCond .lt 14, 3) := by decide +kernel
theorem dX10_in_6 : decode cX10_in 6 = .ok (.lload_n 0, 1) := by decide +kernel
theorem dX10_in_7 : decode cX10_in 7 = .ok (.lload 4, 2) := by decide +kernel
theorem dX10_in_9 : decode cX10_in 9 = .ok (.lcmp, 1) := by decide +kernel
theorem dX10_in_10 : decode cX10_in 10 = .ok (.ifCond .gt 7, 3) := by decide +kernel
theorem dX10_in_13 : decode cX10_in 13 = .ok (.iconst 1, 1) := by decide +kernel
theorem dX10_in_14 : decode cX10_in 14 = .ok (.goto 4, 3) := by decide +kernel
theorem dX10_in_17 : decode cX10_in 17 = .ok (.iconst 0, 1) := by decide +kernel
theorem dX10_in_18 : decode cX10_in 18 = .ok (.ireturn, 1) := by decide +kernel
theorem dX10_isPlace_0 : decode cX10_isPlace 0 = .ok (.iload_n 0, 1) := by decide +kernel
theorem dX10_isPlace_1 : decode cX10_isPlace 1 = .ok (.i2l, 1) := by decide +kernel
theorem dX10_isPlace_2 : decode cX10_isPlace 2 = .ok (.lconst 0, 1) := by decide +kernel
theorem dX10_isPlace_3 : decode cX10_isPlace 3 = .ok (.ldc2_w 119, 3) := by decide +kernel
theorem dX10_isPlace_6 : decode cX10_isPlace 6 = .ok (.invokestatic 121, 3) := by decide +kernel
theorem dX10_isPlace_9 : decode cX10_isPlace 9 = .ok (.ireturn, 1) := by decide +kernel
theorem dX10_isKind_0 : decode cX10_isKind 0 = .ok (.iload_n 0, 1) := by decide +kernel
theorem dX10_isKind_1 : decode cX10_isKind 1 = .ok (.i2l, 1) := by decide +kernel
theorem dX10_isKind_2 : decode cX10_isKind 2 = .ok (.lconst 0, 1) := by decide +kernel
theorem dX10_isKind_3 : decode cX10_isKind 3 = .ok (.ldc2_w 125, 3) := by decide +kernel
theorem dX10_isKind_6 : decode cX10_isKind 6 = .ok (.invokestatic 121, 3) := by decide +kernel
theorem dX10_isKind_9 : decode cX10_isKind 9 = .ok (.ireturn, 1) := by decide +kernel
theorem dX10_isDay_0 : decode cX10_isDay 0 = .ok (.iload_n 0, 1) := by decide +kernel
theorem dX10_isDay_1 : decode cX10_isDay 1 = .ok (.i2l, 1) := by decide +kernel
theorem dX10_isDay_2 : decode cX10_isDay 2 = .ok (.lconst 0, 1) := by decide +kernel
theorem dX10_isDay_3 : decode cX10_isDay 3 = .ok (.ldc2_w 127, 3) := by decide +kernel
theorem dX10_isDay_6 : decode cX10_isDay 6 = .ok (.invokestatic 121, 3) := by decide +kernel
theorem dX10_isDay_9 : decode cX10_isDay 9 = .ok (.ireturn, 1) := by decide +kernel
theorem dX10_isAgent_0 : decode cX10_isAgent 0 = .ok (.iload_n 0, 1) := by decide +kernel
theorem dX10_isAgent_1 : decode cX10_isAgent 1 = .ok (.i2l, 1) := by decide +kernel
theorem dX10_isAgent_2 : decode cX10_isAgent 2 = .ok (.lconst 0, 1) := by decide +kernel
theorem dX10_isAgent_3 : decode cX10_isAgent 3 = .ok (.ldc2_w 129, 3) := by decide +kernel
theorem dX10_isAgent_6 : decode cX10_isAgent 6 = .ok (.invokestatic 121, 3) := by decide +kernel
theorem dX10_isAgent_9 : decode cX10_isAgent 9 = .ok (.ireturn, 1) := by decide +kernel
theorem dX10_isReader_0 : decode cX10_isReader 0 = .ok (.iload_n 0, 1) := by decide +kernel
theorem dX10_isReader_1 : decode cX10_isReader 1 = .ok (.i2l, 1) := by decide +kernel
theorem dX10_isReader_2 : decode cX10_isReader 2 = .ok (.lconst 0, 1) := by decide +kernel
theorem dX10_isReader_3 : decode cX10_isReader 3 = .ok (.lconst 1, 1) := by decide +kernel
theorem dX10_isReader_4 : decode cX10_isReader 4 = .ok (.invokestatic 121, 3) := by decide +kernel
theorem dX10_isReader_7 : decode cX10_isReader 7 = .ok (.ireturn, 1) := by decide +kernel
theorem dX10_isWay_0 : decode cX10_isWay 0 = .ok (.iload_n 0, 1) := by decide +kernel
theorem dX10_isWay_1 : decode cX10_isWay 1 = .ok (.i2l, 1) := by decide +kernel
theorem dX10_isWay_2 : decode cX10_isWay 2 = .ok (.lconst 0, 1) := by decide +kernel
theorem dX10_isWay_3 : decode cX10_isWay 3 = .ok (.ldc2_w 131, 3) := by decide +kernel
theorem dX10_isWay_6 : decode cX10_isWay 6 = .ok (.invokestatic 121, 3) := by decide +kernel
theorem dX10_isWay_9 : decode cX10_isWay 9 = .ok (.ireturn, 1) := by decide +kernel
theorem dX10_view_0 : decode cX10_view 0 = .ok (.iload_n 1, 1) := by decide +kernel
theorem dX10_view_1 : decode cX10_view 1 = .ok (.invokestatic 133, 3) := by decide +kernel
theorem dX10_view_4 : decode cX10_view 4 = .ok (.ifCond .ne 6, 3) := by decide +kernel
theorem dX10_view_7 : decode cX10_view 7 = .ok (.bipush (-2), 2) := by decide +kernel
theorem dX10_view_9 : decode cX10_view 9 = .ok (.ireturn, 1) := by decide +kernel
theorem dX10_view_10 : decode cX10_view 10 = .ok (.iload_n 2, 1) := by decide +kernel
theorem dX10_view_11 : decode cX10_view 11 = .ok (.i2l, 1) := by decide +kernel
theorem dX10_view_12 : decode cX10_view 12 = .ok (.lconst 0, 1) := by decide +kernel
theorem dX10_view_13 : decode cX10_view 13 = .ok (.ldc2_w 137, 3) := by decide +kernel
theorem dX10_view_16 : decode cX10_view 16 = .ok (.invokestatic 121, 3) := by decide +kernel
theorem dX10_view_19 : decode cX10_view 19 = .ok (.ifCond .ne 6, 3) := by decide +kernel
theorem dX10_view_22 : decode cX10_view 22 = .ok (.bipush (-3), 2) := by decide +kernel
theorem dX10_view_24 : decode cX10_view 24 = .ok (.ireturn, 1) := by decide +kernel
theorem dX10_view_25 : decode cX10_view 25 = .ok (.aload_n 0, 1) := by decide +kernel
theorem dX10_view_26 : decode cX10_view 26 = .ok (.getfield 7, 3) := by decide +kernel
theorem dX10_view_29 : decode cX10_view 29 = .ok (.iload_n 1, 1) := by decide +kernel
theorem dX10_view_30 : decode cX10_view 30 = .ok (.iaload, 1) := by decide +kernel
theorem dX10_view_31 : decode cX10_view 31 = .ok (.istore_n 3, 1) := by decide +kernel
theorem dX10_view_32 : decode cX10_view 32 = .ok (.aload_n 0, 1) := by decide +kernel
theorem dX10_view_33 : decode cX10_view 33 = .ok (.getfield 7, 3) := by decide +kernel
theorem dX10_view_36 : decode cX10_view 36 = .ok (.iload_n 1, 1) := by decide +kernel
theorem dX10_view_37 : decode cX10_view 37 = .ok (.iload_n 2, 1) := by decide +kernel
theorem dX10_view_38 : decode cX10_view 38 = .ok (.iastore, 1) := by decide +kernel
theorem dX10_view_39 : decode cX10_view 39 = .ok (.iload_n 3, 1) := by decide +kernel
theorem dX10_view_40 : decode cX10_view 40 = .ok (.ireturn, 1) := by decide +kernel
theorem dX10_fact_0 : decode cX10_fact 0 = .ok (.iload_n 1, 1) := by decide +kernel
theorem dX10_fact_1 : decode cX10_fact 1 = .ok (.invokestatic 133, 3) := by decide +kernel
theorem dX10_fact_4 : decode cX10_fact 4 = .ok (.ifCond .eq 10, 3) := by decide +kernel
theorem dX10_fact_7 : decode cX10_fact 7 = .ok (.iload_n 2, 1) := by decide +kernel
theorem dX10_fact_8 : decode cX10_fact 8 = .ok (.invokestatic 139, 3) := by decide +kernel
theorem dX10_fact_11 : decode cX10_fact 11 = .ok (.ifCond .ne 6, 3) := by decide +kernel
theorem dX10_fact_14 : decode cX10_fact 14 = .ok (.bipush (-2), 2) := by decide +kernel
theorem dX10_fact_16 : decode cX10_fact 16 = .ok (.ireturn, 1) := by decide +kernel
theorem dX10_fact_17 : decode cX10_fact 17 = .ok (.iload_n 3, 1) := by decide +kernel
theorem dX10_fact_18 : decode cX10_fact 18 = .ok (.invokestatic 142, 3) := by decide +kernel
theorem dX10_fact_21 : decode cX10_fact 21 = .ok (.ifCond .eq 30, 3) := by decide +kernel
theorem dX10_fact_24 : decode cX10_fact 24 = .ok (.iload 4, 2) := by decide +kernel
theorem dX10_fact_26 : decode cX10_fact 26 = .ok (.i2l, 1) := by decide +kernel
theorem dX10_fact_27 : decode cX10_fact 27 = .ok (.iload_n 3, 1) := by decide +kernel
theorem dX10_fact_28 : decode cX10_fact 28 = .ok (.i2l, 1) := by decide +kernel
theorem dX10_fact_29 : decode cX10_fact 29 = .ok (.ldc2_w 127, 3) := by decide +kernel
theorem dX10_fact_32 : decode cX10_fact 32 = .ok (.invokestatic 121, 3) := by decide +kernel
theorem dX10_fact_35 : decode cX10_fact 35 = .ok (.ifCond .eq 16, 3) := by decide +kernel
theorem dX10_fact_38 : decode cX10_fact 38 = .ok (.iload 5, 2) := by decide +kernel
theorem dX10_fact_40 : decode cX10_fact 40 = .ok (.i2l, 1) := by decide +kernel
theorem dX10_fact_41 : decode cX10_fact 41 = .ok (.lconst 1, 1) := by decide +kernel
theorem dX10_fact_42 : decode cX10_fact 42 = .ok (.ldc2_w 145, 3) := by decide +kernel
theorem dX10_fact_45 : decode cX10_fact 45 = .ok (.invokestatic 121, 3) := by decide +kernel
theorem dX10_fact_48 : decode cX10_fact 48 = .ok (.ifCond .ne 6, 3) := by decide +kernel
theorem dX10_fact_51 : decode cX10_fact 51 = .ok (.bipush (-3), 2) := by decide +kernel
theorem dX10_fact_53 : decode cX10_fact 53 = .ok (.ireturn, 1) := by decide +kernel
theorem dX10_fact_54 : decode cX10_fact 54 = .ok (.aload_n 0, 1) := by decide +kernel
theorem dX10_fact_55 : decode cX10_fact 55 = .ok (.getfield 147, 3) := by decide +kernel
theorem dX10_fact_58 : decode cX10_fact 58 = .ok (.bipush 16, 2) := by decide +kernel
theorem dX10_fact_60 : decode cX10_fact 60 = .ok (.if_icmp .ne 6, 3) := by decide +kernel
theorem dX10_fact_63 : decode cX10_fact 63 = .ok (.bipush (-5), 2) := by decide +kernel
theorem dX10_fact_65 : decode cX10_fact 65 = .ok (.ireturn, 1) := by decide +kernel
theorem dX10_fact_66 : decode cX10_fact 66 = .ok (.aload_n 0, 1) := by decide +kernel
theorem dX10_fact_67 : decode cX10_fact 67 = .ok (.getfield 13, 3) := by decide +kernel
theorem dX10_fact_70 : decode cX10_fact 70 = .ok (.aload_n 0, 1) := by decide +kernel
theorem dX10_fact_71 : decode cX10_fact 71 = .ok (.getfield 147, 3) := by decide +kernel
theorem dX10_fact_74 : decode cX10_fact 74 = .ok (.iload_n 1, 1) := by decide +kernel
theorem dX10_fact_75 : decode cX10_fact 75 = .ok (.iastore, 1) := by decide +kernel
theorem dX10_fact_76 : decode cX10_fact 76 = .ok (.aload_n 0, 1) := by decide +kernel
theorem dX10_fact_77 : decode cX10_fact 77 = .ok (.getfield 16, 3) := by decide +kernel
theorem dX10_fact_80 : decode cX10_fact 80 = .ok (.aload_n 0, 1) := by decide +kernel
theorem dX10_fact_81 : decode cX10_fact 81 = .ok (.getfield 147, 3) := by decide +kernel
theorem dX10_fact_84 : decode cX10_fact 84 = .ok (.iload_n 2, 1) := by decide +kernel
theorem dX10_fact_85 : decode cX10_fact 85 = .ok (.iastore, 1) := by decide +kernel
theorem dX10_fact_86 : decode cX10_fact 86 = .ok (.aload_n 0, 1) := by decide +kernel
theorem dX10_fact_87 : decode cX10_fact 87 = .ok (.getfield 19, 3) := by decide +kernel
theorem dX10_fact_90 : decode cX10_fact 90 = .ok (.aload_n 0, 1) := by decide +kernel
theorem dX10_fact_91 : decode cX10_fact 91 = .ok (.getfield 147, 3) := by decide +kernel
theorem dX10_fact_94 : decode cX10_fact 94 = .ok (.iload_n 3, 1) := by decide +kernel
theorem dX10_fact_95 : decode cX10_fact 95 = .ok (.iastore, 1) := by decide +kernel
theorem dX10_fact_96 : decode cX10_fact 96 = .ok (.aload_n 0, 1) := by decide +kernel
theorem dX10_fact_97 : decode cX10_fact 97 = .ok (.getfield 22, 3) := by decide +kernel
theorem dX10_fact_100 : decode cX10_fact 100 = .ok (.aload_n 0, 1) := by decide +kernel
theorem dX10_fact_101 : decode cX10_fact 101 = .ok (.getfield 147, 3) := by decide +kernel
theorem dX10_fact_104 : decode cX10_fact 104 = .ok (.iload 4, 2) := by decide +kernel
theorem dX10_fact_106 : decode cX10_fact 106 = .ok (.iastore, 1) := by decide +kernel
theorem dX10_fact_107 : decode cX10_fact 107 = .ok (.aload_n 0, 1) := by decide +kernel
theorem dX10_fact_108 : decode cX10_fact 108 = .ok (.getfield 25, 3) := by decide +kernel
theorem dX10_fact_111 : decode cX10_fact 111 = .ok (.aload_n 0, 1) := by decide +kernel
theorem dX10_fact_112 : decode cX10_fact 112 = .ok (.getfield 147, 3) := by decide +kernel
theorem dX10_fact_115 : decode cX10_fact 115 = .ok (.iload 5, 2) := by decide +kernel
theorem dX10_fact_117 : decode cX10_fact 117 = .ok (.iastore, 1) := by decide +kernel
theorem dX10_fact_118 : decode cX10_fact 118 = .ok (.aload_n 0, 1) := by decide +kernel
theorem dX10_fact_119 : decode cX10_fact 119 = .ok (.getfield 28, 3) := by decide +kernel
theorem dX10_fact_122 : decode cX10_fact 122 = .ok (.aload_n 0, 1) := by decide +kernel
theorem dX10_fact_123 : decode cX10_fact 123 = .ok (.getfield 147, 3) := by decide +kernel
theorem dX10_fact_126 : decode cX10_fact 126 = .ok (.iload 6, 2) := by decide +kernel
theorem dX10_fact_128 : decode cX10_fact 128 = .ok (.bastore, 1) := by decide +kernel
theorem dX10_fact_129 : decode cX10_fact 129 = .ok (.aload_n 0, 1) := by decide +kernel
theorem dX10_fact_130 : decode cX10_fact 130 = .ok (.dup, 1) := by decide +kernel
theorem dX10_fact_131 : decode cX10_fact 131 = .ok (.getfield 147, 3) := by decide +kernel
theorem dX10_fact_134 : decode cX10_fact 134 = .ok (.iconst 1, 1) := by decide +kernel
theorem dX10_fact_135 : decode cX10_fact 135 = .ok (.iadd, 1) := by decide +kernel
theorem dX10_fact_136 : decode cX10_fact 136 = .ok (.putfield 147, 3) := by decide +kernel
theorem dX10_fact_139 : decode cX10_fact 139 = .ok (.aload_n 0, 1) := by decide +kernel
theorem dX10_fact_140 : decode cX10_fact 140 = .ok (.getfield 147, 3) := by decide +kernel
theorem dX10_fact_143 : decode cX10_fact 143 = .ok (.iconst 1, 1) := by decide +kernel
theorem dX10_fact_144 : decode cX10_fact 144 = .ok (.isub, 1) := by decide +kernel
theorem dX10_fact_145 : decode cX10_fact 145 = .ok (.ireturn, 1) := by decide +kernel
theorem dX10_worldOf_0 : decode cX10_worldOf 0 = .ok (.iconst 0, 1) := by decide +kernel
theorem dX10_worldOf_1 : decode cX10_worldOf 1 = .ok (.istore 4, 2) := by decide +kernel
theorem dX10_worldOf_3 : decode cX10_worldOf 3 = .ok (.iconst 0, 1) := by decide +kernel
theorem dX10_worldOf_4 : decode cX10_worldOf 4 = .ok (.istore 5, 2) := by decide +kernel
theorem dX10_worldOf_6 : decode cX10_worldOf 6 = .ok (.iload 5, 2) := by decide +kernel
theorem dX10_worldOf_8 : decode cX10_worldOf 8 = .ok (.aload_n 0, 1) := by decide +kernel
theorem dX10_worldOf_9 : decode cX10_worldOf 9 = .ok (.getfield 147, 3) := by decide +kernel
theorem dX10_worldOf_12 : decode cX10_worldOf 12 = .ok (.if_icmp .ge 69, 3) := by decide +kernel
theorem dX10_worldOf_15 : decode cX10_worldOf 15 = .ok (.aload_n 0, 1) := by decide +kernel
theorem dX10_worldOf_16 : decode cX10_worldOf 16 = .ok (.getfield 13, 3) := by decide +kernel
theorem dX10_worldOf_19 : decode cX10_worldOf 19 = .ok (.iload 5, 2) := by decide +kernel
theorem dX10_worldOf_21 : decode cX10_worldOf 21 = .ok (.iaload, 1) := by decide +kernel
theorem dX10_worldOf_22 : decode cX10_worldOf 22 = .ok (.iload_n 1, 1) := by decide +kernel
theorem dX10_worldOf_23 : decode cX10_worldOf 23 = .ok (.if_icmp .ne 48, 3) := by decide +kernel
theorem dX10_worldOf_26 : decode cX10_worldOf 26 = .ok (.aload_n 0, 1) := by decide +kernel
theorem dX10_worldOf_27 : decode cX10_worldOf 27 = .ok (.getfield 16, 3) := by decide +kernel
theorem dX10_worldOf_30 : decode cX10_worldOf 30 = .ok (.iload 5, 2) := by decide +kernel
theorem dX10_worldOf_32 : decode cX10_worldOf 32 = .ok (.iaload, 1) := by decide +kernel
theorem dX10_worldOf_33 : decode cX10_worldOf 33 = .ok (.iload_n 2, 1) := by decide +kernel
theorem dX10_worldOf_34 : decode cX10_worldOf 34 = .ok (.if_icmp .ne 37, 3) := by decide +kernel
theorem dX10_worldOf_37 : decode cX10_worldOf 37 = .ok (.iload_n 3, 1) := by decide +kernel
theorem dX10_worldOf_38 : decode cX10_worldOf 38 = .ok (.i2l, 1) := by decide +kernel
theorem dX10_worldOf_39 : decode cX10_worldOf 39 = .ok (.aload_n 0, 1) := by decide +kernel
theorem dX10_worldOf_40 : decode cX10_worldOf 40 = .ok (.getfield 19, 3) := by decide +kernel
theorem dX10_worldOf_43 : decode cX10_worldOf 43 = .ok (.iload 5, 2) := by decide +kernel
theorem dX10_worldOf_45 : decode cX10_worldOf 45 = .ok (.iaload, 1) := by decide +kernel
theorem dX10_worldOf_46 : decode cX10_worldOf 46 = .ok (.i2l, 1) := by decide +kernel
theorem dX10_worldOf_47 : decode cX10_worldOf 47 = .ok (.aload_n 0, 1) := by decide +kernel
theorem dX10_worldOf_48 : decode cX10_worldOf 48 = .ok (.getfield 22, 3) := by decide +kernel
theorem dX10_worldOf_51 : decode cX10_worldOf 51 = .ok (.iload 5, 2) := by decide +kernel
theorem dX10_worldOf_53 : decode cX10_worldOf 53 = .ok (.iaload, 1) := by decide +kernel
theorem dX10_worldOf_54 : decode cX10_worldOf 54 = .ok (.i2l, 1) := by decide +kernel
theorem dX10_worldOf_55 : decode cX10_worldOf 55 = .ok (.invokestatic 121, 3) := by decide +kernel
theorem dX10_worldOf_58 : decode cX10_worldOf 58 = .ok (.ifCond .eq 13, 3) := by decide +kernel
theorem dX10_worldOf_61 : decode cX10_worldOf 61 = .ok (.aload_n 0, 1) := by decide +kernel
theorem dX10_worldOf_62 : decode cX10_worldOf 62 = .ok (.getfield 25, 3) := by decide +kernel
theorem dX10_worldOf_65 : decode cX10_worldOf 65 = .ok (.iload 5, 2) := by decide +kernel
theorem dX10_worldOf_67 : decode cX10_worldOf 67 = .ok (.iaload, 1) := by decide +kernel
theorem dX10_worldOf_68 : decode cX10_worldOf 68 = .ok (.goto 5, 3) := by decide +kernel
theorem dX10_worldOf_71 : decode cX10_worldOf 71 = .ok (.iload 4, 2) := by decide +kernel
theorem dX10_worldOf_73 : decode cX10_worldOf 73 = .ok (.istore 4, 2) := by decide +kernel
theorem dX10_worldOf_75 : decode cX10_worldOf 75 = .ok (.iinc 5 1, 3) := by decide +kernel
theorem dX10_worldOf_78 : decode cX10_worldOf 78 = .ok (.goto (-72), 3) := by decide +kernel
theorem dX10_worldOf_81 : decode cX10_worldOf 81 = .ok (.iload 4, 2) := by decide +kernel
theorem dX10_worldOf_83 : decode cX10_worldOf 83 = .ok (.ireturn, 1) := by decide +kernel
theorem dX10_world_0 : decode cX10_world 0 = .ok (.iload_n 1, 1) := by decide +kernel
theorem dX10_world_1 : decode cX10_world 1 = .ok (.invokestatic 133, 3) := by decide +kernel
theorem dX10_world_4 : decode cX10_world 4 = .ok (.ifCond .eq 10, 3) := by decide +kernel
theorem dX10_world_7 : decode cX10_world 7 = .ok (.iload_n 2, 1) := by decide +kernel
theorem dX10_world_8 : decode cX10_world 8 = .ok (.invokestatic 139, 3) := by decide +kernel
theorem dX10_world_11 : decode cX10_world 11 = .ok (.ifCond .ne 6, 3) := by decide +kernel
theorem dX10_world_14 : decode cX10_world 14 = .ok (.bipush (-2), 2) := by decide +kernel
theorem dX10_world_16 : decode cX10_world 16 = .ok (.ireturn, 1) := by decide +kernel
theorem dX10_world_17 : decode cX10_world 17 = .ok (.iload_n 3, 1) := by decide +kernel
theorem dX10_world_18 : decode cX10_world 18 = .ok (.invokestatic 142, 3) := by decide +kernel
theorem dX10_world_21 : decode cX10_world 21 = .ok (.ifCond .eq 13, 3) := by decide +kernel
theorem dX10_world_24 : decode cX10_world 24 = .ok (.aload_n 0, 1) := by decide +kernel
theorem dX10_world_25 : decode cX10_world 25 = .ok (.iload_n 1, 1) := by decide +kernel
theorem dX10_world_26 : decode cX10_world 26 = .ok (.iload_n 2, 1) := by decide +kernel
theorem dX10_world_27 : decode cX10_world 27 = .ok (.iload_n 3, 1) := by decide +kernel
theorem dX10_world_28 : decode cX10_world 28 = .ok (.invokevirtual 151, 3) := by decide +kernel
theorem dX10_world_31 : decode cX10_world 31 = .ok (.goto 5, 3) := by decide +kernel
theorem dX10_world_34 : decode cX10_world 34 = .ok (.bipush (-3), 2) := by decide +kernel
theorem dX10_world_36 : decode cX10_world 36 = .ok (.ireturn, 1) := by decide +kernel
theorem dX10_home_0 : decode cX10_home 0 = .ok (.iload_n 1, 1) := by decide +kernel
theorem dX10_home_1 : decode cX10_home 1 = .ok (.invokestatic 155, 3) := by decide +kernel
theorem dX10_home_4 : decode cX10_home 4 = .ok (.ifCond .eq 10, 3) := by decide +kernel
theorem dX10_home_7 : decode cX10_home 7 = .ok (.iload_n 2, 1) := by decide +kernel
theorem dX10_home_8 : decode cX10_home 8 = .ok (.invokestatic 133, 3) := by decide +kernel
theorem dX10_home_11 : decode cX10_home 11 = .ok (.ifCond .ne 6, 3) := by decide +kernel
theorem dX10_home_14 : decode cX10_home 14 = .ok (.bipush (-2), 2) := by decide +kernel
theorem dX10_home_16 : decode cX10_home 16 = .ok (.ireturn, 1) := by decide +kernel
theorem dX10_home_17 : decode cX10_home 17 = .ok (.aload_n 0, 1) := by decide +kernel
theorem dX10_home_18 : decode cX10_home 18 = .ok (.getfield 32, 3) := by decide +kernel
theorem dX10_home_21 : decode cX10_home 21 = .ok (.iload_n 1, 1) := by decide +kernel
theorem dX10_home_22 : decode cX10_home 22 = .ok (.iaload, 1) := by decide +kernel
theorem dX10_home_23 : decode cX10_home 23 = .ok (.istore_n 3, 1) := by decide +kernel
theorem dX10_home_24 : decode cX10_home 24 = .ok (.aload_n 0, 1) := by decide +kernel
theorem dX10_home_25 : decode cX10_home 25 = .ok (.getfield 32, 3) := by decide +kernel
theorem dX10_home_28 : decode cX10_home 28 = .ok (.iload_n 1, 1) := by decide +kernel
theorem dX10_home_29 : decode cX10_home 29 = .ok (.iload_n 2, 1) := by decide +kernel
theorem dX10_home_30 : decode cX10_home 30 = .ok (.iastore, 1) := by decide +kernel
theorem dX10_home_31 : decode cX10_home 31 = .ok (.iload_n 3, 1) := by decide +kernel
theorem dX10_home_32 : decode cX10_home 32 = .ok (.ireturn, 1) := by decide +kernel
theorem dX10_write_0 : decode cX10_write 0 = .ok (.iload_n 3, 1) := by decide +kernel
theorem dX10_write_1 : decode cX10_write 1 = .ok (.i2l, 1) := by decide +kernel
theorem dX10_write_2 : decode cX10_write 2 = .ok (.lconst 1, 1) := by decide +kernel
theorem dX10_write_3 : decode cX10_write 3 = .ok (.ldc2_w 158, 3) := by decide +kernel
theorem dX10_write_6 : decode cX10_write 6 = .ok (.invokestatic 121, 3) := by decide +kernel
theorem dX10_write_9 : decode cX10_write 9 = .ok (.ifCond .ne 6, 3) := by decide +kernel
theorem dX10_write_12 : decode cX10_write 12 = .ok (.bipush (-3), 2) := by decide +kernel
theorem dX10_write_14 : decode cX10_write 14 = .ok (.ireturn, 1) := by decide +kernel
theorem dX10_write_15 : decode cX10_write 15 = .ok (.aload_n 0, 1) := by decide +kernel
theorem dX10_write_16 : decode cX10_write 16 = .ok (.getfield 160, 3) := by decide +kernel
theorem dX10_write_19 : decode cX10_write 19 = .ok (.iload_n 3, 1) := by decide +kernel
theorem dX10_write_20 : decode cX10_write 20 = .ok (.iadd, 1) := by decide +kernel
theorem dX10_write_21 : decode cX10_write 21 = .ok (.sipush 160, 3) := by decide +kernel
theorem dX10_write_24 : decode cX10_write 24 = .ok (.if_icmp .le 6, 3) := by decide +kernel
theorem dX10_write_27 : decode cX10_write 27 = .ok (.bipush (-5), 2) := by decide +kernel
theorem dX10_write_29 : decode cX10_write 29 = .ok (.ireturn, 1) := by decide +kernel
theorem dX10_write_30 : decode cX10_write 30 = .ok (.iconst 0, 1) := by decide +kernel
theorem dX10_write_31 : decode cX10_write 31 = .ok (.istore 4, 2) := by decide +kernel
theorem dX10_write_33 : decode cX10_write 33 = .ok (.iload 4, 2) := by decide +kernel
theorem dX10_write_35 : decode cX10_write 35 = .ok (.iload_n 3, 1) := by decide +kernel
theorem dX10_write_36 : decode cX10_write 36 = .ok (.if_icmp .ge 40, 3) := by decide +kernel
theorem dX10_write_39 : decode cX10_write 39 = .ok (.aload_n 0, 1) := by decide +kernel
theorem dX10_write_40 : decode cX10_write 40 = .ok (.getfield 35, 3) := by decide +kernel
theorem dX10_write_43 : decode cX10_write 43 = .ok (.aload_n 0, 1) := by decide +kernel
theorem dX10_write_44 : decode cX10_write 44 = .ok (.getfield 160, 3) := by decide +kernel
theorem dX10_write_47 : decode cX10_write 47 = .ok (.lload_n 1, 1) := by decide +kernel
theorem dX10_write_48 : decode cX10_write 48 = .ok (.bipush 8, 2) := by decide +kernel
theorem dX10_write_50 : decode cX10_write 50 = .ok (.iload 4, 2) := by decide +kernel
theorem dX10_write_52 : decode cX10_write 52 = .ok (.imul, 1) := by decide +kernel
theorem dX10_write_53 : decode cX10_write 53 = .ok (.lshr, 1) := by decide +kernel
theorem dX10_write_54 : decode cX10_write 54 = .ok (.ldc2_w 137, 3) := by decide +kernel
theorem dX10_write_57 : decode cX10_write 57 = .ok (.land, 1) := by decide +kernel
theorem dX10_write_58 : decode cX10_write 58 = .ok (.l2i, 1) := by decide +kernel
theorem dX10_write_59 : decode cX10_write 59 = .ok (.iastore, 1) := by decide +kernel
theorem dX10_write_60 : decode cX10_write 60 = .ok (.aload_n 0, 1) := by decide +kernel
theorem dX10_write_61 : decode cX10_write 61 = .ok (.dup, 1) := by decide +kernel
theorem dX10_write_62 : decode cX10_write 62 = .ok (.getfield 160, 3) := by decide +kernel
theorem dX10_write_65 : decode cX10_write 65 = .ok (.iconst 1, 1) := by decide +kernel
theorem dX10_write_66 : decode cX10_write 66 = .ok (.iadd, 1) := by decide +kernel
theorem dX10_write_67 : decode cX10_write 67 = .ok (.putfield 160, 3) := by decide +kernel
theorem dX10_write_70 : decode cX10_write 70 = .ok (.iinc 4 1, 3) := by decide +kernel
theorem dX10_write_73 : decode cX10_write 73 = .ok (.goto (-40), 3) := by decide +kernel
theorem dX10_write_76 : decode cX10_write 76 = .ok (.aload_n 0, 1) := by decide +kernel
theorem dX10_write_77 : decode cX10_write 77 = .ok (.getfield 160, 3) := by decide +kernel
theorem dX10_write_80 : decode cX10_write 80 = .ok (.ireturn, 1) := by decide +kernel
theorem dX10_erase_0 : decode cX10_erase 0 = .ok (.aload_n 0, 1) := by decide +kernel
theorem dX10_erase_1 : decode cX10_erase 1 = .ok (.getfield 160, 3) := by decide +kernel
theorem dX10_erase_4 : decode cX10_erase 4 = .ok (.istore_n 1, 1) := by decide +kernel
theorem dX10_erase_5 : decode cX10_erase 5 = .ok (.aload_n 0, 1) := by decide +kernel
theorem dX10_erase_6 : decode cX10_erase 6 = .ok (.iconst 0, 1) := by decide +kernel
theorem dX10_erase_7 : decode cX10_erase 7 = .ok (.putfield 160, 3) := by decide +kernel
theorem dX10_erase_10 : decode cX10_erase 10 = .ok (.iload_n 1, 1) := by decide +kernel
theorem dX10_erase_11 : decode cX10_erase 11 = .ok (.ireturn, 1) := by decide +kernel
theorem dX10_sort_0 : decode cX10_sort 0 = .ok (.iload_n 0, 1) := by decide +kernel
theorem dX10_sort_1 : decode cX10_sort 1 = .ok (.bipush 97, 2) := by decide +kernel
theorem dX10_sort_3 : decode cX10_sort 3 = .ok (.if_icmp .lt 13, 3) := by decide +kernel
theorem dX10_sort_6 : decode cX10_sort 6 = .ok (.iload_n 0, 1) := by decide +kernel
theorem dX10_sort_7 : decode cX10_sort 7 = .ok (.bipush 122, 2) := by decide +kernel
theorem dX10_sort_9 : decode cX10_sort 9 = .ok (.if_icmp .gt 7, 3) := by decide +kernel
theorem dX10_sort_12 : decode cX10_sort 12 = .ok (.iconst 1, 1) := by decide +kernel
theorem dX10_sort_13 : decode cX10_sort 13 = .ok (.goto 20, 3) := by decide +kernel
theorem dX10_sort_16 : decode cX10_sort 16 = .ok (.iload_n 0, 1) := by decide +kernel
theorem dX10_sort_17 : decode cX10_sort 17 = .ok (.bipush 48, 2) := by decide +kernel
theorem dX10_sort_19 : decode cX10_sort 19 = .ok (.if_icmp .lt 13, 3) := by decide +kernel
theorem dX10_sort_22 : decode cX10_sort 22 = .ok (.iload_n 0, 1) := by decide +kernel
theorem dX10_sort_23 : decode cX10_sort 23 = .ok (.bipush 57, 2) := by decide +kernel
theorem dX10_sort_25 : decode cX10_sort 25 = .ok (.if_icmp .gt 7, 3) := by decide +kernel
theorem dX10_sort_28 : decode cX10_sort 28 = .ok (.iconst 2, 1) := by decide +kernel
theorem dX10_sort_29 : decode cX10_sort 29 = .ok (.goto 4, 3) := by decide +kernel
theorem dX10_sort_32 : decode cX10_sort 32 = .ok (.iconst 0, 1) := by decide +kernel
theorem dX10_sort_33 : decode cX10_sort 33 = .ok (.ireturn, 1) := by decide +kernel
theorem dX10_token_0 : decode cX10_token 0 = .ok (.aload_n 0, 1) := by decide +kernel
theorem dX10_token_1 : decode cX10_token 1 = .ok (.getfield 163, 3) := by decide +kernel
theorem dX10_token_4 : decode cX10_token 4 = .ok (.aload_n 0, 1) := by decide +kernel
theorem dX10_token_5 : decode cX10_token 5 = .ok (.getfield 160, 3) := by decide +kernel
theorem dX10_token_8 : decode cX10_token 8 = .ok (.if_icmp .ge 30, 3) := by decide +kernel
theorem dX10_token_11 : decode cX10_token 11 = .ok (.aload_n 0, 1) := by decide +kernel
theorem dX10_token_12 : decode cX10_token 12 = .ok (.getfield 35, 3) := by decide +kernel
theorem dX10_token_15 : decode cX10_token 15 = .ok (.aload_n 0, 1) := by decide +kernel
theorem dX10_token_16 : decode cX10_token 16 = .ok (.getfield 163, 3) := by decide +kernel
theorem dX10_token_19 : decode cX10_token 19 = .ok (.iaload, 1) := by decide +kernel
theorem dX10_token_20 : decode cX10_token 20 = .ok (.bipush 32, 2) := by decide +kernel
theorem dX10_token_22 : decode cX10_token 22 = .ok (.if_icmp .ne 16, 3) := by decide +kernel
theorem dX10_token_25 : decode cX10_token 25 = .ok (.aload_n 0, 1) := by decide +kernel
theorem dX10_token_26 : decode cX10_token 26 = .ok (.dup, 1) := by decide +kernel
theorem dX10_token_27 : decode cX10_token 27 = .ok (.getfield 163, 3) := by decide +kernel
theorem dX10_token_30 : decode cX10_token 30 = .ok (.iconst 1, 1) := by decide +kernel
theorem dX10_token_31 : decode cX10_token 31 = .ok (.iadd, 1) := by decide +kernel
theorem dX10_token_32 : decode cX10_token 32 = .ok (.putfield 163, 3) := by decide +kernel
theorem dX10_token_35 : decode cX10_token 35 = .ok (.goto (-35), 3) := by decide +kernel
theorem dX10_token_38 : decode cX10_token 38 = .ok (.aload_n 0, 1) := by decide +kernel
theorem dX10_token_39 : decode cX10_token 39 = .ok (.aload_n 0, 1) := by decide +kernel
theorem dX10_token_40 : decode cX10_token 40 = .ok (.getfield 163, 3) := by decide +kernel
theorem dX10_token_43 : decode cX10_token 43 = .ok (.putfield 166, 3) := by decide +kernel
theorem dX10_token_46 : decode cX10_token 46 = .ok (.aload_n 0, 1) := by decide +kernel
theorem dX10_token_47 : decode cX10_token 47 = .ok (.dup, 1) := by decide +kernel
theorem dX10_token_48 : decode cX10_token 48 = .ok (.getfield 163, 3) := by decide +kernel
theorem dX10_token_51 : decode cX10_token 51 = .ok (.aload_n 0, 1) := by decide +kernel
theorem dX10_token_52 : decode cX10_token 52 = .ok (.getfield 163, 3) := by decide +kernel
theorem dX10_token_55 : decode cX10_token 55 = .ok (.aload_n 0, 1) := by decide +kernel
theorem dX10_token_56 : decode cX10_token 56 = .ok (.getfield 160, 3) := by decide +kernel
theorem dX10_token_59 : decode cX10_token 59 = .ok (.if_icmp .ge 7, 3) := by decide +kernel
theorem dX10_token_62 : decode cX10_token 62 = .ok (.iconst 1, 1) := by decide +kernel
theorem dX10_token_63 : decode cX10_token 63 = .ok (.goto 4, 3) := by decide +kernel
theorem dX10_token_66 : decode cX10_token 66 = .ok (.iconst 0, 1) := by decide +kernel
theorem dX10_token_67 : decode cX10_token 67 = .ok (.iadd, 1) := by decide +kernel
theorem dX10_token_68 : decode cX10_token 68 = .ok (.putfield 163, 3) := by decide +kernel
theorem dX10_token_71 : decode cX10_token 71 = .ok (.aload_n 0, 1) := by decide +kernel
theorem dX10_token_72 : decode cX10_token 72 = .ok (.getfield 163, 3) := by decide +kernel
theorem dX10_token_75 : decode cX10_token 75 = .ok (.aload_n 0, 1) := by decide +kernel
theorem dX10_token_76 : decode cX10_token 76 = .ok (.getfield 160, 3) := by decide +kernel
theorem dX10_token_79 : decode cX10_token 79 = .ok (.if_icmp .ge 58, 3) := by decide +kernel
theorem dX10_token_82 : decode cX10_token 82 = .ok (.aload_n 0, 1) := by decide +kernel
theorem dX10_token_83 : decode cX10_token 83 = .ok (.getfield 35, 3) := by decide +kernel
theorem dX10_token_86 : decode cX10_token 86 = .ok (.aload_n 0, 1) := by decide +kernel
theorem dX10_token_87 : decode cX10_token 87 = .ok (.getfield 166, 3) := by decide +kernel
theorem dX10_token_90 : decode cX10_token 90 = .ok (.iaload, 1) := by decide +kernel
theorem dX10_token_91 : decode cX10_token 91 = .ok (.invokestatic 169, 3) := by decide +kernel
theorem dX10_token_94 : decode cX10_token 94 = .ok (.ifCond .le 43, 3) := by decide +kernel
theorem dX10_token_97 : decode cX10_token 97 = .ok (.aload_n 0, 1) := by decide +kernel
theorem dX10_token_98 : decode cX10_token 98 = .ok (.getfield 35, 3) := by decide +kernel
theorem dX10_token_101 : decode cX10_token 101 = .ok (.aload_n 0, 1) := by decide +kernel
theorem dX10_token_102 : decode cX10_token 102 = .ok (.getfield 163, 3) := by decide +kernel
theorem dX10_token_105 : decode cX10_token 105 = .ok (.iaload, 1) := by decide +kernel
theorem dX10_token_106 : decode cX10_token 106 = .ok (.invokestatic 169, 3) := by decide +kernel
theorem dX10_token_109 : decode cX10_token 109 = .ok (.aload_n 0, 1) := by decide +kernel
theorem dX10_token_110 : decode cX10_token 110 = .ok (.getfield 35, 3) := by decide +kernel
theorem dX10_token_113 : decode cX10_token 113 = .ok (.aload_n 0, 1) := by decide +kernel
theorem dX10_token_114 : decode cX10_token 114 = .ok (.getfield 166, 3) := by decide +kernel
theorem dX10_token_117 : decode cX10_token 117 = .ok (.iaload, 1) := by decide +kernel
theorem dX10_token_118 : decode cX10_token 118 = .ok (.invokestatic 169, 3) := by decide +kernel
theorem dX10_token_121 : decode cX10_token 121 = .ok (.if_icmp .ne 16, 3) := by decide +kernel
theorem dX10_token_124 : decode cX10_token 124 = .ok (.aload_n 0, 1) := by decide +kernel
theorem dX10_token_125 : decode cX10_token 125 = .ok (.dup, 1) := by decide +kernel
theorem dX10_token_126 : decode cX10_token 126 = .ok (.getfield 163, 3) := by decide +kernel
theorem dX10_token_129 : decode cX10_token 129 = .ok (.iconst 1, 1) := by decide +kernel
theorem dX10_token_130 : decode cX10_token 130 = .ok (.iadd, 1) := by decide +kernel
theorem dX10_token_131 : decode cX10_token 131 = .ok (.putfield 163, 3) := by decide +kernel
theorem dX10_token_134 : decode cX10_token 134 = .ok (.goto (-63), 3) := by decide +kernel
theorem dX10_token_137 : decode cX10_token 137 = .ok (.aload_n 0, 1) := by decide +kernel
theorem dX10_token_138 : decode cX10_token 138 = .ok (.aload_n 0, 1) := by decide +kernel
theorem dX10_token_139 : decode cX10_token 139 = .ok (.getfield 163, 3) := by decide +kernel
theorem dX10_token_142 : decode cX10_token 142 = .ok (.putfield 173, 3) := by decide +kernel
theorem dX10_token_145 : decode cX10_token 145 = .ok (.return_, 1) := by decide +kernel
theorem dX10_isWord_0 : decode cX10_isWord 0 = .ok (.aload_n 0, 1) := by decide +kernel
theorem dX10_isWord_1 : decode cX10_isWord 1 = .ok (.getfield 173, 3) := by decide +kernel
theorem dX10_isWord_4 : decode cX10_isWord 4 = .ok (.aload_n 0, 1) := by decide +kernel
theorem dX10_isWord_5 : decode cX10_isWord 5 = .ok (.getfield 166, 3) := by decide +kernel
theorem dX10_isWord_8 : decode cX10_isWord 8 = .ok (.isub, 1) := by decide +kernel
end
section
theorem dX10_isWord_9 : decode cX10_isWord 9 = .ok (.iload_n 2, 1) := by decide +kernel
theorem dX10_isWord_10 : decode cX10_isWord 10 = .ok (.if_icmp .ne 7, 3) := by decide +kernel
theorem dX10_isWord_13 : decode cX10_isWord 13 = .ok (.iconst 1, 1) := by decide +kernel
theorem dX10_isWord_14 : decode cX10_isWord 14 = .ok (.goto 4, 3) := by decide +kernel
theorem dX10_isWord_17 : decode cX10_isWord 17 = .ok (.iconst 0, 1) := by decide +kernel
theorem dX10_isWord_18 : decode cX10_isWord 18 = .ok (.istore_n 3, 1) := by decide +kernel
theorem dX10_isWord_19 : decode cX10_isWord 19 = .ok (.iconst 0, 1) := by decide +kernel
theorem dX10_isWord_20 : decode cX10_isWord 20 = .ok (.istore 4, 2) := by decide +kernel
theorem dX10_isWord_22 : decode cX10_isWord 22 = .ok (.iload_n 3, 1) := by decide +kernel
theorem dX10_isWord_23 : decode cX10_isWord 23 = .ok (.ifCond .eq 48, 3) := by decide +kernel
theorem dX10_isWord_26 : decode cX10_isWord 26 = .ok (.iload 4, 2) := by decide +kernel
theorem dX10_isWord_28 : decode cX10_isWord 28 = .ok (.iload_n 2, 1) := by decide +kernel
theorem dX10_isWord_29 : decode cX10_isWord 29 = .ok (.if_icmp .ge 42, 3) := by decide +kernel
theorem dX10_isWord_32 : decode cX10_isWord 32 = .ok (.aload_n 0, 1) := by decide +kernel
theorem dX10_isWord_33 : decode cX10_isWord 33 = .ok (.getfield 35, 3) := by decide +kernel
theorem dX10_isWord_36 : decode cX10_isWord 36 = .ok (.aload_n 0, 1) := by decide +kernel
theorem dX10_isWord_37 : decode cX10_isWord 37 = .ok (.getfield 166, 3) := by decide +kernel
theorem dX10_isWord_40 : decode cX10_isWord 40 = .ok (.iload 4, 2) := by decide +kernel
theorem dX10_isWord_42 : decode cX10_isWord 42 = .ok (.iadd, 1) := by decide +kernel
theorem dX10_isWord_43 : decode cX10_isWord 43 = .ok (.iaload, 1) := by decide +kernel
theorem dX10_isWord_44 : decode cX10_isWord 44 = .ok (.bipush 96, 2) := by decide +kernel
theorem dX10_isWord_46 : decode cX10_isWord 46 = .ok (.iload_n 1, 1) := by decide +kernel
theorem dX10_isWord_47 : decode cX10_isWord 47 = .ok (.iconst 5, 1) := by decide +kernel
theorem dX10_isWord_48 : decode cX10_isWord 48 = .ok (.iload 4, 2) := by decide +kernel
theorem dX10_isWord_50 : decode cX10_isWord 50 = .ok (.imul, 1) := by decide +kernel
theorem dX10_isWord_51 : decode cX10_isWord 51 = .ok (.ishr, 1) := by decide +kernel
theorem dX10_isWord_52 : decode cX10_isWord 52 = .ok (.bipush 31, 2) := by decide +kernel
theorem dX10_isWord_54 : decode cX10_isWord 54 = .ok (.iand, 1) := by decide +kernel
theorem dX10_isWord_55 : decode cX10_isWord 55 = .ok (.iadd, 1) := by decide +kernel
theorem dX10_isWord_56 : decode cX10_isWord 56 = .ok (.if_icmp .ne 7, 3) := by decide +kernel
theorem dX10_isWord_59 : decode cX10_isWord 59 = .ok (.iconst 1, 1) := by decide +kernel
theorem dX10_isWord_60 : decode cX10_isWord 60 = .ok (.goto 4, 3) := by decide +kernel
theorem dX10_isWord_63 : decode cX10_isWord 63 = .ok (.iconst 0, 1) := by decide +kernel
theorem dX10_isWord_64 : decode cX10_isWord 64 = .ok (.istore_n 3, 1) := by decide +kernel
theorem dX10_isWord_65 : decode cX10_isWord 65 = .ok (.iinc 4 1, 3) := by decide +kernel
theorem dX10_isWord_68 : decode cX10_isWord 68 = .ok (.goto (-46), 3) := by decide +kernel
theorem dX10_isWord_71 : decode cX10_isWord 71 = .ok (.iload_n 3, 1) := by decide +kernel
theorem dX10_isWord_72 : decode cX10_isWord 72 = .ok (.ireturn, 1) := by decide +kernel
theorem dX10_skips_0 : decode cX10_skips 0 = .ok (.aload_n 0, 1) := by decide +kernel
theorem dX10_skips_1 : decode cX10_skips 1 = .ok (.iload_n 1, 1) := by decide +kernel
theorem dX10_skips_2 : decode cX10_skips 2 = .ok (.iload_n 2, 1) := by decide +kernel
theorem dX10_skips_3 : decode cX10_skips 3 = .ok (.invokevirtual 176, 3) := by decide +kernel
theorem dX10_skips_6 : decode cX10_skips 6 = .ok (.istore_n 3, 1) := by decide +kernel
theorem dX10_skips_7 : decode cX10_skips 7 = .ok (.iload_n 3, 1) := by decide +kernel
theorem dX10_skips_8 : decode cX10_skips 8 = .ok (.ifCond .eq 7, 3) := by decide +kernel
theorem dX10_skips_11 : decode cX10_skips 11 = .ok (.aload_n 0, 1) := by decide +kernel
theorem dX10_skips_12 : decode cX10_skips 12 = .ok (.invokevirtual 180, 3) := by decide +kernel
theorem dX10_skips_15 : decode cX10_skips 15 = .ok (.iload_n 3, 1) := by decide +kernel
theorem dX10_skips_16 : decode cX10_skips 16 = .ok (.ireturn, 1) := by decide +kernel
theorem dX10_skipsNumber_0 : decode cX10_skipsNumber 0 = .ok (.aload_n 0, 1) := by decide +kernel
theorem dX10_skipsNumber_1 : decode cX10_skipsNumber 1 = .ok (.getfield 166, 3) := by decide +kernel
theorem dX10_skipsNumber_4 : decode cX10_skipsNumber 4 = .ok (.aload_n 0, 1) := by decide +kernel
theorem dX10_skipsNumber_5 : decode cX10_skipsNumber 5 = .ok (.getfield 160, 3) := by decide +kernel
theorem dX10_skipsNumber_8 : decode cX10_skipsNumber 8 = .ok (.if_icmp .ge 36, 3) := by decide +kernel
theorem dX10_skipsNumber_11 : decode cX10_skipsNumber 11 = .ok (.aload_n 0, 1) := by decide +kernel
theorem dX10_skipsNumber_12 : decode cX10_skipsNumber 12 = .ok (.getfield 35, 3) := by decide +kernel
theorem dX10_skipsNumber_15 : decode cX10_skipsNumber 15 = .ok (.aload_n 0, 1) := by decide +kernel
theorem dX10_skipsNumber_16 : decode cX10_skipsNumber 16 = .ok (.getfield 166, 3) := by decide +kernel
theorem dX10_skipsNumber_19 : decode cX10_skipsNumber 19 = .ok (.iaload, 1) := by decide +kernel
theorem dX10_skipsNumber_20 : decode cX10_skipsNumber 20 = .ok (.invokestatic 169, 3) := by decide +kernel
theorem dX10_skipsNumber_23 : decode cX10_skipsNumber 23 = .ok (.iconst 2, 1) := by decide +kernel
theorem dX10_skipsNumber_24 : decode cX10_skipsNumber 24 = .ok (.if_icmp .ne 20, 3) := by decide +kernel
theorem dX10_skipsNumber_27 : decode cX10_skipsNumber 27 = .ok (.aload_n 0, 1) := by decide +kernel
theorem dX10_skipsNumber_28 : decode cX10_skipsNumber 28 = .ok (.getfield 173, 3) := by decide +kernel
theorem dX10_skipsNumber_31 : decode cX10_skipsNumber 31 = .ok (.aload_n 0, 1) := by decide +kernel
theorem dX10_skipsNumber_32 : decode cX10_skipsNumber 32 = .ok (.getfield 166, 3) := by decide +kernel
theorem dX10_skipsNumber_35 : decode cX10_skipsNumber 35 = .ok (.isub, 1) := by decide +kernel
theorem dX10_skipsNumber_36 : decode cX10_skipsNumber 36 = .ok (.iconst 2, 1) := by decide +kernel
theorem dX10_skipsNumber_37 : decode cX10_skipsNumber 37 = .ok (.if_icmp .gt 7, 3) := by decide +kernel
theorem dX10_skipsNumber_40 : decode cX10_skipsNumber 40 = .ok (.iconst 1, 1) := by decide +kernel
theorem dX10_skipsNumber_41 : decode cX10_skipsNumber 41 = .ok (.goto 4, 3) := by decide +kernel
theorem dX10_skipsNumber_44 : decode cX10_skipsNumber 44 = .ok (.iconst 0, 1) := by decide +kernel
theorem dX10_skipsNumber_45 : decode cX10_skipsNumber 45 = .ok (.istore_n 3, 1) := by decide +kernel
theorem dX10_skipsNumber_46 : decode cX10_skipsNumber 46 = .ok (.aload_n 0, 1) := by decide +kernel
theorem dX10_skipsNumber_47 : decode cX10_skipsNumber 47 = .ok (.iconst 0, 1) := by decide +kernel
theorem dX10_skipsNumber_48 : decode cX10_skipsNumber 48 = .ok (.putfield 183, 3) := by decide +kernel
theorem dX10_skipsNumber_51 : decode cX10_skipsNumber 51 = .ok (.aload_n 0, 1) := by decide +kernel
theorem dX10_skipsNumber_52 : decode cX10_skipsNumber 52 = .ok (.getfield 166, 3) := by decide +kernel
theorem dX10_skipsNumber_55 : decode cX10_skipsNumber 55 = .ok (.istore 4, 2) := by decide +kernel
theorem dX10_skipsNumber_57 : decode cX10_skipsNumber 57 = .ok (.iload_n 3, 1) := by decide +kernel
theorem dX10_skipsNumber_58 : decode cX10_skipsNumber 58 = .ok (.ifCond .eq 40, 3) := by decide +kernel
theorem dX10_skipsNumber_61 : decode cX10_skipsNumber 61 = .ok (.iload 4, 2) := by decide +kernel
theorem dX10_skipsNumber_63 : decode cX10_skipsNumber 63 = .ok (.aload_n 0, 1) := by decide +kernel
theorem dX10_skipsNumber_64 : decode cX10_skipsNumber 64 = .ok (.getfield 173, 3) := by decide +kernel
theorem dX10_skipsNumber_67 : decode cX10_skipsNumber 67 = .ok (.if_icmp .ge 31, 3) := by decide +kernel
theorem dX10_skipsNumber_70 : decode cX10_skipsNumber 70 = .ok (.aload_n 0, 1) := by decide +kernel
theorem dX10_skipsNumber_71 : decode cX10_skipsNumber 71 = .ok (.bipush 10, 2) := by decide +kernel
theorem dX10_skipsNumber_73 : decode cX10_skipsNumber 73 = .ok (.aload_n 0, 1) := by decide +kernel
theorem dX10_skipsNumber_74 : decode cX10_skipsNumber 74 = .ok (.getfield 183, 3) := by decide +kernel
theorem dX10_skipsNumber_77 : decode cX10_skipsNumber 77 = .ok (.imul, 1) := by decide +kernel
theorem dX10_skipsNumber_78 : decode cX10_skipsNumber 78 = .ok (.aload_n 0, 1) := by decide +kernel
theorem dX10_skipsNumber_79 : decode cX10_skipsNumber 79 = .ok (.getfield 35, 3) := by decide +kernel
theorem dX10_skipsNumber_82 : decode cX10_skipsNumber 82 = .ok (.iload 4, 2) := by decide +kernel
theorem dX10_skipsNumber_84 : decode cX10_skipsNumber 84 = .ok (.iaload, 1) := by decide +kernel
theorem dX10_skipsNumber_85 : decode cX10_skipsNumber 85 = .ok (.iadd, 1) := by decide +kernel
theorem dX10_skipsNumber_86 : decode cX10_skipsNumber 86 = .ok (.bipush 48, 2) := by decide +kernel
theorem dX10_skipsNumber_88 : decode cX10_skipsNumber 88 = .ok (.isub, 1) := by decide +kernel
theorem dX10_skipsNumber_89 : decode cX10_skipsNumber 89 = .ok (.putfield 183, 3) := by decide +kernel
theorem dX10_skipsNumber_92 : decode cX10_skipsNumber 92 = .ok (.iinc 4 1, 3) := by decide +kernel
theorem dX10_skipsNumber_95 : decode cX10_skipsNumber 95 = .ok (.goto (-38), 3) := by decide +kernel
theorem dX10_skipsNumber_98 : decode cX10_skipsNumber 98 = .ok (.iload_n 3, 1) := by decide +kernel
theorem dX10_skipsNumber_99 : decode cX10_skipsNumber 99 = .ok (.ifCond .eq 22, 3) := by decide +kernel
theorem dX10_skipsNumber_102 : decode cX10_skipsNumber 102 = .ok (.aload_n 0, 1) := by decide +kernel
theorem dX10_skipsNumber_103 : decode cX10_skipsNumber 103 = .ok (.getfield 183, 3) := by decide +kernel
theorem dX10_skipsNumber_106 : decode cX10_skipsNumber 106 = .ok (.i2l, 1) := by decide +kernel
theorem dX10_skipsNumber_107 : decode cX10_skipsNumber 107 = .ok (.iload_n 1, 1) := by decide +kernel
theorem dX10_skipsNumber_108 : decode cX10_skipsNumber 108 = .ok (.i2l, 1) := by decide +kernel
theorem dX10_skipsNumber_109 : decode cX10_skipsNumber 109 = .ok (.iload_n 2, 1) := by decide +kernel
theorem dX10_skipsNumber_110 : decode cX10_skipsNumber 110 = .ok (.i2l, 1) := by decide +kernel
theorem dX10_skipsNumber_111 : decode cX10_skipsNumber 111 = .ok (.invokestatic 121, 3) := by decide +kernel
theorem dX10_skipsNumber_114 : decode cX10_skipsNumber 114 = .ok (.ifCond .eq 7, 3) := by decide +kernel
theorem dX10_skipsNumber_117 : decode cX10_skipsNumber 117 = .ok (.iconst 1, 1) := by decide +kernel
theorem dX10_skipsNumber_118 : decode cX10_skipsNumber 118 = .ok (.goto 4, 3) := by decide +kernel
theorem dX10_skipsNumber_121 : decode cX10_skipsNumber 121 = .ok (.iconst 0, 1) := by decide +kernel
theorem dX10_skipsNumber_122 : decode cX10_skipsNumber 122 = .ok (.istore_n 3, 1) := by decide +kernel
theorem dX10_skipsNumber_123 : decode cX10_skipsNumber 123 = .ok (.iload_n 3, 1) := by decide +kernel
theorem dX10_skipsNumber_124 : decode cX10_skipsNumber 124 = .ok (.ifCond .eq 7, 3) := by decide +kernel
theorem dX10_skipsNumber_127 : decode cX10_skipsNumber 127 = .ok (.aload_n 0, 1) := by decide +kernel
theorem dX10_skipsNumber_128 : decode cX10_skipsNumber 128 = .ok (.invokevirtual 180, 3) := by decide +kernel
theorem dX10_skipsNumber_131 : decode cX10_skipsNumber 131 = .ok (.iload_n 3, 1) := by decide +kernel
theorem dX10_skipsNumber_132 : decode cX10_skipsNumber 132 = .ok (.ireturn, 1) := by decide +kernel
theorem dX10_readsLife_0 : decode cX10_readsLife 0 = .ok (.bipush 48, 2) := by decide +kernel
theorem dX10_readsLife_2 : decode cX10_readsLife 2 = .ok (.aload_n 0, 1) := by decide +kernel
theorem dX10_readsLife_3 : decode cX10_readsLife 3 = .ok (.getfield 186, 3) := by decide +kernel
theorem dX10_readsLife_6 : decode cX10_readsLife 6 = .ok (.iadd, 1) := by decide +kernel
theorem dX10_readsLife_7 : decode cX10_readsLife 7 = .ok (.istore_n 1, 1) := by decide +kernel
theorem dX10_readsLife_8 : decode cX10_readsLife 8 = .ok (.aload_n 0, 1) := by decide +kernel
theorem dX10_readsLife_9 : decode cX10_readsLife 9 = .ok (.sipush 641, 3) := by decide +kernel
theorem dX10_readsLife_12 : decode cX10_readsLife 12 = .ok (.iconst 2, 1) := by decide +kernel
theorem dX10_readsLife_13 : decode cX10_readsLife 13 = .ok (.invokevirtual 189, 3) := by decide +kernel
theorem dX10_readsLife_16 : decode cX10_readsLife 16 = .ok (.ifCond .eq 13, 3) := by decide +kernel
theorem dX10_readsLife_19 : decode cX10_readsLife 19 = .ok (.aload_n 0, 1) := by decide +kernel
theorem dX10_readsLife_20 : decode cX10_readsLife 20 = .ok (.iconst 0, 1) := by decide +kernel
theorem dX10_readsLife_21 : decode cX10_readsLife 21 = .ok (.bipush 7, 2) := by decide +kernel
theorem dX10_readsLife_23 : decode cX10_readsLife 23 = .ok (.invokevirtual 192, 3) := by decide +kernel
theorem dX10_readsLife_26 : decode cX10_readsLife 26 = .ok (.ifCond .ne 5, 3) := by decide +kernel
theorem dX10_readsLife_29 : decode cX10_readsLife 29 = .ok (.iconst 0, 1) := by decide +kernel
theorem dX10_readsLife_30 : decode cX10_readsLife 30 = .ok (.ireturn, 1) := by decide +kernel
theorem dX10_readsLife_31 : decode cX10_readsLife 31 = .ok (.aload_n 0, 1) := by decide +kernel
theorem dX10_readsLife_32 : decode cX10_readsLife 32 = .ok (.getfield 41, 3) := by decide +kernel
theorem dX10_readsLife_35 : decode cX10_readsLife 35 = .ok (.iload_n 1, 1) := by decide +kernel
theorem dX10_readsLife_36 : decode cX10_readsLife 36 = .ok (.aload_n 0, 1) := by decide +kernel
theorem dX10_readsLife_37 : decode cX10_readsLife 37 = .ok (.getfield 183, 3) := by decide +kernel
theorem dX10_readsLife_40 : decode cX10_readsLife 40 = .ok (.iastore, 1) := by decide +kernel
theorem dX10_readsLife_41 : decode cX10_readsLife 41 = .ok (.aload_n 0, 1) := by decide +kernel
theorem dX10_readsLife_42 : decode cX10_readsLife 42 = .ok (.ldc 195, 2) := by decide +kernel
theorem dX10_readsLife_44 : decode cX10_readsLife 44 = .ok (.iconst 4, 1) := by decide +kernel
theorem dX10_readsLife_45 : decode cX10_readsLife 45 = .ok (.invokevirtual 189, 3) := by decide +kernel
theorem dX10_readsLife_48 : decode cX10_readsLife 48 = .ok (.ifCond .eq 13, 3) := by decide +kernel
theorem dX10_readsLife_51 : decode cX10_readsLife 51 = .ok (.aload_n 0, 1) := by decide +kernel
theorem dX10_readsLife_52 : decode cX10_readsLife 52 = .ok (.iconst 0, 1) := by decide +kernel
theorem dX10_readsLife_53 : decode cX10_readsLife 53 = .ok (.bipush 60, 2) := by decide +kernel
theorem dX10_readsLife_55 : decode cX10_readsLife 55 = .ok (.invokevirtual 192, 3) := by decide +kernel
theorem dX10_readsLife_58 : decode cX10_readsLife 58 = .ok (.ifCond .ne 5, 3) := by decide +kernel
theorem dX10_readsLife_61 : decode cX10_readsLife 61 = .ok (.iconst 0, 1) := by decide +kernel
theorem dX10_readsLife_62 : decode cX10_readsLife 62 = .ok (.ireturn, 1) := by decide +kernel
theorem dX10_readsLife_63 : decode cX10_readsLife 63 = .ok (.aload_n 0, 1) := by decide +kernel
theorem dX10_readsLife_64 : decode cX10_readsLife 64 = .ok (.getfield 44, 3) := by decide +kernel
theorem dX10_readsLife_67 : decode cX10_readsLife 67 = .ok (.iload_n 1, 1) := by decide +kernel
theorem dX10_readsLife_68 : decode cX10_readsLife 68 = .ok (.aload_n 0, 1) := by decide +kernel
theorem dX10_readsLife_69 : decode cX10_readsLife 69 = .ok (.getfield 183, 3) := by decide +kernel
theorem dX10_readsLife_72 : decode cX10_readsLife 72 = .ok (.iastore, 1) := by decide +kernel
theorem dX10_readsLife_73 : decode cX10_readsLife 73 = .ok (.aload_n 0, 1) := by decide +kernel
theorem dX10_readsLife_74 : decode cX10_readsLife 74 = .ok (.sipush 500, 3) := by decide +kernel
theorem dX10_readsLife_77 : decode cX10_readsLife 77 = .ok (.iconst 2, 1) := by decide +kernel
theorem dX10_readsLife_78 : decode cX10_readsLife 78 = .ok (.invokevirtual 189, 3) := by decide +kernel
theorem dX10_readsLife_81 : decode cX10_readsLife 81 = .ok (.ifCond .eq 18, 3) := by decide +kernel
theorem dX10_readsLife_84 : decode cX10_readsLife 84 = .ok (.aload_n 0, 1) := by decide +kernel
theorem dX10_readsLife_85 : decode cX10_readsLife 85 = .ok (.aload_n 0, 1) := by decide +kernel
theorem dX10_readsLife_86 : decode cX10_readsLife 86 = .ok (.getfield 44, 3) := by decide +kernel
theorem dX10_readsLife_89 : decode cX10_readsLife 89 = .ok (.iload_n 1, 1) := by decide +kernel
theorem dX10_readsLife_90 : decode cX10_readsLife 90 = .ok (.iaload, 1) := by decide +kernel
theorem dX10_readsLife_91 : decode cX10_readsLife 91 = .ok (.bipush 60, 2) := by decide +kernel
theorem dX10_readsLife_93 : decode cX10_readsLife 93 = .ok (.invokevirtual 192, 3) := by decide +kernel
theorem dX10_readsLife_96 : decode cX10_readsLife 96 = .ok (.ifCond .ne 5, 3) := by decide +kernel
theorem dX10_readsLife_99 : decode cX10_readsLife 99 = .ok (.iconst 0, 1) := by decide +kernel
theorem dX10_readsLife_100 : decode cX10_readsLife 100 = .ok (.ireturn, 1) := by decide +kernel
theorem dX10_readsLife_101 : decode cX10_readsLife 101 = .ok (.aload_n 0, 1) := by decide +kernel
theorem dX10_readsLife_102 : decode cX10_readsLife 102 = .ok (.getfield 47, 3) := by decide +kernel
theorem dX10_readsLife_105 : decode cX10_readsLife 105 = .ok (.iload_n 1, 1) := by decide +kernel
theorem dX10_readsLife_106 : decode cX10_readsLife 106 = .ok (.aload_n 0, 1) := by decide +kernel
theorem dX10_readsLife_107 : decode cX10_readsLife 107 = .ok (.getfield 183, 3) := by decide +kernel
theorem dX10_readsLife_110 : decode cX10_readsLife 110 = .ok (.iastore, 1) := by decide +kernel
theorem dX10_readsLife_111 : decode cX10_readsLife 111 = .ok (.aload_n 0, 1) := by decide +kernel
theorem dX10_readsLife_112 : decode cX10_readsLife 112 = .ok (.dup, 1) := by decide +kernel
theorem dX10_readsLife_113 : decode cX10_readsLife 113 = .ok (.getfield 186, 3) := by decide +kernel
theorem dX10_readsLife_116 : decode cX10_readsLife 116 = .ok (.iconst 1, 1) := by decide +kernel
theorem dX10_readsLife_117 : decode cX10_readsLife 117 = .ok (.iadd, 1) := by decide +kernel
theorem dX10_readsLife_118 : decode cX10_readsLife 118 = .ok (.putfield 186, 3) := by decide +kernel
theorem dX10_readsLife_121 : decode cX10_readsLife 121 = .ok (.iconst 1, 1) := by decide +kernel
theorem dX10_readsLife_122 : decode cX10_readsLife 122 = .ok (.ireturn, 1) := by decide +kernel
theorem dX10_readsTable_0 : decode cX10_readsTable 0 = .ok (.aload_n 0, 1) := by decide +kernel
theorem dX10_readsTable_1 : decode cX10_readsTable 1 = .ok (.ldc 196, 2) := by decide +kernel
theorem dX10_readsTable_3 : decode cX10_readsTable 3 = .ok (.iconst 5, 1) := by decide +kernel
theorem dX10_readsTable_4 : decode cX10_readsTable 4 = .ok (.invokevirtual 176, 3) := by decide +kernel
theorem dX10_readsTable_7 : decode cX10_readsTable 7 = .ok (.ifCond .eq 7, 3) := by decide +kernel
theorem dX10_readsTable_10 : decode cX10_readsTable 10 = .ok (.iconst 0, 1) := by decide +kernel
theorem dX10_readsTable_11 : decode cX10_readsTable 11 = .ok (.goto 74, 3) := by decide +kernel
theorem dX10_readsTable_14 : decode cX10_readsTable 14 = .ok (.aload_n 0, 1) := by decide +kernel
theorem dX10_readsTable_15 : decode cX10_readsTable 15 = .ok (.ldc 197, 2) := by decide +kernel
theorem dX10_readsTable_17 : decode cX10_readsTable 17 = .ok (.iconst 5, 1) := by decide +kernel
theorem dX10_readsTable_18 : decode cX10_readsTable 18 = .ok (.invokevirtual 176, 3) := by decide +kernel
theorem dX10_readsTable_21 : decode cX10_readsTable 21 = .ok (.ifCond .eq 7, 3) := by decide +kernel
theorem dX10_readsTable_24 : decode cX10_readsTable 24 = .ok (.iconst 1, 1) := by decide +kernel
theorem dX10_readsTable_25 : decode cX10_readsTable 25 = .ok (.goto 60, 3) := by decide +kernel
theorem dX10_readsTable_28 : decode cX10_readsTable 28 = .ok (.aload_n 0, 1) := by decide +kernel
theorem dX10_readsTable_29 : decode cX10_readsTable 29 = .ok (.ldc 198, 2) := by decide +kernel
theorem dX10_readsTable_31 : decode cX10_readsTable 31 = .ok (.iconst 5, 1) := by decide +kernel
theorem dX10_readsTable_32 : decode cX10_readsTable 32 = .ok (.invokevirtual 176, 3) := by decide +kernel
theorem dX10_readsTable_35 : decode cX10_readsTable 35 = .ok (.ifCond .eq 7, 3) := by decide +kernel
theorem dX10_readsTable_38 : decode cX10_readsTable 38 = .ok (.iconst 2, 1) := by decide +kernel
theorem dX10_readsTable_39 : decode cX10_readsTable 39 = .ok (.goto 46, 3) := by decide +kernel
theorem dX10_readsTable_42 : decode cX10_readsTable 42 = .ok (.aload_n 0, 1) := by decide +kernel
theorem dX10_readsTable_43 : decode cX10_readsTable 43 = .ok (.ldc 199, 2) := by decide +kernel
theorem dX10_readsTable_45 : decode cX10_readsTable 45 = .ok (.iconst 4, 1) := by decide +kernel
theorem dX10_readsTable_46 : decode cX10_readsTable 46 = .ok (.invokevirtual 176, 3) := by decide +kernel
theorem dX10_readsTable_49 : decode cX10_readsTable 49 = .ok (.ifCond .eq 7, 3) := by decide +kernel
theorem dX10_readsTable_52 : decode cX10_readsTable 52 = .ok (.iconst 3, 1) := by decide +kernel
theorem dX10_readsTable_53 : decode cX10_readsTable 53 = .ok (.goto 32, 3) := by decide +kernel
theorem dX10_readsTable_56 : decode cX10_readsTable 56 = .ok (.aload_n 0, 1) := by decide +kernel
theorem dX10_readsTable_57 : decode cX10_readsTable 57 = .ok (.ldc 200, 2) := by decide +kernel
theorem dX10_readsTable_59 : decode cX10_readsTable 59 = .ok (.iconst 5, 1) := by decide +kernel
theorem dX10_readsTable_60 : decode cX10_readsTable 60 = .ok (.invokevirtual 176, 3) := by decide +kernel
theorem dX10_readsTable_63 : decode cX10_readsTable 63 = .ok (.ifCond .eq 7, 3) := by decide +kernel
theorem dX10_readsTable_66 : decode cX10_readsTable 66 = .ok (.iconst 4, 1) := by decide +kernel
theorem dX10_readsTable_67 : decode cX10_readsTable 67 = .ok (.goto 18, 3) := by decide +kernel
theorem dX10_readsTable_70 : decode cX10_readsTable 70 = .ok (.aload_n 0, 1) := by decide +kernel
theorem dX10_readsTable_71 : decode cX10_readsTable 71 = .ok (.ldc 201, 2) := by decide +kernel
theorem dX10_readsTable_73 : decode cX10_readsTable 73 = .ok (.iconst 4, 1) := by decide +kernel
theorem dX10_readsTable_74 : decode cX10_readsTable 74 = .ok (.invokevirtual 176, 3) := by decide +kernel
theorem dX10_readsTable_77 : decode cX10_readsTable 77 = .ok (.ifCond .eq 7, 3) := by decide +kernel
theorem dX10_readsTable_80 : decode cX10_readsTable 80 = .ok (.iconst 5, 1) := by decide +kernel
theorem dX10_readsTable_81 : decode cX10_readsTable 81 = .ok (.goto 4, 3) := by decide +kernel
theorem dX10_readsTable_84 : decode cX10_readsTable 84 = .ok (.iconst (-1), 1) := by decide +kernel
theorem dX10_readsTable_85 : decode cX10_readsTable 85 = .ok (.istore_n 1, 1) := by decide +kernel
theorem dX10_readsTable_86 : decode cX10_readsTable 86 = .ok (.iload_n 1, 1) := by decide +kernel
theorem dX10_readsTable_87 : decode cX10_readsTable 87 = .ok (.iconst (-1), 1) := by decide +kernel
theorem dX10_readsTable_88 : decode cX10_readsTable 88 = .ok (.if_icmp .ne 5, 3) := by decide +kernel
theorem dX10_readsTable_91 : decode cX10_readsTable 91 = .ok (.iconst 0, 1) := by decide +kernel
theorem dX10_readsTable_92 : decode cX10_readsTable 92 = .ok (.ireturn, 1) := by decide +kernel
theorem dX10_readsTable_93 : decode cX10_readsTable 93 = .ok (.aload_n 0, 1) := by decide +kernel
theorem dX10_readsTable_94 : decode cX10_readsTable 94 = .ok (.invokevirtual 180, 3) := by decide +kernel
theorem dX10_readsTable_97 : decode cX10_readsTable 97 = .ok (.aload_n 0, 1) := by decide +kernel
theorem dX10_readsTable_98 : decode cX10_readsTable 98 = .ok (.iconst 0, 1) := by decide +kernel
theorem dX10_readsTable_99 : decode cX10_readsTable 99 = .ok (.bipush 99, 2) := by decide +kernel
theorem dX10_readsTable_101 : decode cX10_readsTable 101 = .ok (.invokevirtual 192, 3) := by decide +kernel
theorem dX10_readsTable_104 : decode cX10_readsTable 104 = .ok (.ifCond .ne 5, 3) := by decide +kernel
theorem dX10_readsTable_107 : decode cX10_readsTable 107 = .ok (.iconst 0, 1) := by decide +kernel
theorem dX10_readsTable_108 : decode cX10_readsTable 108 = .ok (.ireturn, 1) := by decide +kernel
theorem dX10_readsTable_109 : decode cX10_readsTable 109 = .ok (.aload_n 0, 1) := by decide +kernel
theorem dX10_readsTable_110 : decode cX10_readsTable 110 = .ok (.getfield 50, 3) := by decide +kernel
theorem dX10_readsTable_113 : decode cX10_readsTable 113 = .ok (.bipush 12, 2) := by decide +kernel
theorem dX10_readsTable_115 : decode cX10_readsTable 115 = .ok (.iload_n 1, 1) := by decide +kernel
theorem dX10_readsTable_116 : decode cX10_readsTable 116 = .ok (.iadd, 1) := by decide +kernel
theorem dX10_readsTable_117 : decode cX10_readsTable 117 = .ok (.aload_n 0, 1) := by decide +kernel
theorem dX10_readsTable_118 : decode cX10_readsTable 118 = .ok (.getfield 183, 3) := by decide +kernel
theorem dX10_readsTable_121 : decode cX10_readsTable 121 = .ok (.iastore, 1) := by decide +kernel
theorem dX10_readsTable_122 : decode cX10_readsTable 122 = .ok (.aload_n 0, 1) := by decide +kernel
theorem dX10_readsTable_123 : decode cX10_readsTable 123 = .ok (.dup, 1) := by decide +kernel
theorem dX10_readsTable_124 : decode cX10_readsTable 124 = .ok (.getfield 186, 3) := by decide +kernel
theorem dX10_readsTable_127 : decode cX10_readsTable 127 = .ok (.iconst 1, 1) := by decide +kernel
theorem dX10_readsTable_128 : decode cX10_readsTable 128 = .ok (.iadd, 1) := by decide +kernel
theorem dX10_readsTable_129 : decode cX10_readsTable 129 = .ok (.putfield 186, 3) := by decide +kernel
theorem dX10_readsTable_132 : decode cX10_readsTable 132 = .ok (.iconst 1, 1) := by decide +kernel
theorem dX10_readsTable_133 : decode cX10_readsTable 133 = .ok (.ireturn, 1) := by decide +kernel
theorem dX10_readsOne_0 : decode cX10_readsOne 0 = .ok (.iload_n 1, 1) := by decide +kernel
theorem dX10_readsOne_1 : decode cX10_readsOne 1 = .ok (.ifCond .ne 10, 3) := by decide +kernel
theorem dX10_readsOne_4 : decode cX10_readsOne 4 = .ok (.aload_n 0, 1) := by decide +kernel
theorem dX10_readsOne_5 : decode cX10_readsOne 5 = .ok (.invokevirtual 202, 3) := by decide +kernel
theorem dX10_readsOne_8 : decode cX10_readsOne 8 = .ok (.goto 7, 3) := by decide +kernel
theorem dX10_readsOne_11 : decode cX10_readsOne 11 = .ok (.aload_n 0, 1) := by decide +kernel
theorem dX10_readsOne_12 : decode cX10_readsOne 12 = .ok (.invokevirtual 206, 3) := by decide +kernel
theorem dX10_readsOne_15 : decode cX10_readsOne 15 = .ok (.ireturn, 1) := by decide +kernel
theorem dX10_faultAs_0 : decode cX10_faultAs 0 = .ok (.aload_n 0, 1) := by decide +kernel
theorem dX10_faultAs_1 : decode cX10_faultAs 1 = .ok (.iconst 0, 1) := by decide +kernel
theorem dX10_faultAs_2 : decode cX10_faultAs 2 = .ok (.putfield 163, 3) := by decide +kernel
theorem dX10_faultAs_5 : decode cX10_faultAs 5 = .ok (.aload_n 0, 1) := by decide +kernel
theorem dX10_faultAs_6 : decode cX10_faultAs 6 = .ok (.iconst 0, 1) := by decide +kernel
theorem dX10_faultAs_7 : decode cX10_faultAs 7 = .ok (.putfield 186, 3) := by decide +kernel
theorem dX10_faultAs_10 : decode cX10_faultAs 10 = .ok (.bipush 12, 2) := by decide +kernel
theorem dX10_faultAs_12 : decode cX10_faultAs 12 = .ok (.istore_n 2, 1) := by decide +kernel
theorem dX10_faultAs_13 : decode cX10_faultAs 13 = .ok (.iload_n 2, 1) := by decide +kernel
theorem dX10_faultAs_14 : decode cX10_faultAs 14 = .ok (.bipush 18, 2) := by decide +kernel
theorem dX10_faultAs_16 : decode cX10_faultAs 16 = .ok (.if_icmp .ge 60, 3) := by decide +kernel
theorem dX10_faultAs_19 : decode cX10_faultAs 19 = .ok (.aload_n 0, 1) := by decide +kernel
theorem dX10_faultAs_20 : decode cX10_faultAs 20 = .ok (.getfield 50, 3) := by decide +kernel
theorem dX10_faultAs_23 : decode cX10_faultAs 23 = .ok (.iload_n 2, 1) := by decide +kernel
theorem dX10_faultAs_24 : decode cX10_faultAs 24 = .ok (.iload_n 2, 1) := by decide +kernel
theorem dX10_faultAs_25 : decode cX10_faultAs 25 = .ok (.bipush 12, 2) := by decide +kernel
theorem dX10_faultAs_27 : decode cX10_faultAs 27 = .ok (.if_icmp .ne 8, 3) := by decide +kernel
theorem dX10_faultAs_30 : decode cX10_faultAs 30 = .ok (.bipush 50, 2) := by decide +kernel
theorem dX10_faultAs_32 : decode cX10_faultAs 32 = .ok (.goto 37, 3) := by decide +kernel
theorem dX10_faultAs_35 : decode cX10_faultAs 35 = .ok (.iload_n 2, 1) := by decide +kernel
theorem dX10_faultAs_36 : decode cX10_faultAs 36 = .ok (.bipush 13, 2) := by decide +kernel
theorem dX10_faultAs_38 : decode cX10_faultAs 38 = .ok (.if_icmp .ne 8, 3) := by decide +kernel
theorem dX10_faultAs_41 : decode cX10_faultAs 41 = .ok (.bipush 10, 2) := by decide +kernel
theorem dX10_faultAs_43 : decode cX10_faultAs 43 = .ok (.goto 26, 3) := by decide +kernel
theorem dX10_faultAs_46 : decode cX10_faultAs 46 = .ok (.iload_n 2, 1) := by decide +kernel
theorem dX10_faultAs_47 : decode cX10_faultAs 47 = .ok (.bipush 14, 2) := by decide +kernel
theorem dX10_faultAs_49 : decode cX10_faultAs 49 = .ok (.if_icmp .ne 8, 3) := by decide +kernel
theorem dX10_faultAs_52 : decode cX10_faultAs 52 = .ok (.bipush 30, 2) := by decide +kernel
theorem dX10_faultAs_54 : decode cX10_faultAs 54 = .ok (.goto 15, 3) := by decide +kernel
theorem dX10_faultAs_57 : decode cX10_faultAs 57 = .ok (.iload_n 2, 1) := by decide +kernel
theorem dX10_faultAs_58 : decode cX10_faultAs 58 = .ok (.bipush 17, 2) := by decide +kernel
theorem dX10_faultAs_60 : decode cX10_faultAs 60 = .ok (.if_icmp .ne 8, 3) := by decide +kernel
theorem dX10_faultAs_63 : decode cX10_faultAs 63 = .ok (.bipush 40, 2) := by decide +kernel
theorem dX10_faultAs_65 : decode cX10_faultAs 65 = .ok (.goto 4, 3) := by decide +kernel
theorem dX10_faultAs_68 : decode cX10_faultAs 68 = .ok (.iconst 0, 1) := by decide +kernel
theorem dX10_faultAs_69 : decode cX10_faultAs 69 = .ok (.iastore, 1) := by decide +kernel
theorem dX10_faultAs_70 : decode cX10_faultAs 70 = .ok (.iinc 2 1, 3) := by decide +kernel
theorem dX10_faultAs_73 : decode cX10_faultAs 73 = .ok (.goto (-60), 3) := by decide +kernel
theorem dX10_faultAs_76 : decode cX10_faultAs 76 = .ok (.aload_n 0, 1) := by decide +kernel
theorem dX10_faultAs_77 : decode cX10_faultAs 77 = .ok (.invokevirtual 180, 3) := by decide +kernel
theorem dX10_faultAs_80 : decode cX10_faultAs 80 = .ok (.aload_n 0, 1) := by decide +kernel
theorem dX10_faultAs_81 : decode cX10_faultAs 81 = .ok (.iload_n 1, 1) := by decide +kernel
theorem dX10_faultAs_82 : decode cX10_faultAs 82 = .ok (.invokevirtual 209, 3) := by decide +kernel
theorem dX10_faultAs_85 : decode cX10_faultAs 85 = .ok (.ifCond .ne 8, 3) := by decide +kernel
theorem dX10_faultAs_88 : decode cX10_faultAs 88 = .ok (.aload_n 0, 1) := by decide +kernel
theorem dX10_faultAs_89 : decode cX10_faultAs 89 = .ok (.getfield 166, 3) := by decide +kernel
theorem dX10_faultAs_92 : decode cX10_faultAs 92 = .ok (.ireturn, 1) := by decide +kernel
theorem dX10_faultAs_93 : decode cX10_faultAs 93 = .ok (.aload_n 0, 1) := by decide +kernel
theorem dX10_faultAs_94 : decode cX10_faultAs 94 = .ok (.getfield 166, 3) := by decide +kernel
theorem dX10_faultAs_97 : decode cX10_faultAs 97 = .ok (.aload_n 0, 1) := by decide +kernel
theorem dX10_faultAs_98 : decode cX10_faultAs 98 = .ok (.getfield 160, 3) := by decide +kernel
theorem dX10_faultAs_101 : decode cX10_faultAs 101 = .ok (.if_icmp .ge 71, 3) := by decide +kernel
theorem dX10_faultAs_104 : decode cX10_faultAs 104 = .ok (.aload_n 0, 1) := by decide +kernel
theorem dX10_faultAs_105 : decode cX10_faultAs 105 = .ok (.getfield 173, 3) := by decide +kernel
theorem dX10_faultAs_108 : decode cX10_faultAs 108 = .ok (.aload_n 0, 1) := by decide +kernel
theorem dX10_faultAs_109 : decode cX10_faultAs 109 = .ok (.getfield 166, 3) := by decide +kernel
theorem dX10_faultAs_112 : decode cX10_faultAs 112 = .ok (.isub, 1) := by decide +kernel
theorem dX10_faultAs_113 : decode cX10_faultAs 113 = .ok (.iconst 1, 1) := by decide +kernel
theorem dX10_faultAs_114 : decode cX10_faultAs 114 = .ok (.if_icmp .ne 30, 3) := by decide +kernel
theorem dX10_faultAs_117 : decode cX10_faultAs 117 = .ok (.aload_n 0, 1) := by decide +kernel
theorem dX10_faultAs_118 : decode cX10_faultAs 118 = .ok (.getfield 35, 3) := by decide +kernel
theorem dX10_faultAs_121 : decode cX10_faultAs 121 = .ok (.aload_n 0, 1) := by decide +kernel
theorem dX10_faultAs_122 : decode cX10_faultAs 122 = .ok (.getfield 166, 3) := by decide +kernel
theorem dX10_faultAs_125 : decode cX10_faultAs 125 = .ok (.iaload, 1) := by decide +kernel
theorem dX10_faultAs_126 : decode cX10_faultAs 126 = .ok (.bipush 59, 2) := by decide +kernel
theorem dX10_faultAs_128 : decode cX10_faultAs 128 = .ok (.if_icmp .ne 16, 3) := by decide +kernel
theorem dX10_faultAs_131 : decode cX10_faultAs 131 = .ok (.aload_n 0, 1) := by decide +kernel
theorem dX10_faultAs_132 : decode cX10_faultAs 132 = .ok (.getfield 186, 3) := by decide +kernel
theorem dX10_faultAs_135 : decode cX10_faultAs 135 = .ok (.bipush 8, 2) := by decide +kernel
theorem dX10_faultAs_137 : decode cX10_faultAs 137 = .ok (.if_icmp .ge 7, 3) := by decide +kernel
theorem dX10_faultAs_140 : decode cX10_faultAs 140 = .ok (.iconst 1, 1) := by decide +kernel
theorem dX10_faultAs_141 : decode cX10_faultAs 141 = .ok (.goto 4, 3) := by decide +kernel
theorem dX10_faultAs_144 : decode cX10_faultAs 144 = .ok (.iconst 0, 1) := by decide +kernel
theorem dX10_faultAs_145 : decode cX10_faultAs 145 = .ok (.istore_n 2, 1) := by decide +kernel
theorem dX10_faultAs_146 : decode cX10_faultAs 146 = .ok (.iload_n 2, 1) := by decide +kernel
theorem dX10_faultAs_147 : decode cX10_faultAs 147 = .ok (.ifCond .eq 13, 3) := by decide +kernel
theorem dX10_faultAs_150 : decode cX10_faultAs 150 = .ok (.aload_n 0, 1) := by decide +kernel
theorem dX10_faultAs_151 : decode cX10_faultAs 151 = .ok (.invokevirtual 180, 3) := by decide +kernel
theorem dX10_faultAs_154 : decode cX10_faultAs 154 = .ok (.aload_n 0, 1) := by decide +kernel
theorem dX10_faultAs_155 : decode cX10_faultAs 155 = .ok (.iload_n 1, 1) := by decide +kernel
theorem dX10_faultAs_156 : decode cX10_faultAs 156 = .ok (.invokevirtual 209, 3) := by decide +kernel
theorem dX10_faultAs_159 : decode cX10_faultAs 159 = .ok (.istore_n 2, 1) := by decide +kernel
theorem dX10_faultAs_160 : decode cX10_faultAs 160 = .ok (.iload_n 2, 1) := by decide +kernel
theorem dX10_faultAs_161 : decode cX10_faultAs 161 = .ok (.ifCond .ne 8, 3) := by decide +kernel
theorem dX10_faultAs_164 : decode cX10_faultAs 164 = .ok (.aload_n 0, 1) := by decide +kernel
theorem dX10_faultAs_165 : decode cX10_faultAs 165 = .ok (.getfield 166, 3) := by decide +kernel
theorem dX10_faultAs_168 : decode cX10_faultAs 168 = .ok (.ireturn, 1) := by decide +kernel
theorem dX10_faultAs_169 : decode cX10_faultAs 169 = .ok (.goto (-76), 3) := by decide +kernel
theorem dX10_faultAs_172 : decode cX10_faultAs 172 = .ok (.iconst (-1), 1) := by decide +kernel
theorem dX10_faultAs_173 : decode cX10_faultAs 173 = .ok (.ireturn, 1) := by decide +kernel
theorem dX10_fault_0 : decode cX10_fault 0 = .ok (.iload_n 1, 1) := by decide +kernel
theorem dX10_fault_1 : decode cX10_fault 1 = .ok (.i2l, 1) := by decide +kernel
theorem dX10_fault_2 : decode cX10_fault 2 = .ok (.lconst 0, 1) := by decide +kernel
theorem dX10_fault_3 : decode cX10_fault 3 = .ok (.lconst 1, 1) := by decide +kernel
theorem dX10_fault_4 : decode cX10_fault 4 = .ok (.invokestatic 121, 3) := by decide +kernel
theorem dX10_fault_7 : decode cX10_fault 7 = .ok (.ifCond .eq 11, 3) := by decide +kernel
theorem dX10_fault_10 : decode cX10_fault 10 = .ok (.aload_n 0, 1) := by decide +kernel
theorem dX10_fault_11 : decode cX10_fault 11 = .ok (.iload_n 1, 1) := by decide +kernel
theorem dX10_fault_12 : decode cX10_fault 12 = .ok (.invokevirtual 212, 3) := by decide +kernel
theorem dX10_fault_15 : decode cX10_fault 15 = .ok (.goto 5, 3) := by decide +kernel
theorem dX10_fault_18 : decode cX10_fault 18 = .ok (.bipush (-3), 2) := by decide +kernel
theorem dX10_fault_20 : decode cX10_fault 20 = .ok (.ireturn, 1) := by decide +kernel
theorem dX10_life_0 : decode cX10_life 0 = .ok (.iload_n 1, 1) := by decide +kernel
theorem dX10_life_1 : decode cX10_life 1 = .ok (.invokestatic 155, 3) := by decide +kernel
theorem dX10_life_4 : decode cX10_life 4 = .ok (.ifCond .ne 6, 3) := by decide +kernel
theorem dX10_life_7 : decode cX10_life 7 = .ok (.bipush (-2), 2) := by decide +kernel
theorem dX10_life_9 : decode cX10_life 9 = .ok (.ireturn, 1) := by decide +kernel
theorem dX10_life_10 : decode cX10_life 10 = .ok (.aload_n 0, 1) := by decide +kernel
theorem dX10_life_11 : decode cX10_life 11 = .ok (.iconst 0, 1) := by decide +kernel
theorem dX10_life_12 : decode cX10_life 12 = .ok (.invokevirtual 212, 3) := by decide +kernel
theorem dX10_life_15 : decode cX10_life 15 = .ok (.iconst (-1), 1) := by decide +kernel
theorem dX10_life_16 : decode cX10_life 16 = .ok (.if_icmp .eq 6, 3) := by decide +kernel
theorem dX10_life_19 : decode cX10_life 19 = .ok (.bipush (-4), 2) := by decide +kernel
theorem dX10_life_21 : decode cX10_life 21 = .ok (.ireturn, 1) := by decide +kernel
theorem dX10_life_22 : decode cX10_life 22 = .ok (.aload_n 0, 1) := by decide +kernel
theorem dX10_life_23 : decode cX10_life 23 = .ok (.getfield 38, 3) := by decide +kernel
theorem dX10_life_26 : decode cX10_life 26 = .ok (.iload_n 1, 1) := by decide +kernel
theorem dX10_life_27 : decode cX10_life 27 = .ok (.aload_n 0, 1) := by decide +kernel
theorem dX10_life_28 : decode cX10_life 28 = .ok (.getfield 186, 3) := by decide +kernel
theorem dX10_life_31 : decode cX10_life 31 = .ok (.iastore, 1) := by decide +kernel
theorem dX10_life_32 : decode cX10_life 32 = .ok (.iconst 0, 1) := by decide +kernel
theorem dX10_life_33 : decode cX10_life 33 = .ok (.istore_n 2, 1) := by decide +kernel
theorem dX10_life_34 : decode cX10_life 34 = .ok (.iload_n 2, 1) := by decide +kernel
theorem dX10_life_35 : decode cX10_life 35 = .ok (.aload_n 0, 1) := by decide +kernel
theorem dX10_life_36 : decode cX10_life 36 = .ok (.getfield 186, 3) := by decide +kernel
theorem dX10_life_39 : decode cX10_life 39 = .ok (.if_icmp .ge 69, 3) := by decide +kernel
theorem dX10_life_42 : decode cX10_life 42 = .ok (.aload_n 0, 1) := by decide +kernel
theorem dX10_life_43 : decode cX10_life 43 = .ok (.getfield 41, 3) := by decide +kernel
theorem dX10_life_46 : decode cX10_life 46 = .ok (.bipush 8, 2) := by decide +kernel
theorem dX10_life_48 : decode cX10_life 48 = .ok (.iload_n 1, 1) := by decide +kernel
theorem dX10_life_49 : decode cX10_life 49 = .ok (.imul, 1) := by decide +kernel
theorem dX10_life_50 : decode cX10_life 50 = .ok (.iload_n 2, 1) := by decide +kernel
theorem dX10_life_51 : decode cX10_life 51 = .ok (.iadd, 1) := by decide +kernel
theorem dX10_life_52 : decode cX10_life 52 = .ok (.aload_n 0, 1) := by decide +kernel
theorem dX10_life_53 : decode cX10_life 53 = .ok (.getfield 41, 3) := by decide +kernel
theorem dX10_life_56 : decode cX10_life 56 = .ok (.bipush 48, 2) := by decide +kernel
theorem dX10_life_58 : decode cX10_life 58 = .ok (.iload_n 2, 1) := by decide +kernel
theorem dX10_life_59 : decode cX10_life 59 = .ok (.iadd, 1) := by decide +kernel
theorem dX10_life_60 : decode cX10_life 60 = .ok (.iaload, 1) := by decide +kernel
theorem dX10_life_61 : decode cX10_life 61 = .ok (.iastore, 1) := by decide +kernel
theorem dX10_life_62 : decode cX10_life 62 = .ok (.aload_n 0, 1) := by decide +kernel
theorem dX10_life_63 : decode cX10_life 63 = .ok (.getfield 44, 3) := by decide +kernel
theorem dX10_life_66 : decode cX10_life 66 = .ok (.bipush 8, 2) := by decide +kernel
theorem dX10_life_68 : decode cX10_life 68 = .ok (.iload_n 1, 1) := by decide +kernel
theorem dX10_life_69 : decode cX10_life 69 = .ok (.imul, 1) := by decide +kernel
theorem dX10_life_70 : decode cX10_life 70 = .ok (.iload_n 2, 1) := by decide +kernel
theorem dX10_life_71 : decode cX10_life 71 = .ok (.iadd, 1) := by decide +kernel
theorem dX10_life_72 : decode cX10_life 72 = .ok (.aload_n 0, 1) := by decide +kernel
theorem dX10_life_73 : decode cX10_life 73 = .ok (.getfield 44, 3) := by decide +kernel
theorem dX10_life_76 : decode cX10_life 76 = .ok (.bipush 48, 2) := by decide +kernel
theorem dX10_life_78 : decode cX10_life 78 = .ok (.iload_n 2, 1) := by decide +kernel
theorem dX10_life_79 : decode cX10_life 79 = .ok (.iadd, 1) := by decide +kernel
theorem dX10_life_80 : decode cX10_life 80 = .ok (.iaload, 1) := by decide +kernel
theorem dX10_life_81 : decode cX10_life 81 = .ok (.iastore, 1) := by decide +kernel
theorem dX10_life_82 : decode cX10_life 82 = .ok (.aload_n 0, 1) := by decide +kernel
theorem dX10_life_83 : decode cX10_life 83 = .ok (.getfield 47, 3) := by decide +kernel
theorem dX10_life_86 : decode cX10_life 86 = .ok (.bipush 8, 2) := by decide +kernel
theorem dX10_life_88 : decode cX10_life 88 = .ok (.iload_n 1, 1) := by decide +kernel
theorem dX10_life_89 : decode cX10_life 89 = .ok (.imul, 1) := by decide +kernel
theorem dX10_life_90 : decode cX10_life 90 = .ok (.iload_n 2, 1) := by decide +kernel
theorem dX10_life_91 : decode cX10_life 91 = .ok (.iadd, 1) := by decide +kernel
theorem dX10_life_92 : decode cX10_life 92 = .ok (.aload_n 0, 1) := by decide +kernel
theorem dX10_life_93 : decode cX10_life 93 = .ok (.getfield 47, 3) := by decide +kernel
theorem dX10_life_96 : decode cX10_life 96 = .ok (.bipush 48, 2) := by decide +kernel
theorem dX10_life_98 : decode cX10_life 98 = .ok (.iload_n 2, 1) := by decide +kernel
theorem dX10_life_99 : decode cX10_life 99 = .ok (.iadd, 1) := by decide +kernel
theorem dX10_life_100 : decode cX10_life 100 = .ok (.iaload, 1) := by decide +kernel
theorem dX10_life_101 : decode cX10_life 101 = .ok (.iastore, 1) := by decide +kernel
theorem dX10_life_102 : decode cX10_life 102 = .ok (.iinc 2 1, 3) := by decide +kernel
theorem dX10_life_105 : decode cX10_life 105 = .ok (.goto (-71), 3) := by decide +kernel
theorem dX10_life_108 : decode cX10_life 108 = .ok (.aload_n 0, 1) := by decide +kernel
theorem dX10_life_109 : decode cX10_life 109 = .ok (.iconst 0, 1) := by decide +kernel
theorem dX10_life_110 : decode cX10_life 110 = .ok (.putfield 160, 3) := by decide +kernel
theorem dX10_life_113 : decode cX10_life 113 = .ok (.aload_n 0, 1) := by decide +kernel
theorem dX10_life_114 : decode cX10_life 114 = .ok (.getfield 186, 3) := by decide +kernel
theorem dX10_life_117 : decode cX10_life 117 = .ok (.ireturn, 1) := by decide +kernel
theorem dX10_table_0 : decode cX10_table 0 = .ok (.iload_n 1, 1) := by decide +kernel
theorem dX10_table_1 : decode cX10_table 1 = .ok (.invokestatic 215, 3) := by decide +kernel
theorem dX10_table_4 : decode cX10_table 4 = .ok (.ifCond .ne 6, 3) := by decide +kernel
theorem dX10_table_7 : decode cX10_table 7 = .ok (.bipush (-2), 2) := by decide +kernel
theorem dX10_table_9 : decode cX10_table 9 = .ok (.ireturn, 1) := by decide +kernel
theorem dX10_table_10 : decode cX10_table 10 = .ok (.aload_n 0, 1) := by decide +kernel
theorem dX10_table_11 : decode cX10_table 11 = .ok (.iconst 1, 1) := by decide +kernel
theorem dX10_table_12 : decode cX10_table 12 = .ok (.invokevirtual 212, 3) := by decide +kernel
theorem dX10_table_15 : decode cX10_table 15 = .ok (.iconst (-1), 1) := by decide +kernel
theorem dX10_table_16 : decode cX10_table 16 = .ok (.if_icmp .eq 6, 3) := by decide +kernel
theorem dX10_table_19 : decode cX10_table 19 = .ok (.bipush (-4), 2) := by decide +kernel
theorem dX10_table_21 : decode cX10_table 21 = .ok (.ireturn, 1) := by decide +kernel
theorem dX10_table_22 : decode cX10_table 22 = .ok (.iconst 0, 1) := by decide +kernel
theorem dX10_table_23 : decode cX10_table 23 = .ok (.istore_n 2, 1) := by decide +kernel
theorem dX10_table_24 : decode cX10_table 24 = .ok (.iload_n 2, 1) := by decide +kernel
theorem dX10_table_25 : decode cX10_table 25 = .ok (.bipush 6, 2) := by decide +kernel
theorem dX10_table_27 : decode cX10_table 27 = .ok (.if_icmp .ge 29, 3) := by decide +kernel
theorem dX10_table_30 : decode cX10_table 30 = .ok (.aload_n 0, 1) := by decide +kernel
theorem dX10_table_31 : decode cX10_table 31 = .ok (.getfield 50, 3) := by decide +kernel
theorem dX10_table_34 : decode cX10_table 34 = .ok (.bipush 6, 2) := by decide +kernel
theorem dX10_table_36 : decode cX10_table 36 = .ok (.iload_n 1, 1) := by decide +kernel
theorem dX10_table_37 : decode cX10_table 37 = .ok (.imul, 1) := by decide +kernel
theorem dX10_table_38 : decode cX10_table 38 = .ok (.iload_n 2, 1) := by decide +kernel
theorem dX10_table_39 : decode cX10_table 39 = .ok (.iadd, 1) := by decide +kernel
theorem dX10_table_40 : decode cX10_table 40 = .ok (.aload_n 0, 1) := by decide +kernel
theorem dX10_table_41 : decode cX10_table 41 = .ok (.getfield 50, 3) := by decide +kernel
theorem dX10_table_44 : decode cX10_table 44 = .ok (.bipush 12, 2) := by decide +kernel
theorem dX10_table_46 : decode cX10_table 46 = .ok (.iload_n 2, 1) := by decide +kernel
theorem dX10_table_47 : decode cX10_table 47 = .ok (.iadd, 1) := by decide +kernel
theorem dX10_table_48 : decode cX10_table 48 = .ok (.iaload, 1) := by decide +kernel
theorem dX10_table_49 : decode cX10_table 49 = .ok (.iastore, 1) := by decide +kernel
theorem dX10_table_50 : decode cX10_table 50 = .ok (.iinc 2 1, 3) := by decide +kernel
theorem dX10_table_53 : decode cX10_table 53 = .ok (.goto (-29), 3) := by decide +kernel
theorem dX10_table_56 : decode cX10_table 56 = .ok (.aload_n 0, 1) := by decide +kernel
theorem dX10_table_57 : decode cX10_table 57 = .ok (.iconst 0, 1) := by decide +kernel
theorem dX10_table_58 : decode cX10_table 58 = .ok (.putfield 160, 3) := by decide +kernel
theorem dX10_table_61 : decode cX10_table 61 = .ok (.aload_n 0, 1) := by decide +kernel
theorem dX10_table_62 : decode cX10_table 62 = .ok (.getfield 186, 3) := by decide +kernel
theorem dX10_table_65 : decode cX10_table 65 = .ok (.ireturn, 1) := by decide +kernel
theorem dX10_whereIs_0 : decode cX10_whereIs 0 = .ok (.aload_n 0, 1) := by decide +kernel
theorem dX10_whereIs_1 : decode cX10_whereIs 1 = .ok (.getfield 32, 3) := by decide +kernel
theorem dX10_whereIs_4 : decode cX10_whereIs 4 = .ok (.iload_n 1, 1) := by decide +kernel
theorem dX10_whereIs_5 : decode cX10_whereIs 5 = .ok (.iaload, 1) := by decide +kernel
theorem dX10_whereIs_6 : decode cX10_whereIs 6 = .ok (.istore_n 3, 1) := by decide +kernel
theorem dX10_whereIs_7 : decode cX10_whereIs 7 = .ok (.bipush 8, 2) := by decide +kernel
theorem dX10_whereIs_9 : decode cX10_whereIs 9 = .ok (.iload_n 1, 1) := by decide +kernel
theorem dX10_whereIs_10 : decode cX10_whereIs 10 = .ok (.imul, 1) := by decide +kernel
theorem dX10_whereIs_11 : decode cX10_whereIs 11 = .ok (.istore 4, 2) := by decide +kernel
theorem dX10_whereIs_13 : decode cX10_whereIs 13 = .ok (.iload 4, 2) := by decide +kernel
theorem dX10_whereIs_15 : decode cX10_whereIs 15 = .ok (.bipush 8, 2) := by decide +kernel
theorem dX10_whereIs_17 : decode cX10_whereIs 17 = .ok (.iload_n 1, 1) := by decide +kernel
theorem dX10_whereIs_18 : decode cX10_whereIs 18 = .ok (.imul, 1) := by decide +kernel
theorem dX10_whereIs_19 : decode cX10_whereIs 19 = .ok (.aload_n 0, 1) := by decide +kernel
theorem dX10_whereIs_20 : decode cX10_whereIs 20 = .ok (.getfield 38, 3) := by decide +kernel
theorem dX10_whereIs_23 : decode cX10_whereIs 23 = .ok (.iload_n 1, 1) := by decide +kernel
theorem dX10_whereIs_24 : decode cX10_whereIs 24 = .ok (.iaload, 1) := by decide +kernel
theorem dX10_whereIs_25 : decode cX10_whereIs 25 = .ok (.iadd, 1) := by decide +kernel
theorem dX10_whereIs_26 : decode cX10_whereIs 26 = .ok (.if_icmp .ge 45, 3) := by decide +kernel
theorem dX10_whereIs_29 : decode cX10_whereIs 29 = .ok (.iload_n 2, 1) := by decide +kernel
theorem dX10_whereIs_30 : decode cX10_whereIs 30 = .ok (.i2l, 1) := by decide +kernel
theorem dX10_whereIs_31 : decode cX10_whereIs 31 = .ok (.aload_n 0, 1) := by decide +kernel
theorem dX10_whereIs_32 : decode cX10_whereIs 32 = .ok (.getfield 44, 3) := by decide +kernel
theorem dX10_whereIs_35 : decode cX10_whereIs 35 = .ok (.iload 4, 2) := by decide +kernel
theorem dX10_whereIs_37 : decode cX10_whereIs 37 = .ok (.iaload, 1) := by decide +kernel
theorem dX10_whereIs_38 : decode cX10_whereIs 38 = .ok (.i2l, 1) := by decide +kernel
theorem dX10_whereIs_39 : decode cX10_whereIs 39 = .ok (.aload_n 0, 1) := by decide +kernel
theorem dX10_whereIs_40 : decode cX10_whereIs 40 = .ok (.getfield 47, 3) := by decide +kernel
theorem dX10_whereIs_43 : decode cX10_whereIs 43 = .ok (.iload 4, 2) := by decide +kernel
theorem dX10_whereIs_45 : decode cX10_whereIs 45 = .ok (.iaload, 1) := by decide +kernel
theorem dX10_whereIs_46 : decode cX10_whereIs 46 = .ok (.i2l, 1) := by decide +kernel
theorem dX10_whereIs_47 : decode cX10_whereIs 47 = .ok (.invokestatic 121, 3) := by decide +kernel
theorem dX10_whereIs_50 : decode cX10_whereIs 50 = .ok (.ifCond .eq 13, 3) := by decide +kernel
theorem dX10_whereIs_53 : decode cX10_whereIs 53 = .ok (.aload_n 0, 1) := by decide +kernel
theorem dX10_whereIs_54 : decode cX10_whereIs 54 = .ok (.getfield 41, 3) := by decide +kernel
theorem dX10_whereIs_57 : decode cX10_whereIs 57 = .ok (.iload 4, 2) := by decide +kernel
theorem dX10_whereIs_59 : decode cX10_whereIs 59 = .ok (.iaload, 1) := by decide +kernel
theorem dX10_whereIs_60 : decode cX10_whereIs 60 = .ok (.goto 4, 3) := by decide +kernel
theorem dX10_whereIs_63 : decode cX10_whereIs 63 = .ok (.iload_n 3, 1) := by decide +kernel
theorem dX10_whereIs_64 : decode cX10_whereIs 64 = .ok (.istore_n 3, 1) := by decide +kernel
theorem dX10_whereIs_65 : decode cX10_whereIs 65 = .ok (.iinc 4 1, 3) := by decide +kernel
theorem dX10_whereIs_68 : decode cX10_whereIs 68 = .ok (.goto (-55), 3) := by decide +kernel
theorem dX10_whereIs_71 : decode cX10_whereIs 71 = .ok (.iload_n 3, 1) := by decide +kernel
theorem dX10_whereIs_72 : decode cX10_whereIs 72 = .ok (.ireturn, 1) := by decide +kernel
theorem dX10_where_0 : decode cX10_where 0 = .ok (.iload_n 1, 1) := by decide +kernel
theorem dX10_where_1 : decode cX10_where 1 = .ok (.invokestatic 155, 3) := by decide +kernel
theorem dX10_where_4 : decode cX10_where 4 = .ok (.ifCond .ne 6, 3) := by decide +kernel
theorem dX10_where_7 : decode cX10_where 7 = .ok (.bipush (-2), 2) := by decide +kernel
theorem dX10_where_9 : decode cX10_where 9 = .ok (.ireturn, 1) := by decide +kernel
theorem dX10_where_10 : decode cX10_where 10 = .ok (.iload_n 2, 1) := by decide +kernel
theorem dX10_where_11 : decode cX10_where 11 = .ok (.invokestatic 142, 3) := by decide +kernel
theorem dX10_where_14 : decode cX10_where 14 = .ok (.ifCond .eq 12, 3) := by decide +kernel
theorem dX10_where_17 : decode cX10_where 17 = .ok (.aload_n 0, 1) := by decide +kernel
theorem dX10_where_18 : decode cX10_where 18 = .ok (.iload_n 1, 1) := by decide +kernel
theorem dX10_where_19 : decode cX10_where 19 = .ok (.iload_n 2, 1) := by decide +kernel
theorem dX10_where_20 : decode cX10_where 20 = .ok (.invokevirtual 218, 3) := by decide +kernel
theorem dX10_where_23 : decode cX10_where 23 = .ok (.goto 5, 3) := by decide +kernel
theorem dX10_where_26 : decode cX10_where 26 = .ok (.bipush (-3), 2) := by decide +kernel
theorem dX10_where_28 : decode cX10_where 28 = .ok (.ireturn, 1) := by decide +kernel
theorem dX10_sawPlace_0 : decode cX10_sawPlace 0 = .ok (.aload_n 0, 1) := by decide +kernel
theorem dX10_sawPlace_1 : decode cX10_sawPlace 1 = .ok (.getfield 7, 3) := by decide +kernel
theorem dX10_sawPlace_4 : decode cX10_sawPlace 4 = .ok (.aload_n 0, 1) := by decide +kernel
theorem dX10_sawPlace_5 : decode cX10_sawPlace 5 = .ok (.iload_n 1, 1) := by decide +kernel
theorem dX10_sawPlace_6 : decode cX10_sawPlace 6 = .ok (.iload_n 3, 1) := by decide +kernel
theorem dX10_sawPlace_7 : decode cX10_sawPlace 7 = .ok (.invokevirtual 218, 3) := by decide +kernel
theorem dX10_sawPlace_10 : decode cX10_sawPlace 10 = .ok (.iaload, 1) := by decide +kernel
theorem dX10_sawPlace_11 : decode cX10_sawPlace 11 = .ok (.iload_n 2, 1) := by decide +kernel
theorem dX10_sawPlace_12 : decode cX10_sawPlace 12 = .ok (.ishr, 1) := by decide +kernel
theorem dX10_sawPlace_13 : decode cX10_sawPlace 13 = .ok (.iconst 1, 1) := by decide +kernel
theorem dX10_sawPlace_14 : decode cX10_sawPlace 14 = .ok (.iand, 1) := by decide +kernel
theorem dX10_sawPlace_15 : decode cX10_sawPlace 15 = .ok (.iconst 1, 1) := by decide +kernel
theorem dX10_sawPlace_16 : decode cX10_sawPlace 16 = .ok (.if_icmp .ne 7, 3) := by decide +kernel
theorem dX10_sawPlace_19 : decode cX10_sawPlace 19 = .ok (.iconst 1, 1) := by decide +kernel
theorem dX10_sawPlace_20 : decode cX10_sawPlace 20 = .ok (.goto 4, 3) := by decide +kernel
theorem dX10_sawPlace_23 : decode cX10_sawPlace 23 = .ok (.iconst 0, 1) := by decide +kernel
theorem dX10_sawPlace_24 : decode cX10_sawPlace 24 = .ok (.ireturn, 1) := by decide +kernel
theorem dX10_saw_0 : decode cX10_saw 0 = .ok (.iload_n 1, 1) := by decide +kernel
theorem dX10_saw_1 : decode cX10_saw 1 = .ok (.invokestatic 155, 3) := by decide +kernel
theorem dX10_saw_4 : decode cX10_saw 4 = .ok (.ifCond .ne 6, 3) := by decide +kernel
theorem dX10_saw_7 : decode cX10_saw 7 = .ok (.bipush (-2), 2) := by decide +kernel
theorem dX10_saw_9 : decode cX10_saw 9 = .ok (.ireturn, 1) := by decide +kernel
theorem dX10_saw_10 : decode cX10_saw 10 = .ok (.iload_n 2, 1) := by decide +kernel
theorem dX10_saw_11 : decode cX10_saw 11 = .ok (.invokestatic 142, 3) := by decide +kernel
theorem dX10_saw_14 : decode cX10_saw 14 = .ok (.ifCond .eq 17, 3) := by decide +kernel
theorem dX10_saw_17 : decode cX10_saw 17 = .ok (.aload_n 0, 1) := by decide +kernel
theorem dX10_saw_18 : decode cX10_saw 18 = .ok (.getfield 7, 3) := by decide +kernel
theorem dX10_saw_21 : decode cX10_saw 21 = .ok (.aload_n 0, 1) := by decide +kernel
theorem dX10_saw_22 : decode cX10_saw 22 = .ok (.iload_n 1, 1) := by decide +kernel
theorem dX10_saw_23 : decode cX10_saw 23 = .ok (.iload_n 2, 1) := by decide +kernel
theorem dX10_saw_24 : decode cX10_saw 24 = .ok (.invokevirtual 218, 3) := by decide +kernel
theorem dX10_saw_27 : decode cX10_saw 27 = .ok (.iaload, 1) := by decide +kernel
theorem dX10_saw_28 : decode cX10_saw 28 = .ok (.goto 5, 3) := by decide +kernel
theorem dX10_saw_31 : decode cX10_saw 31 = .ok (.bipush (-3), 2) := by decide +kernel
theorem dX10_saw_33 : decode cX10_saw 33 = .ok (.ireturn, 1) := by decide +kernel
theorem dX10_post_0 : decode cX10_post 0 = .ok (.iload_n 1, 1) := by decide +kernel
theorem dX10_post_1 : decode cX10_post 1 = .ok (.invokestatic 222, 3) := by decide +kernel
theorem dX10_post_4 : decode cX10_post 4 = .ok (.ifCond .ne 6, 3) := by decide +kernel
theorem dX10_post_7 : decode cX10_post 7 = .ok (.bipush (-2), 2) := by decide +kernel
theorem dX10_post_9 : decode cX10_post 9 = .ok (.ireturn, 1) := by decide +kernel
theorem dX10_post_10 : decode cX10_post 10 = .ok (.iload_n 2, 1) := by decide +kernel
theorem dX10_post_11 : decode cX10_post 11 = .ok (.i2l, 1) := by decide +kernel
theorem dX10_post_12 : decode cX10_post 12 = .ok (.lconst 0, 1) := by decide +kernel
theorem dX10_post_13 : decode cX10_post 13 = .ok (.ldc2_w 225, 3) := by decide +kernel
theorem dX10_post_16 : decode cX10_post 16 = .ok (.invokestatic 121, 3) := by decide +kernel
theorem dX10_post_19 : decode cX10_post 19 = .ok (.ifCond .ne 6, 3) := by decide +kernel
theorem dX10_post_22 : decode cX10_post 22 = .ok (.bipush (-3), 2) := by decide +kernel
theorem dX10_post_24 : decode cX10_post 24 = .ok (.ireturn, 1) := by decide +kernel
theorem dX10_post_25 : decode cX10_post 25 = .ok (.aload_n 0, 1) := by decide +kernel
theorem dX10_post_26 : decode cX10_post 26 = .ok (.getfield 53, 3) := by decide +kernel
theorem dX10_post_29 : decode cX10_post 29 = .ok (.iload_n 1, 1) := by decide +kernel
theorem dX10_post_30 : decode cX10_post 30 = .ok (.iaload, 1) := by decide +kernel
theorem dX10_post_31 : decode cX10_post 31 = .ok (.istore_n 3, 1) := by decide +kernel
theorem dX10_post_32 : decode cX10_post 32 = .ok (.aload_n 0, 1) := by decide +kernel
theorem dX10_post_33 : decode cX10_post 33 = .ok (.getfield 53, 3) := by decide +kernel
theorem dX10_post_36 : decode cX10_post 36 = .ok (.iload_n 1, 1) := by decide +kernel
theorem dX10_post_37 : decode cX10_post 37 = .ok (.iload_n 2, 1) := by decide +kernel
theorem dX10_post_38 : decode cX10_post 38 = .ok (.iastore, 1) := by decide +kernel
theorem dX10_post_39 : decode cX10_post 39 = .ok (.iload_n 3, 1) := by decide +kernel
theorem dX10_post_40 : decode cX10_post 40 = .ok (.ireturn, 1) := by decide +kernel
theorem dX10_refuses_0 : decode cX10_refuses 0 = .ok (.iload_n 1, 1) := by decide +kernel
theorem dX10_refuses_1 : decode cX10_refuses 1 = .ok (.invokestatic 155, 3) := by decide +kernel
theorem dX10_refuses_4 : decode cX10_refuses 4 = .ok (.ifCond .eq 26, 3) := by decide +kernel
theorem dX10_refuses_7 : decode cX10_refuses 7 = .ok (.iload_n 3, 1) := by decide +kernel
theorem dX10_refuses_8 : decode cX10_refuses 8 = .ok (.invokestatic 222, 3) := by decide +kernel
theorem dX10_refuses_11 : decode cX10_refuses 11 = .ok (.ifCond .eq 19, 3) := by decide +kernel
theorem dX10_refuses_14 : decode cX10_refuses 14 = .ok (.iload 4, 2) := by decide +kernel
theorem dX10_refuses_16 : decode cX10_refuses 16 = .ok (.invokestatic 133, 3) := by decide +kernel
theorem dX10_refuses_19 : decode cX10_refuses 19 = .ok (.ifCond .eq 11, 3) := by decide +kernel
theorem dX10_refuses_22 : decode cX10_refuses 22 = .ok (.iload 5, 2) := by decide +kernel
theorem dX10_refuses_24 : decode cX10_refuses 24 = .ok (.invokestatic 139, 3) := by decide +kernel
theorem dX10_refuses_27 : decode cX10_refuses 27 = .ok (.ifCond .ne 6, 3) := by decide +kernel
theorem dX10_refuses_30 : decode cX10_refuses 30 = .ok (.bipush (-2), 2) := by decide +kernel
theorem dX10_refuses_32 : decode cX10_refuses 32 = .ok (.ireturn, 1) := by decide +kernel
theorem dX10_refuses_33 : decode cX10_refuses 33 = .ok (.iload_n 2, 1) := by decide +kernel
theorem dX10_refuses_34 : decode cX10_refuses 34 = .ok (.invokestatic 142, 3) := by decide +kernel
theorem dX10_refuses_37 : decode cX10_refuses 37 = .ok (.ifCond .eq 28, 3) := by decide +kernel
theorem dX10_refuses_40 : decode cX10_refuses 40 = .ok (.iload 6, 2) := by decide +kernel
theorem dX10_refuses_42 : decode cX10_refuses 42 = .ok (.invokestatic 142, 3) := by decide +kernel
theorem dX10_refuses_45 : decode cX10_refuses 45 = .ok (.ifCond .eq 20, 3) := by decide +kernel
theorem dX10_refuses_48 : decode cX10_refuses 48 = .ok (.iload 7, 2) := by decide +kernel
theorem dX10_refuses_50 : decode cX10_refuses 50 = .ok (.i2l, 1) := by decide +kernel
theorem dX10_refuses_51 : decode cX10_refuses 51 = .ok (.lconst 0, 1) := by decide +kernel
theorem dX10_refuses_52 : decode cX10_refuses 52 = .ok (.ldc2_w 145, 3) := by decide +kernel
theorem dX10_refuses_55 : decode cX10_refuses 55 = .ok (.invokestatic 121, 3) := by decide +kernel
theorem dX10_refuses_58 : decode cX10_refuses 58 = .ok (.ifCond .eq 7, 3) := by decide +kernel
theorem dX10_refuses_61 : decode cX10_refuses 61 = .ok (.iconst 0, 1) := by decide +kernel
theorem dX10_refuses_62 : decode cX10_refuses 62 = .ok (.goto 5, 3) := by decide +kernel
theorem dX10_refuses_65 : decode cX10_refuses 65 = .ok (.bipush (-3), 2) := by decide +kernel
theorem dX10_refuses_67 : decode cX10_refuses 67 = .ok (.ireturn, 1) := by decide +kernel
theorem dX10_lay_0 : decode cX10_lay 0 = .ok (.aload_n 0, 1) := by decide +kernel
theorem dX10_lay_1 : decode cX10_lay 1 = .ok (.getfield 56, 3) := by decide +kernel
theorem dX10_lay_4 : decode cX10_lay 4 = .ok (.iload_n 1, 1) := by decide +kernel
theorem dX10_lay_5 : decode cX10_lay 5 = .ok (.iload_n 2, 1) := by decide +kernel
theorem dX10_lay_6 : decode cX10_lay 6 = .ok (.iastore, 1) := by decide +kernel
theorem dX10_lay_7 : decode cX10_lay 7 = .ok (.aload_n 0, 1) := by decide +kernel
theorem dX10_lay_8 : decode cX10_lay 8 = .ok (.getfield 59, 3) := by decide +kernel
theorem dX10_lay_11 : decode cX10_lay 11 = .ok (.iload_n 1, 1) := by decide +kernel
theorem dX10_lay_12 : decode cX10_lay 12 = .ok (.iload_n 3, 1) := by decide +kernel
theorem dX10_lay_13 : decode cX10_lay 13 = .ok (.iastore, 1) := by decide +kernel
theorem dX10_lay_14 : decode cX10_lay 14 = .ok (.aload_n 0, 1) := by decide +kernel
theorem dX10_lay_15 : decode cX10_lay 15 = .ok (.getfield 62, 3) := by decide +kernel
theorem dX10_lay_18 : decode cX10_lay 18 = .ok (.iload_n 1, 1) := by decide +kernel
theorem dX10_lay_19 : decode cX10_lay 19 = .ok (.iload 4, 2) := by decide +kernel
theorem dX10_lay_21 : decode cX10_lay 21 = .ok (.iastore, 1) := by decide +kernel
theorem dX10_lay_22 : decode cX10_lay 22 = .ok (.aload_n 0, 1) := by decide +kernel
theorem dX10_lay_23 : decode cX10_lay 23 = .ok (.getfield 65, 3) := by decide +kernel
theorem dX10_lay_26 : decode cX10_lay 26 = .ok (.iload_n 1, 1) := by decide +kernel
theorem dX10_lay_27 : decode cX10_lay 27 = .ok (.iload 5, 2) := by decide +kernel
theorem dX10_lay_29 : decode cX10_lay 29 = .ok (.iastore, 1) := by decide +kernel
theorem dX10_lay_30 : decode cX10_lay 30 = .ok (.aload_n 0, 1) := by decide +kernel
theorem dX10_lay_31 : decode cX10_lay 31 = .ok (.getfield 68, 3) := by decide +kernel
theorem dX10_lay_34 : decode cX10_lay 34 = .ok (.iload_n 1, 1) := by decide +kernel
theorem dX10_lay_35 : decode cX10_lay 35 = .ok (.iload 6, 2) := by decide +kernel
theorem dX10_lay_37 : decode cX10_lay 37 = .ok (.iastore, 1) := by decide +kernel
theorem dX10_lay_38 : decode cX10_lay 38 = .ok (.aload_n 0, 1) := by decide +kernel
theorem dX10_lay_39 : decode cX10_lay 39 = .ok (.getfield 71, 3) := by decide +kernel
theorem dX10_lay_42 : decode cX10_lay 42 = .ok (.iload_n 1, 1) := by decide +kernel
theorem dX10_lay_43 : decode cX10_lay 43 = .ok (.iload 7, 2) := by decide +kernel
theorem dX10_lay_45 : decode cX10_lay 45 = .ok (.iastore, 1) := by decide +kernel
theorem dX10_lay_46 : decode cX10_lay 46 = .ok (.aload_n 0, 1) := by decide +kernel
theorem dX10_lay_47 : decode cX10_lay 47 = .ok (.getfield 74, 3) := by decide +kernel
theorem dX10_lay_50 : decode cX10_lay 50 = .ok (.iload_n 1, 1) := by decide +kernel
theorem dX10_lay_51 : decode cX10_lay 51 = .ok (.iload 8, 2) := by decide +kernel
theorem dX10_lay_53 : decode cX10_lay 53 = .ok (.iastore, 1) := by decide +kernel
theorem dX10_lay_54 : decode cX10_lay 54 = .ok (.return_, 1) := by decide +kernel
theorem dX10_send_0 : decode cX10_send 0 = .ok (.aload_n 0, 1) := by decide +kernel
theorem dX10_send_1 : decode cX10_send 1 = .ok (.iload_n 1, 1) := by decide +kernel
theorem dX10_send_2 : decode cX10_send 2 = .ok (.iload_n 2, 1) := by decide +kernel
theorem dX10_send_3 : decode cX10_send 3 = .ok (.iload_n 3, 1) := by decide +kernel
theorem dX10_send_4 : decode cX10_send 4 = .ok (.iload 4, 2) := by decide +kernel
theorem dX10_send_6 : decode cX10_send 6 = .ok (.iload 5, 2) := by decide +kernel
theorem dX10_send_8 : decode cX10_send 8 = .ok (.iload 6, 2) := by decide +kernel
theorem dX10_send_10 : decode cX10_send 10 = .ok (.iload 7, 2) := by decide +kernel
theorem dX10_send_12 : decode cX10_send 12 = .ok (.invokevirtual 227, 3) := by decide +kernel
theorem dX10_send_15 : decode cX10_send 15 = .ok (.istore 8, 2) := by decide +kernel
theorem dX10_send_17 : decode cX10_send 17 = .ok (.iload 8, 2) := by decide +kernel
theorem dX10_send_19 : decode cX10_send 19 = .ok (.ifCond .ne 12, 3) := by decide +kernel
theorem dX10_send_22 : decode cX10_send 22 = .ok (.aload_n 0, 1) := by decide +kernel
theorem dX10_send_23 : decode cX10_send 23 = .ok (.getfield 231, 3) := by decide +kernel
theorem dX10_send_26 : decode cX10_send 26 = .ok (.bipush 24, 2) := by decide +kernel
theorem dX10_send_28 : decode cX10_send 28 = .ok (.if_icmp .ne 16, 3) := by decide +kernel
theorem dX10_send_31 : decode cX10_send 31 = .ok (.iload 8, 2) := by decide +kernel
theorem dX10_send_33 : decode cX10_send 33 = .ok (.ifCond .eq 8, 3) := by decide +kernel
theorem dX10_send_36 : decode cX10_send 36 = .ok (.iload 8, 2) := by decide +kernel
theorem dX10_send_38 : decode cX10_send 38 = .ok (.goto 5, 3) := by decide +kernel
theorem dX10_send_41 : decode cX10_send 41 = .ok (.bipush (-5), 2) := by decide +kernel
theorem dX10_send_43 : decode cX10_send 43 = .ok (.ireturn, 1) := by decide +kernel
theorem dX10_send_44 : decode cX10_send 44 = .ok (.aload_n 0, 1) := by decide +kernel
theorem dX10_send_45 : decode cX10_send 45 = .ok (.aload_n 0, 1) := by decide +kernel
theorem dX10_send_46 : decode cX10_send 46 = .ok (.getfield 231, 3) := by decide +kernel
theorem dX10_send_49 : decode cX10_send 49 = .ok (.iload_n 1, 1) := by decide +kernel
theorem dX10_send_50 : decode cX10_send 50 = .ok (.iload_n 2, 1) := by decide +kernel
theorem dX10_send_51 : decode cX10_send 51 = .ok (.iload_n 3, 1) := by decide +kernel
theorem dX10_send_52 : decode cX10_send 52 = .ok (.iload 4, 2) := by decide +kernel
theorem dX10_send_54 : decode cX10_send 54 = .ok (.iload 5, 2) := by decide +kernel
theorem dX10_send_56 : decode cX10_send 56 = .ok (.iload 6, 2) := by decide +kernel
theorem dX10_send_58 : decode cX10_send 58 = .ok (.iload 7, 2) := by decide +kernel
theorem dX10_send_60 : decode cX10_send 60 = .ok (.invokevirtual 234, 3) := by decide +kernel
theorem dX10_send_63 : decode cX10_send 63 = .ok (.aload_n 0, 1) := by decide +kernel
theorem dX10_send_64 : decode cX10_send 64 = .ok (.dup, 1) := by decide +kernel
theorem dX10_send_65 : decode cX10_send 65 = .ok (.getfield 231, 3) := by decide +kernel
theorem dX10_send_68 : decode cX10_send 68 = .ok (.iconst 1, 1) := by decide +kernel
theorem dX10_send_69 : decode cX10_send 69 = .ok (.iadd, 1) := by decide +kernel
theorem dX10_send_70 : decode cX10_send 70 = .ok (.putfield 231, 3) := by decide +kernel
theorem dX10_send_73 : decode cX10_send 73 = .ok (.aload_n 0, 1) := by decide +kernel
theorem dX10_send_74 : decode cX10_send 74 = .ok (.getfield 231, 3) := by decide +kernel
theorem dX10_send_77 : decode cX10_send 77 = .ok (.iconst 1, 1) := by decide +kernel
theorem dX10_send_78 : decode cX10_send 78 = .ok (.isub, 1) := by decide +kernel
theorem dX10_send_79 : decode cX10_send 79 = .ok (.ireturn, 1) := by decide +kernel
theorem dX10_isLetter_0 : decode cX10_isLetter 0 = .ok (.iload_n 1, 1) := by decide +kernel
theorem dX10_isLetter_1 : decode cX10_isLetter 1 = .ok (.i2l, 1) := by decide +kernel
theorem dX10_isLetter_2 : decode cX10_isLetter 2 = .ok (.lconst 0, 1) := by decide +kernel
theorem dX10_isLetter_3 : decode cX10_isLetter 3 = .ok (.aload_n 0, 1) := by decide +kernel
theorem dX10_isLetter_4 : decode cX10_isLetter 4 = .ok (.getfield 231, 3) := by decide +kernel
theorem dX10_isLetter_7 : decode cX10_isLetter 7 = .ok (.iconst 1, 1) := by decide +kernel
theorem dX10_isLetter_8 : decode cX10_isLetter 8 = .ok (.isub, 1) := by decide +kernel
theorem dX10_isLetter_9 : decode cX10_isLetter 9 = .ok (.i2l, 1) := by decide +kernel
theorem dX10_isLetter_10 : decode cX10_isLetter 10 = .ok (.invokestatic 121, 3) := by decide +kernel
theorem dX10_isLetter_13 : decode cX10_isLetter 13 = .ok (.ireturn, 1) := by decide +kernel
theorem dX10_isRight_0 : decode cX10_isRight 0 = .ok (.aload_n 0, 1) := by decide +kernel
theorem dX10_isRight_1 : decode cX10_isRight 1 = .ok (.aload_n 0, 1) := by decide +kernel
theorem dX10_isRight_2 : decode cX10_isRight 2 = .ok (.getfield 65, 3) := by decide +kernel
theorem dX10_isRight_5 : decode cX10_isRight 5 = .ok (.iload_n 1, 1) := by decide +kernel
theorem dX10_isRight_6 : decode cX10_isRight 6 = .ok (.iaload, 1) := by decide +kernel
theorem dX10_isRight_7 : decode cX10_isRight 7 = .ok (.aload_n 0, 1) := by decide +kernel
theorem dX10_isRight_8 : decode cX10_isRight 8 = .ok (.getfield 68, 3) := by decide +kernel
theorem dX10_isRight_11 : decode cX10_isRight 11 = .ok (.iload_n 1, 1) := by decide +kernel
theorem dX10_isRight_12 : decode cX10_isRight 12 = .ok (.iaload, 1) := by decide +kernel
theorem dX10_isRight_13 : decode cX10_isRight 13 = .ok (.aload_n 0, 1) := by decide +kernel
theorem dX10_isRight_14 : decode cX10_isRight 14 = .ok (.getfield 71, 3) := by decide +kernel
theorem dX10_isRight_17 : decode cX10_isRight 17 = .ok (.iload_n 1, 1) := by decide +kernel
theorem dX10_isRight_18 : decode cX10_isRight 18 = .ok (.iaload, 1) := by decide +kernel
theorem dX10_isRight_19 : decode cX10_isRight 19 = .ok (.invokevirtual 151, 3) := by decide +kernel
theorem dX10_isRight_22 : decode cX10_isRight 22 = .ok (.aload_n 0, 1) := by decide +kernel
theorem dX10_isRight_23 : decode cX10_isRight 23 = .ok (.getfield 74, 3) := by decide +kernel
theorem dX10_isRight_26 : decode cX10_isRight 26 = .ok (.iload_n 1, 1) := by decide +kernel
theorem dX10_isRight_27 : decode cX10_isRight 27 = .ok (.iaload, 1) := by decide +kernel
theorem dX10_isRight_28 : decode cX10_isRight 28 = .ok (.if_icmp .ne 7, 3) := by decide +kernel
theorem dX10_isRight_31 : decode cX10_isRight 31 = .ok (.iconst 1, 1) := by decide +kernel
theorem dX10_isRight_32 : decode cX10_isRight 32 = .ok (.goto 4, 3) := by decide +kernel
theorem dX10_isRight_35 : decode cX10_isRight 35 = .ok (.iconst 0, 1) := by decide +kernel
theorem dX10_isRight_36 : decode cX10_isRight 36 = .ok (.ireturn, 1) := by decide +kernel
theorem dX10_comesOn_0 : decode cX10_comesOn 0 = .ok (.aload_n 0, 1) := by decide +kernel
theorem dX10_comesOn_1 : decode cX10_comesOn 1 = .ok (.getfield 59, 3) := by decide +kernel
theorem dX10_comesOn_4 : decode cX10_comesOn 4 = .ok (.iload_n 1, 1) := by decide +kernel
theorem dX10_comesOn_5 : decode cX10_comesOn 5 = .ok (.iaload, 1) := by decide +kernel
theorem dX10_comesOn_6 : decode cX10_comesOn 6 = .ok (.aload_n 0, 1) := by decide +kernel
theorem dX10_comesOn_7 : decode cX10_comesOn 7 = .ok (.getfield 53, 3) := by decide +kernel
theorem dX10_comesOn_10 : decode cX10_comesOn 10 = .ok (.aload_n 0, 1) := by decide +kernel
theorem dX10_comesOn_11 : decode cX10_comesOn 11 = .ok (.getfield 62, 3) := by decide +kernel
theorem dX10_comesOn_14 : decode cX10_comesOn 14 = .ok (.iload_n 1, 1) := by decide +kernel
theorem dX10_comesOn_15 : decode cX10_comesOn 15 = .ok (.iaload, 1) := by decide +kernel
theorem dX10_comesOn_16 : decode cX10_comesOn 16 = .ok (.iaload, 1) := by decide +kernel
theorem dX10_comesOn_17 : decode cX10_comesOn 17 = .ok (.iadd, 1) := by decide +kernel
theorem dX10_comesOn_18 : decode cX10_comesOn 18 = .ok (.ireturn, 1) := by decide +kernel
theorem dX10_right_0 : decode cX10_right 0 = .ok (.aload_n 0, 1) := by decide +kernel
theorem dX10_right_1 : decode cX10_right 1 = .ok (.iload_n 1, 1) := by decide +kernel
theorem dX10_right_2 : decode cX10_right 2 = .ok (.invokevirtual 238, 3) := by decide +kernel
theorem dX10_right_5 : decode cX10_right 5 = .ok (.ifCond .ne 8, 3) := by decide +kernel
theorem dX10_right_8 : decode cX10_right 8 = .ok (.bipush (-2), 2) := by decide +kernel
theorem dX10_right_10 : decode cX10_right 10 = .ok (.goto 16, 3) := by decide +kernel
theorem dX10_right_13 : decode cX10_right 13 = .ok (.aload_n 0, 1) := by decide +kernel
theorem dX10_right_14 : decode cX10_right 14 = .ok (.iload_n 1, 1) := by decide +kernel
theorem dX10_right_15 : decode cX10_right 15 = .ok (.invokevirtual 241, 3) := by decide +kernel
theorem dX10_right_18 : decode cX10_right 18 = .ok (.ifCond .eq 7, 3) := by decide +kernel
theorem dX10_right_21 : decode cX10_right 21 = .ok (.iconst 1, 1) := by decide +kernel
theorem dX10_right_22 : decode cX10_right 22 = .ok (.goto 4, 3) := by decide +kernel
theorem dX10_right_25 : decode cX10_right 25 = .ok (.iconst 0, 1) := by decide +kernel
theorem dX10_right_26 : decode cX10_right 26 = .ok (.ireturn, 1) := by decide +kernel
theorem dX10_comes_0 : decode cX10_comes 0 = .ok (.aload_n 0, 1) := by decide +kernel
theorem dX10_comes_1 : decode cX10_comes 1 = .ok (.iload_n 1, 1) := by decide +kernel
theorem dX10_comes_2 : decode cX10_comes 2 = .ok (.invokevirtual 238, 3) := by decide +kernel
theorem dX10_comes_5 : decode cX10_comes 5 = .ok (.ifCond .eq 11, 3) := by decide +kernel
theorem dX10_comes_8 : decode cX10_comes 8 = .ok (.aload_n 0, 1) := by decide +kernel
theorem dX10_comes_9 : decode cX10_comes 9 = .ok (.iload_n 1, 1) := by decide +kernel
theorem dX10_comes_10 : decode cX10_comes 10 = .ok (.invokevirtual 244, 3) := by decide +kernel
theorem dX10_comes_13 : decode cX10_comes 13 = .ok (.goto 5, 3) := by decide +kernel
theorem dX10_comes_16 : decode cX10_comes 16 = .ok (.bipush (-2), 2) := by decide +kernel
theorem dX10_comes_18 : decode cX10_comes 18 = .ok (.ireturn, 1) := by decide +kernel
theorem dX10_areOfOne_0 : decode cX10_areOfOne 0 = .ok (.aload_n 0, 1) := by decide +kernel
theorem dX10_areOfOne_1 : decode cX10_areOfOne 1 = .ok (.getfield 65, 3) := by decide +kernel
theorem dX10_areOfOne_4 : decode cX10_areOfOne 4 = .ok (.iload_n 1, 1) := by decide +kernel
theorem dX10_areOfOne_5 : decode cX10_areOfOne 5 = .ok (.iaload, 1) := by decide +kernel
theorem dX10_areOfOne_6 : decode cX10_areOfOne 6 = .ok (.aload_n 0, 1) := by decide +kernel
theorem dX10_areOfOne_7 : decode cX10_areOfOne 7 = .ok (.getfield 65, 3) := by decide +kernel
theorem dX10_areOfOne_10 : decode cX10_areOfOne 10 = .ok (.iload_n 2, 1) := by decide +kernel
theorem dX10_areOfOne_11 : decode cX10_areOfOne 11 = .ok (.iaload, 1) := by decide +kernel
theorem dX10_areOfOne_12 : decode cX10_areOfOne 12 = .ok (.if_icmp .ne 37, 3) := by decide +kernel
theorem dX10_areOfOne_15 : decode cX10_areOfOne 15 = .ok (.aload_n 0, 1) := by decide +kernel
theorem dX10_areOfOne_16 : decode cX10_areOfOne 16 = .ok (.getfield 68, 3) := by decide +kernel
theorem dX10_areOfOne_19 : decode cX10_areOfOne 19 = .ok (.iload_n 1, 1) := by decide +kernel
theorem dX10_areOfOne_20 : decode cX10_areOfOne 20 = .ok (.iaload, 1) := by decide +kernel
theorem dX10_areOfOne_21 : decode cX10_areOfOne 21 = .ok (.aload_n 0, 1) := by decide +kernel
theorem dX10_areOfOne_22 : decode cX10_areOfOne 22 = .ok (.getfield 68, 3) := by decide +kernel
theorem dX10_areOfOne_25 : decode cX10_areOfOne 25 = .ok (.iload_n 2, 1) := by decide +kernel
theorem dX10_areOfOne_26 : decode cX10_areOfOne 26 = .ok (.iaload, 1) := by decide +kernel
theorem dX10_areOfOne_27 : decode cX10_areOfOne 27 = .ok (.if_icmp .ne 22, 3) := by decide +kernel
theorem dX10_areOfOne_30 : decode cX10_areOfOne 30 = .ok (.aload_n 0, 1) := by decide +kernel
theorem dX10_areOfOne_31 : decode cX10_areOfOne 31 = .ok (.getfield 71, 3) := by decide +kernel
theorem dX10_areOfOne_34 : decode cX10_areOfOne 34 = .ok (.iload_n 1, 1) := by decide +kernel
theorem dX10_areOfOne_35 : decode cX10_areOfOne 35 = .ok (.iaload, 1) := by decide +kernel
theorem dX10_areOfOne_36 : decode cX10_areOfOne 36 = .ok (.aload_n 0, 1) := by decide +kernel
theorem dX10_areOfOne_37 : decode cX10_areOfOne 37 = .ok (.getfield 71, 3) := by decide +kernel
theorem dX10_areOfOne_40 : decode cX10_areOfOne 40 = .ok (.iload_n 2, 1) := by decide +kernel
theorem dX10_areOfOne_41 : decode cX10_areOfOne 41 = .ok (.iaload, 1) := by decide +kernel
theorem dX10_areOfOne_42 : decode cX10_areOfOne 42 = .ok (.if_icmp .ne 7, 3) := by decide +kernel
theorem dX10_areOfOne_45 : decode cX10_areOfOne 45 = .ok (.iconst 1, 1) := by decide +kernel
theorem dX10_areOfOne_46 : decode cX10_areOfOne 46 = .ok (.goto 4, 3) := by decide +kernel
theorem dX10_areOfOne_49 : decode cX10_areOfOne 49 = .ok (.iconst 0, 1) := by decide +kernel
theorem dX10_areOfOne_50 : decode cX10_areOfOne 50 = .ok (.ireturn, 1) := by decide +kernel
theorem dX10_slips_0 : decode cX10_slips 0 = .ok (.aload_n 0, 1) := by decide +kernel
theorem dX10_slips_1 : decode cX10_slips 1 = .ok (.iload_n 1, 1) := by decide +kernel
theorem dX10_slips_2 : decode cX10_slips 2 = .ok (.invokevirtual 238, 3) := by decide +kernel
theorem dX10_slips_5 : decode cX10_slips 5 = .ok (.ifCond .ne 6, 3) := by decide +kernel
theorem dX10_slips_8 : decode cX10_slips 8 = .ok (.bipush (-2), 2) := by decide +kernel
theorem dX10_slips_10 : decode cX10_slips 10 = .ok (.ireturn, 1) := by decide +kernel
theorem dX10_slips_11 : decode cX10_slips 11 = .ok (.aload_n 0, 1) := by decide +kernel
theorem dX10_slips_12 : decode cX10_slips 12 = .ok (.aload_n 0, 1) := by decide +kernel
theorem dX10_slips_13 : decode cX10_slips 13 = .ok (.getfield 56, 3) := by decide +kernel
theorem dX10_slips_16 : decode cX10_slips 16 = .ok (.iload_n 1, 1) := by decide +kernel
theorem dX10_slips_17 : decode cX10_slips 17 = .ok (.iaload, 1) := by decide +kernel
theorem dX10_slips_18 : decode cX10_slips 18 = .ok (.aload_n 0, 1) := by decide +kernel
theorem dX10_slips_19 : decode cX10_slips 19 = .ok (.getfield 65, 3) := by decide +kernel
theorem dX10_slips_22 : decode cX10_slips 22 = .ok (.iload_n 1, 1) := by decide +kernel
theorem dX10_slips_23 : decode cX10_slips 23 = .ok (.iaload, 1) := by decide +kernel
theorem dX10_slips_24 : decode cX10_slips 24 = .ok (.aload_n 0, 1) := by decide +kernel
theorem dX10_slips_25 : decode cX10_slips 25 = .ok (.getfield 71, 3) := by decide +kernel
theorem dX10_slips_28 : decode cX10_slips 28 = .ok (.iload_n 1, 1) := by decide +kernel
theorem dX10_slips_29 : decode cX10_slips 29 = .ok (.iaload, 1) := by decide +kernel
theorem dX10_slips_30 : decode cX10_slips 30 = .ok (.invokevirtual 247, 3) := by decide +kernel
theorem dX10_slips_33 : decode cX10_slips 33 = .ok (.ifCond .eq 7, 3) := by decide +kernel
theorem dX10_slips_36 : decode cX10_slips 36 = .ok (.iconst 0, 1) := by decide +kernel
theorem dX10_slips_37 : decode cX10_slips 37 = .ok (.goto 4, 3) := by decide +kernel
theorem dX10_slips_40 : decode cX10_slips 40 = .ok (.iconst 1, 1) := by decide +kernel
theorem dX10_slips_41 : decode cX10_slips 41 = .ok (.istore_n 2, 1) := by decide +kernel
theorem dX10_slips_42 : decode cX10_slips 42 = .ok (.iload_n 2, 1) := by decide +kernel
theorem dX10_slips_43 : decode cX10_slips 43 = .ok (.aload_n 0, 1) := by decide +kernel
theorem dX10_slips_44 : decode cX10_slips 44 = .ok (.getfield 71, 3) := by decide +kernel
theorem dX10_slips_47 : decode cX10_slips 47 = .ok (.iload_n 1, 1) := by decide +kernel
theorem dX10_slips_48 : decode cX10_slips 48 = .ok (.iaload, 1) := by decide +kernel
theorem dX10_slips_49 : decode cX10_slips 49 = .ok (.aload_n 0, 1) := by decide +kernel
theorem dX10_slips_50 : decode cX10_slips 50 = .ok (.getfield 59, 3) := by decide +kernel
theorem dX10_slips_53 : decode cX10_slips 53 = .ok (.iload_n 1, 1) := by decide +kernel
theorem dX10_slips_54 : decode cX10_slips 54 = .ok (.iaload, 1) := by decide +kernel
theorem dX10_slips_55 : decode cX10_slips 55 = .ok (.if_icmp .le 7, 3) := by decide +kernel
theorem dX10_slips_58 : decode cX10_slips 58 = .ok (.iconst 2, 1) := by decide +kernel
theorem dX10_slips_59 : decode cX10_slips 59 = .ok (.goto 4, 3) := by decide +kernel
theorem dX10_slips_62 : decode cX10_slips 62 = .ok (.iconst 0, 1) := by decide +kernel
theorem dX10_slips_63 : decode cX10_slips 63 = .ok (.ior, 1) := by decide +kernel
theorem dX10_slips_64 : decode cX10_slips 64 = .ok (.istore_n 2, 1) := by decide +kernel
theorem dX10_slips_65 : decode cX10_slips 65 = .ok (.iconst 0, 1) := by decide +kernel
theorem dX10_slips_66 : decode cX10_slips 66 = .ok (.istore_n 3, 1) := by decide +kernel
theorem dX10_slips_67 : decode cX10_slips 67 = .ok (.iload_n 3, 1) := by decide +kernel
theorem dX10_slips_68 : decode cX10_slips 68 = .ok (.aload_n 0, 1) := by decide +kernel
theorem dX10_slips_69 : decode cX10_slips 69 = .ok (.getfield 231, 3) := by decide +kernel
theorem dX10_slips_72 : decode cX10_slips 72 = .ok (.if_icmp .ge 73, 3) := by decide +kernel
theorem dX10_slips_75 : decode cX10_slips 75 = .ok (.aload_n 0, 1) := by decide +kernel
theorem dX10_slips_76 : decode cX10_slips 76 = .ok (.iload_n 1, 1) := by decide +kernel
theorem dX10_slips_77 : decode cX10_slips 77 = .ok (.iload_n 3, 1) := by decide +kernel
theorem dX10_slips_78 : decode cX10_slips 78 = .ok (.invokevirtual 251, 3) := by decide +kernel
theorem dX10_slips_81 : decode cX10_slips 81 = .ok (.ifCond .eq 22, 3) := by decide +kernel
theorem dX10_slips_84 : decode cX10_slips 84 = .ok (.aload_n 0, 1) := by decide +kernel
theorem dX10_slips_85 : decode cX10_slips 85 = .ok (.getfield 74, 3) := by decide +kernel
theorem dX10_slips_88 : decode cX10_slips 88 = .ok (.iload_n 1, 1) := by decide +kernel
theorem dX10_slips_89 : decode cX10_slips 89 = .ok (.iaload, 1) := by decide +kernel
theorem dX10_slips_90 : decode cX10_slips 90 = .ok (.aload_n 0, 1) := by decide +kernel
theorem dX10_slips_91 : decode cX10_slips 91 = .ok (.getfield 74, 3) := by decide +kernel
theorem dX10_slips_94 : decode cX10_slips 94 = .ok (.iload_n 3, 1) := by decide +kernel
theorem dX10_slips_95 : decode cX10_slips 95 = .ok (.iaload, 1) := by decide +kernel
theorem dX10_slips_96 : decode cX10_slips 96 = .ok (.if_icmp .eq 7, 3) := by decide +kernel
theorem dX10_slips_99 : decode cX10_slips 99 = .ok (.iconst 1, 1) := by decide +kernel
theorem dX10_slips_100 : decode cX10_slips 100 = .ok (.goto 4, 3) := by decide +kernel
theorem dX10_slips_103 : decode cX10_slips 103 = .ok (.iconst 0, 1) := by decide +kernel
theorem dX10_slips_104 : decode cX10_slips 104 = .ok (.istore 4, 2) := by decide +kernel
theorem dX10_slips_106 : decode cX10_slips 106 = .ok (.iload_n 2, 1) := by decide +kernel
theorem dX10_slips_107 : decode cX10_slips 107 = .ok (.iload 4, 2) := by decide +kernel
theorem dX10_slips_109 : decode cX10_slips 109 = .ok (.ifCond .ne 7, 3) := by decide +kernel
theorem dX10_slips_112 : decode cX10_slips 112 = .ok (.iconst 0, 1) := by decide +kernel
theorem dX10_slips_113 : decode cX10_slips 113 = .ok (.goto 24, 3) := by decide +kernel
theorem dX10_slips_116 : decode cX10_slips 116 = .ok (.aload_n 0, 1) := by decide +kernel
theorem dX10_slips_117 : decode cX10_slips 117 = .ok (.getfield 56, 3) := by decide +kernel
theorem dX10_slips_120 : decode cX10_slips 120 = .ok (.iload_n 1, 1) := by decide +kernel
theorem dX10_slips_121 : decode cX10_slips 121 = .ok (.iaload, 1) := by decide +kernel
theorem dX10_slips_122 : decode cX10_slips 122 = .ok (.aload_n 0, 1) := by decide +kernel
theorem dX10_slips_123 : decode cX10_slips 123 = .ok (.getfield 56, 3) := by decide +kernel
theorem dX10_slips_126 : decode cX10_slips 126 = .ok (.iload_n 3, 1) := by decide +kernel
theorem dX10_slips_127 : decode cX10_slips 127 = .ok (.iaload, 1) := by decide +kernel
theorem dX10_slips_128 : decode cX10_slips 128 = .ok (.if_icmp .ne 7, 3) := by decide +kernel
theorem dX10_slips_131 : decode cX10_slips 131 = .ok (.iconst 4, 1) := by decide +kernel
theorem dX10_slips_132 : decode cX10_slips 132 = .ok (.goto 5, 3) := by decide +kernel
theorem dX10_slips_135 : decode cX10_slips 135 = .ok (.bipush 8, 2) := by decide +kernel
theorem dX10_slips_137 : decode cX10_slips 137 = .ok (.ior, 1) := by decide +kernel
theorem dX10_slips_138 : decode cX10_slips 138 = .ok (.istore_n 2, 1) := by decide +kernel
theorem dX10_slips_139 : decode cX10_slips 139 = .ok (.iinc 3 1, 3) := by decide +kernel
theorem dX10_slips_142 : decode cX10_slips 142 = .ok (.goto (-75), 3) := by decide +kernel
theorem dX10_slips_145 : decode cX10_slips 145 = .ok (.iload_n 2, 1) := by decide +kernel
theorem dX10_slips_146 : decode cX10_slips 146 = .ok (.ireturn, 1) := by decide +kernel
theorem dX10_sawFact_0 : decode cX10_sawFact 0 = .ok (.iconst 0, 1) := by decide +kernel
theorem dX10_sawFact_1 : decode cX10_sawFact 1 = .ok (.istore 4, 2) := by decide +kernel
theorem dX10_sawFact_3 : decode cX10_sawFact 3 = .ok (.aload_n 0, 1) := by decide +kernel
theorem dX10_sawFact_4 : decode cX10_sawFact 4 = .ok (.getfield 19, 3) := by decide +kernel
theorem dX10_sawFact_7 : decode cX10_sawFact 7 = .ok (.iload_n 2, 1) := by decide +kernel
theorem dX10_sawFact_8 : decode cX10_sawFact 8 = .ok (.iaload, 1) := by decide +kernel
theorem dX10_sawFact_9 : decode cX10_sawFact 9 = .ok (.istore 5, 2) := by decide +kernel
theorem dX10_sawFact_11 : decode cX10_sawFact 11 = .ok (.iload 5, 2) := by decide +kernel
theorem dX10_sawFact_13 : decode cX10_sawFact 13 = .ok (.aload_n 0, 1) := by decide +kernel
theorem dX10_sawFact_14 : decode cX10_sawFact 14 = .ok (.getfield 22, 3) := by decide +kernel
theorem dX10_sawFact_17 : decode cX10_sawFact 17 = .ok (.iload_n 2, 1) := by decide +kernel
theorem dX10_sawFact_18 : decode cX10_sawFact 18 = .ok (.iaload, 1) := by decide +kernel
theorem dX10_sawFact_19 : decode cX10_sawFact 19 = .ok (.if_icmp .gt 43, 3) := by decide +kernel
theorem dX10_sawFact_22 : decode cX10_sawFact 22 = .ok (.iload 5, 2) := by decide +kernel
theorem dX10_sawFact_24 : decode cX10_sawFact 24 = .ok (.iload_n 3, 1) := by decide +kernel
theorem dX10_sawFact_25 : decode cX10_sawFact 25 = .ok (.if_icmp .gt 37, 3) := by decide +kernel
theorem dX10_sawFact_28 : decode cX10_sawFact 28 = .ok (.iload 4, 2) := by decide +kernel
theorem dX10_sawFact_30 : decode cX10_sawFact 30 = .ok (.ifCond .ne 19, 3) := by decide +kernel
theorem dX10_sawFact_33 : decode cX10_sawFact 33 = .ok (.aload_n 0, 1) := by decide +kernel
theorem dX10_sawFact_34 : decode cX10_sawFact 34 = .ok (.iload_n 1, 1) := by decide +kernel
theorem dX10_sawFact_35 : decode cX10_sawFact 35 = .ok (.aload_n 0, 1) := by decide +kernel
theorem dX10_sawFact_36 : decode cX10_sawFact 36 = .ok (.getfield 13, 3) := by decide +kernel
theorem dX10_sawFact_39 : decode cX10_sawFact 39 = .ok (.iload_n 2, 1) := by decide +kernel
theorem dX10_sawFact_40 : decode cX10_sawFact 40 = .ok (.iaload, 1) := by decide +kernel
theorem dX10_sawFact_41 : decode cX10_sawFact 41 = .ok (.iload 5, 2) := by decide +kernel
theorem dX10_sawFact_43 : decode cX10_sawFact 43 = .ok (.invokevirtual 247, 3) := by decide +kernel
theorem dX10_sawFact_46 : decode cX10_sawFact 46 = .ok (.ifCond .eq 7, 3) := by decide +kernel
theorem dX10_sawFact_49 : decode cX10_sawFact 49 = .ok (.iconst 1, 1) := by decide +kernel
theorem dX10_sawFact_50 : decode cX10_sawFact 50 = .ok (.goto 4, 3) := by decide +kernel
theorem dX10_sawFact_53 : decode cX10_sawFact 53 = .ok (.iconst 0, 1) := by decide +kernel
theorem dX10_sawFact_54 : decode cX10_sawFact 54 = .ok (.istore 4, 2) := by decide +kernel
theorem dX10_sawFact_56 : decode cX10_sawFact 56 = .ok (.iinc 5 1, 3) := by decide +kernel
theorem dX10_sawFact_59 : decode cX10_sawFact 59 = .ok (.goto (-48), 3) := by decide +kernel
theorem dX10_sawFact_62 : decode cX10_sawFact 62 = .ok (.iload 4, 2) := by decide +kernel
theorem dX10_sawFact_64 : decode cX10_sawFact 64 = .ok (.ireturn, 1) := by decide +kernel
theorem dX10_toldFact_0 : decode cX10_toldFact 0 = .ok (.iconst 0, 1) := by decide +kernel
theorem dX10_toldFact_1 : decode cX10_toldFact 1 = .ok (.istore 4, 2) := by decide +kernel
theorem dX10_toldFact_3 : decode cX10_toldFact 3 = .ok (.iconst 0, 1) := by decide +kernel
theorem dX10_toldFact_4 : decode cX10_toldFact 4 = .ok (.istore 5, 2) := by decide +kernel
theorem dX10_toldFact_6 : decode cX10_toldFact 6 = .ok (.iload 5, 2) := by decide +kernel
theorem dX10_toldFact_8 : decode cX10_toldFact 8 = .ok (.aload_n 0, 1) := by decide +kernel
theorem dX10_toldFact_9 : decode cX10_toldFact 9 = .ok (.getfield 231, 3) := by decide +kernel
theorem dX10_toldFact_12 : decode cX10_toldFact 12 = .ok (.if_icmp .ge 103, 3) := by decide +kernel
theorem dX10_toldFact_15 : decode cX10_toldFact 15 = .ok (.iload 4, 2) := by decide +kernel
theorem dX10_toldFact_17 : decode cX10_toldFact 17 = .ok (.ifCond .ne 85, 3) := by decide +kernel
theorem dX10_toldFact_20 : decode cX10_toldFact 20 = .ok (.aload_n 0, 1) := by decide +kernel
theorem dX10_toldFact_21 : decode cX10_toldFact 21 = .ok (.getfield 56, 3) := by decide +kernel
theorem dX10_toldFact_24 : decode cX10_toldFact 24 = .ok (.iload 5, 2) := by decide +kernel
theorem dX10_toldFact_26 : decode cX10_toldFact 26 = .ok (.iaload, 1) := by decide +kernel
theorem dX10_toldFact_27 : decode cX10_toldFact 27 = .ok (.iload_n 1, 1) := by decide +kernel
theorem dX10_toldFact_28 : decode cX10_toldFact 28 = .ok (.if_icmp .ne 78, 3) := by decide +kernel
theorem dX10_toldFact_31 : decode cX10_toldFact 31 = .ok (.aload_n 0, 1) := by decide +kernel
theorem dX10_toldFact_32 : decode cX10_toldFact 32 = .ok (.getfield 59, 3) := by decide +kernel
theorem dX10_toldFact_35 : decode cX10_toldFact 35 = .ok (.iload 5, 2) := by decide +kernel
theorem dX10_toldFact_37 : decode cX10_toldFact 37 = .ok (.iaload, 1) := by decide +kernel
theorem dX10_toldFact_38 : decode cX10_toldFact 38 = .ok (.iload_n 3, 1) := by decide +kernel
theorem dX10_toldFact_39 : decode cX10_toldFact 39 = .ok (.if_icmp .gt 67, 3) := by decide +kernel
theorem dX10_toldFact_42 : decode cX10_toldFact 42 = .ok (.aload_n 0, 1) := by decide +kernel
theorem dX10_toldFact_43 : decode cX10_toldFact 43 = .ok (.getfield 65, 3) := by decide +kernel
theorem dX10_toldFact_46 : decode cX10_toldFact 46 = .ok (.iload 5, 2) := by decide +kernel
theorem dX10_toldFact_48 : decode cX10_toldFact 48 = .ok (.iaload, 1) := by decide +kernel
theorem dX10_toldFact_49 : decode cX10_toldFact 49 = .ok (.aload_n 0, 1) := by decide +kernel
theorem dX10_toldFact_50 : decode cX10_toldFact 50 = .ok (.getfield 13, 3) := by decide +kernel
theorem dX10_toldFact_53 : decode cX10_toldFact 53 = .ok (.iload_n 2, 1) := by decide +kernel
theorem dX10_toldFact_54 : decode cX10_toldFact 54 = .ok (.iaload, 1) := by decide +kernel
theorem dX10_toldFact_55 : decode cX10_toldFact 55 = .ok (.if_icmp .ne 51, 3) := by decide +kernel
theorem dX10_toldFact_58 : decode cX10_toldFact 58 = .ok (.aload_n 0, 1) := by decide +kernel
theorem dX10_toldFact_59 : decode cX10_toldFact 59 = .ok (.getfield 68, 3) := by decide +kernel
theorem dX10_toldFact_62 : decode cX10_toldFact 62 = .ok (.iload 5, 2) := by decide +kernel
theorem dX10_toldFact_64 : decode cX10_toldFact 64 = .ok (.iaload, 1) := by decide +kernel
theorem dX10_toldFact_65 : decode cX10_toldFact 65 = .ok (.aload_n 0, 1) := by decide +kernel
theorem dX10_toldFact_66 : decode cX10_toldFact 66 = .ok (.getfield 16, 3) := by decide +kernel
theorem dX10_toldFact_69 : decode cX10_toldFact 69 = .ok (.iload_n 2, 1) := by decide +kernel
theorem dX10_toldFact_70 : decode cX10_toldFact 70 = .ok (.iaload, 1) := by decide +kernel
theorem dX10_toldFact_71 : decode cX10_toldFact 71 = .ok (.if_icmp .ne 35, 3) := by decide +kernel
theorem dX10_toldFact_74 : decode cX10_toldFact 74 = .ok (.aload_n 0, 1) := by decide +kernel
theorem dX10_toldFact_75 : decode cX10_toldFact 75 = .ok (.getfield 71, 3) := by decide +kernel
theorem dX10_toldFact_78 : decode cX10_toldFact 78 = .ok (.iload 5, 2) := by decide +kernel
theorem dX10_toldFact_80 : decode cX10_toldFact 80 = .ok (.iaload, 1) := by decide +kernel
theorem dX10_toldFact_81 : decode cX10_toldFact 81 = .ok (.i2l, 1) := by decide +kernel
theorem dX10_toldFact_82 : decode cX10_toldFact 82 = .ok (.aload_n 0, 1) := by decide +kernel
theorem dX10_toldFact_83 : decode cX10_toldFact 83 = .ok (.getfield 19, 3) := by decide +kernel
theorem dX10_toldFact_86 : decode cX10_toldFact 86 = .ok (.iload_n 2, 1) := by decide +kernel
theorem dX10_toldFact_87 : decode cX10_toldFact 87 = .ok (.iaload, 1) := by decide +kernel
theorem dX10_toldFact_88 : decode cX10_toldFact 88 = .ok (.i2l, 1) := by decide +kernel
theorem dX10_toldFact_89 : decode cX10_toldFact 89 = .ok (.aload_n 0, 1) := by decide +kernel
theorem dX10_toldFact_90 : decode cX10_toldFact 90 = .ok (.getfield 22, 3) := by decide +kernel
theorem dX10_toldFact_93 : decode cX10_toldFact 93 = .ok (.iload_n 2, 1) := by decide +kernel
theorem dX10_toldFact_94 : decode cX10_toldFact 94 = .ok (.iaload, 1) := by decide +kernel
theorem dX10_toldFact_95 : decode cX10_toldFact 95 = .ok (.i2l, 1) := by decide +kernel
theorem dX10_toldFact_96 : decode cX10_toldFact 96 = .ok (.invokestatic 121, 3) := by decide +kernel
theorem dX10_toldFact_99 : decode cX10_toldFact 99 = .ok (.ifCond .eq 7, 3) := by decide +kernel
theorem dX10_toldFact_102 : decode cX10_toldFact 102 = .ok (.iconst 1, 1) := by decide +kernel
theorem dX10_toldFact_103 : decode cX10_toldFact 103 = .ok (.goto 4, 3) := by decide +kernel
theorem dX10_toldFact_106 : decode cX10_toldFact 106 = .ok (.iconst 0, 1) := by decide +kernel
theorem dX10_toldFact_107 : decode cX10_toldFact 107 = .ok (.istore 4, 2) := by decide +kernel
theorem dX10_toldFact_109 : decode cX10_toldFact 109 = .ok (.iinc 5 1, 3) := by decide +kernel
theorem dX10_toldFact_112 : decode cX10_toldFact 112 = .ok (.goto (-106), 3) := by decide +kernel
theorem dX10_toldFact_115 : decode cX10_toldFact 115 = .ok (.iload 4, 2) := by decide +kernel
theorem dX10_toldFact_117 : decode cX10_toldFact 117 = .ok (.ireturn, 1) := by decide +kernel
theorem dX10_lacks_0 : decode cX10_lacks 0 = .ok (.iload_n 1, 1) := by decide +kernel
theorem dX10_lacks_1 : decode cX10_lacks 1 = .ok (.invokestatic 155, 3) := by decide +kernel
theorem dX10_lacks_4 : decode cX10_lacks 4 = .ok (.ifCond .ne 6, 3) := by decide +kernel
theorem dX10_lacks_7 : decode cX10_lacks 7 = .ok (.bipush (-2), 2) := by decide +kernel
theorem dX10_lacks_9 : decode cX10_lacks 9 = .ok (.ireturn, 1) := by decide +kernel
theorem dX10_lacks_10 : decode cX10_lacks 10 = .ok (.iload_n 2, 1) := by decide +kernel
theorem dX10_lacks_11 : decode cX10_lacks 11 = .ok (.invokestatic 142, 3) := by decide +kernel
theorem dX10_lacks_14 : decode cX10_lacks 14 = .ok (.ifCond .ne 6, 3) := by decide +kernel
theorem dX10_lacks_17 : decode cX10_lacks 17 = .ok (.bipush (-3), 2) := by decide +kernel
theorem dX10_lacks_19 : decode cX10_lacks 19 = .ok (.ireturn, 1) := by decide +kernel
theorem dX10_lacks_20 : decode cX10_lacks 20 = .ok (.iconst 0, 1) := by decide +kernel
theorem dX10_lacks_21 : decode cX10_lacks 21 = .ok (.istore_n 3, 1) := by decide +kernel
theorem dX10_lacks_22 : decode cX10_lacks 22 = .ok (.iconst 0, 1) := by decide +kernel
theorem dX10_lacks_23 : decode cX10_lacks 23 = .ok (.istore 4, 2) := by decide +kernel
theorem dX10_lacks_25 : decode cX10_lacks 25 = .ok (.iload 4, 2) := by decide +kernel
theorem dX10_lacks_27 : decode cX10_lacks 27 = .ok (.aload_n 0, 1) := by decide +kernel
theorem dX10_lacks_28 : decode cX10_lacks 28 = .ok (.getfield 147, 3) := by decide +kernel
theorem dX10_lacks_31 : decode cX10_lacks 31 = .ok (.if_icmp .ge 42, 3) := by decide +kernel
theorem dX10_lacks_34 : decode cX10_lacks 34 = .ok (.iload_n 3, 1) := by decide +kernel
theorem dX10_lacks_35 : decode cX10_lacks 35 = .ok (.aload_n 0, 1) := by decide +kernel
theorem dX10_lacks_36 : decode cX10_lacks 36 = .ok (.iload_n 1, 1) := by decide +kernel
theorem dX10_lacks_37 : decode cX10_lacks 37 = .ok (.iload 4, 2) := by decide +kernel
theorem dX10_lacks_39 : decode cX10_lacks 39 = .ok (.iload_n 2, 1) := by decide +kernel
theorem dX10_lacks_40 : decode cX10_lacks 40 = .ok (.invokevirtual 254, 3) := by decide +kernel
theorem dX10_lacks_43 : decode cX10_lacks 43 = .ok (.ifCond .eq 21, 3) := by decide +kernel
theorem dX10_lacks_46 : decode cX10_lacks 46 = .ok (.aload_n 0, 1) := by decide +kernel
theorem dX10_lacks_47 : decode cX10_lacks 47 = .ok (.iload_n 1, 1) := by decide +kernel
theorem dX10_lacks_48 : decode cX10_lacks 48 = .ok (.iload 4, 2) := by decide +kernel
theorem dX10_lacks_50 : decode cX10_lacks 50 = .ok (.iload_n 2, 1) := by decide +kernel
theorem dX10_lacks_51 : decode cX10_lacks 51 = .ok (.invokevirtual 257, 3) := by decide +kernel
theorem dX10_lacks_54 : decode cX10_lacks 54 = .ok (.ifCond .ne 10, 3) := by decide +kernel
theorem dX10_lacks_57 : decode cX10_lacks 57 = .ok (.iconst 1, 1) := by decide +kernel
theorem dX10_lacks_58 : decode cX10_lacks 58 = .ok (.iload 4, 2) := by decide +kernel
theorem dX10_lacks_60 : decode cX10_lacks 60 = .ok (.ishl, 1) := by decide +kernel
theorem dX10_lacks_61 : decode cX10_lacks 61 = .ok (.goto 4, 3) := by decide +kernel
theorem dX10_lacks_64 : decode cX10_lacks 64 = .ok (.iconst 0, 1) := by decide +kernel
theorem dX10_lacks_65 : decode cX10_lacks 65 = .ok (.ior, 1) := by decide +kernel
theorem dX10_lacks_66 : decode cX10_lacks 66 = .ok (.istore_n 3, 1) := by decide +kernel
theorem dX10_lacks_67 : decode cX10_lacks 67 = .ok (.iinc 4 1, 3) := by decide +kernel
theorem dX10_lacks_70 : decode cX10_lacks 70 = .ok (.goto (-45), 3) := by decide +kernel
theorem dX10_lacks_73 : decode cX10_lacks 73 = .ok (.iload_n 3, 1) := by decide +kernel
theorem dX10_lacks_74 : decode cX10_lacks 74 = .ok (.ireturn, 1) := by decide +kernel
theorem dX10_ill_0 : decode cX10_ill 0 = .ok (.iload_n 1, 1) := by decide +kernel
theorem dX10_ill_1 : decode cX10_ill 1 = .ok (.invokestatic 155, 3) := by decide +kernel
theorem dX10_ill_4 : decode cX10_ill 4 = .ok (.ifCond .ne 6, 3) := by decide +kernel
theorem dX10_ill_7 : decode cX10_ill 7 = .ok (.bipush (-2), 2) := by decide +kernel
theorem dX10_ill_9 : decode cX10_ill 9 = .ok (.ireturn, 1) := by decide +kernel
theorem dX10_ill_10 : decode cX10_ill 10 = .ok (.iconst 0, 1) := by decide +kernel
theorem dX10_ill_11 : decode cX10_ill 11 = .ok (.istore_n 2, 1) := by decide +kernel
theorem dX10_ill_12 : decode cX10_ill 12 = .ok (.iload_n 2, 1) := by decide +kernel
theorem dX10_ill_13 : decode cX10_ill 13 = .ok (.bipush 60, 2) := by decide +kernel
theorem dX10_ill_15 : decode cX10_ill 15 = .ok (.if_icmp .gt 73, 3) := by decide +kernel
theorem dX10_ill_18 : decode cX10_ill 18 = .ok (.iconst 0, 1) := by decide +kernel
theorem dX10_ill_19 : decode cX10_ill 19 = .ok (.istore_n 3, 1) := by decide +kernel
theorem dX10_ill_20 : decode cX10_ill 20 = .ok (.iload_n 3, 1) := by decide +kernel
theorem dX10_ill_21 : decode cX10_ill 21 = .ok (.aload_n 0, 1) := by decide +kernel
theorem dX10_ill_22 : decode cX10_ill 22 = .ok (.getfield 147, 3) := by decide +kernel
theorem dX10_ill_25 : decode cX10_ill 25 = .ok (.if_icmp .ge 57, 3) := by decide +kernel
theorem dX10_ill_28 : decode cX10_ill 28 = .ok (.aload_n 0, 1) := by decide +kernel
theorem dX10_ill_29 : decode cX10_ill 29 = .ok (.getfield 28, 3) := by decide +kernel
theorem dX10_ill_32 : decode cX10_ill 32 = .ok (.iload_n 3, 1) := by decide +kernel
theorem dX10_ill_33 : decode cX10_ill 33 = .ok (.baload, 1) := by decide +kernel
theorem dX10_ill_34 : decode cX10_ill 34 = .ok (.ifCond .eq 42, 3) := by decide +kernel
theorem dX10_ill_37 : decode cX10_ill 37 = .ok (.iload_n 2, 1) := by decide +kernel
theorem dX10_ill_38 : decode cX10_ill 38 = .ok (.i2l, 1) := by decide +kernel
theorem dX10_ill_39 : decode cX10_ill 39 = .ok (.aload_n 0, 1) := by decide +kernel
theorem dX10_ill_40 : decode cX10_ill 40 = .ok (.getfield 19, 3) := by decide +kernel
theorem dX10_ill_43 : decode cX10_ill 43 = .ok (.iload_n 3, 1) := by decide +kernel
theorem dX10_ill_44 : decode cX10_ill 44 = .ok (.iaload, 1) := by decide +kernel
theorem dX10_ill_45 : decode cX10_ill 45 = .ok (.i2l, 1) := by decide +kernel
theorem dX10_ill_46 : decode cX10_ill 46 = .ok (.aload_n 0, 1) := by decide +kernel
theorem dX10_ill_47 : decode cX10_ill 47 = .ok (.getfield 22, 3) := by decide +kernel
theorem dX10_ill_50 : decode cX10_ill 50 = .ok (.iload_n 3, 1) := by decide +kernel
theorem dX10_ill_51 : decode cX10_ill 51 = .ok (.iaload, 1) := by decide +kernel
theorem dX10_ill_52 : decode cX10_ill 52 = .ok (.i2l, 1) := by decide +kernel
theorem dX10_ill_53 : decode cX10_ill 53 = .ok (.invokestatic 121, 3) := by decide +kernel
theorem dX10_ill_56 : decode cX10_ill 56 = .ok (.ifCond .eq 20, 3) := by decide +kernel
theorem dX10_ill_59 : decode cX10_ill 59 = .ok (.aload_n 0, 1) := by decide +kernel
theorem dX10_ill_60 : decode cX10_ill 60 = .ok (.iload_n 1, 1) := by decide +kernel
theorem dX10_ill_61 : decode cX10_ill 61 = .ok (.aload_n 0, 1) := by decide +kernel
theorem dX10_ill_62 : decode cX10_ill 62 = .ok (.getfield 13, 3) := by decide +kernel
theorem dX10_ill_65 : decode cX10_ill 65 = .ok (.iload_n 3, 1) := by decide +kernel
theorem dX10_ill_66 : decode cX10_ill 66 = .ok (.iaload, 1) := by decide +kernel
theorem dX10_ill_67 : decode cX10_ill 67 = .ok (.iload_n 2, 1) := by decide +kernel
theorem dX10_ill_68 : decode cX10_ill 68 = .ok (.invokevirtual 247, 3) := by decide +kernel
theorem dX10_ill_71 : decode cX10_ill 71 = .ok (.ifCond .eq 5, 3) := by decide +kernel
theorem dX10_ill_74 : decode cX10_ill 74 = .ok (.iload_n 2, 1) := by decide +kernel
theorem dX10_ill_75 : decode cX10_ill 75 = .ok (.ireturn, 1) := by decide +kernel
theorem dX10_ill_76 : decode cX10_ill 76 = .ok (.iinc 3 1, 3) := by decide +kernel
theorem dX10_ill_79 : decode cX10_ill 79 = .ok (.goto (-59), 3) := by decide +kernel
theorem dX10_ill_82 : decode cX10_ill 82 = .ok (.iinc 2 1, 3) := by decide +kernel
theorem dX10_ill_85 : decode cX10_ill 85 = .ok (.goto (-73), 3) := by decide +kernel
theorem dX10_ill_88 : decode cX10_ill 88 = .ok (.iconst (-1), 1) := by decide +kernel
theorem dX10_ill_89 : decode cX10_ill 89 = .ok (.ireturn, 1) := by decide +kernel
theorem dX10_isSent_0 : decode cX10_isSent 0 = .ok (.iload_n 1, 1) := by decide +kernel
theorem dX10_isSent_1 : decode cX10_isSent 1 = .ok (.aload_n 0, 1) := by decide +kernel
theorem dX10_isSent_2 : decode cX10_isSent 2 = .ok (.getfield 231, 3) := by decide +kernel
theorem dX10_isSent_5 : decode cX10_isSent 5 = .ok (.if_icmp .lt 24, 3) := by decide +kernel
theorem dX10_isSent_8 : decode cX10_isSent 8 = .ok (.iload_n 1, 1) := by decide +kernel
theorem dX10_isSent_9 : decode cX10_isSent 9 = .ok (.bipush 24, 2) := by decide +kernel
theorem dX10_isSent_11 : decode cX10_isSent 11 = .ok (.if_icmp .lt 22, 3) := by decide +kernel
theorem dX10_isSent_14 : decode cX10_isSent 14 = .ok (.aload_n 0, 1) := by decide +kernel
theorem dX10_isSent_15 : decode cX10_isSent 15 = .ok (.getfield 260, 3) := by decide +kernel
theorem dX10_isSent_18 : decode cX10_isSent 18 = .ok (.iload_n 1, 1) := by decide +kernel
theorem dX10_isSent_19 : decode cX10_isSent 19 = .ok (.bipush 24, 2) := by decide +kernel
theorem dX10_isSent_21 : decode cX10_isSent 21 = .ok (.isub, 1) := by decide +kernel
theorem dX10_isSent_22 : decode cX10_isSent 22 = .ok (.ishr, 1) := by decide +kernel
theorem dX10_isSent_23 : decode cX10_isSent 23 = .ok (.iconst 1, 1) := by decide +kernel
theorem dX10_isSent_24 : decode cX10_isSent 24 = .ok (.iand, 1) := by decide +kernel
theorem dX10_isSent_25 : decode cX10_isSent 25 = .ok (.iconst 1, 1) := by decide +kernel
theorem dX10_isSent_26 : decode cX10_isSent 26 = .ok (.if_icmp .ne 7, 3) := by decide +kernel
theorem dX10_isSent_29 : decode cX10_isSent 29 = .ok (.iconst 1, 1) := by decide +kernel
theorem dX10_isSent_30 : decode cX10_isSent 30 = .ok (.goto 4, 3) := by decide +kernel
theorem dX10_isSent_33 : decode cX10_isSent 33 = .ok (.iconst 0, 1) := by decide +kernel
theorem dX10_isSent_34 : decode cX10_isSent 34 = .ok (.ireturn, 1) := by decide +kernel
theorem dX10_eyes_0 : decode cX10_eyes 0 = .ok (.iload_n 1, 1) := by decide +kernel
theorem dX10_eyes_1 : decode cX10_eyes 1 = .ok (.invokestatic 215, 3) := by decide +kernel
theorem dX10_eyes_4 : decode cX10_eyes 4 = .ok (.ifCond .eq 10, 3) := by decide +kernel
theorem dX10_eyes_7 : decode cX10_eyes 7 = .ok (.iload_n 2, 1) := by decide +kernel
theorem dX10_eyes_8 : decode cX10_eyes 8 = .ok (.invokestatic 133, 3) := by decide +kernel
theorem dX10_eyes_11 : decode cX10_eyes 11 = .ok (.ifCond .ne 6, 3) := by decide +kernel
theorem dX10_eyes_14 : decode cX10_eyes 14 = .ok (.bipush (-2), 2) := by decide +kernel
theorem dX10_eyes_16 : decode cX10_eyes 16 = .ok (.ireturn, 1) := by decide +kernel
theorem dX10_eyes_17 : decode cX10_eyes 17 = .ok (.iload_n 3, 1) := by decide +kernel
theorem dX10_eyes_18 : decode cX10_eyes 18 = .ok (.invokestatic 142, 3) := by decide +kernel
theorem dX10_eyes_21 : decode cX10_eyes 21 = .ok (.ifCond .eq 17, 3) := by decide +kernel
theorem dX10_eyes_24 : decode cX10_eyes 24 = .ok (.iload 4, 2) := by decide +kernel
theorem dX10_eyes_26 : decode cX10_eyes 26 = .ok (.i2l, 1) := by decide +kernel
theorem dX10_eyes_27 : decode cX10_eyes 27 = .ok (.iload_n 3, 1) := by decide +kernel
theorem dX10_eyes_28 : decode cX10_eyes 28 = .ok (.i2l, 1) := by decide +kernel
theorem dX10_eyes_29 : decode cX10_eyes 29 = .ok (.ldc2_w 127, 3) := by decide +kernel
theorem dX10_eyes_32 : decode cX10_eyes 32 = .ok (.invokestatic 121, 3) := by decide +kernel
theorem dX10_eyes_35 : decode cX10_eyes 35 = .ok (.ifCond .ne 6, 3) := by decide +kernel
theorem dX10_eyes_38 : decode cX10_eyes 38 = .ok (.bipush (-3), 2) := by decide +kernel
theorem dX10_eyes_40 : decode cX10_eyes 40 = .ok (.ireturn, 1) := by decide +kernel
theorem dX10_eyes_41 : decode cX10_eyes 41 = .ok (.aload_n 0, 1) := by decide +kernel
theorem dX10_eyes_42 : decode cX10_eyes 42 = .ok (.getfield 92, 3) := by decide +kernel
theorem dX10_eyes_45 : decode cX10_eyes 45 = .ok (.iload_n 1, 1) := by decide +kernel
theorem dX10_eyes_46 : decode cX10_eyes 46 = .ok (.iaload, 1) := by decide +kernel
theorem dX10_eyes_47 : decode cX10_eyes 47 = .ok (.bipush 6, 2) := by decide +kernel
theorem dX10_eyes_49 : decode cX10_eyes 49 = .ok (.if_icmp .ne 6, 3) := by decide +kernel
theorem dX10_eyes_52 : decode cX10_eyes 52 = .ok (.bipush (-5), 2) := by decide +kernel
theorem dX10_eyes_54 : decode cX10_eyes 54 = .ok (.ireturn, 1) := by decide +kernel
theorem dX10_eyes_55 : decode cX10_eyes 55 = .ok (.bipush 6, 2) := by decide +kernel
theorem dX10_eyes_57 : decode cX10_eyes 57 = .ok (.iload_n 1, 1) := by decide +kernel
theorem dX10_eyes_58 : decode cX10_eyes 58 = .ok (.imul, 1) := by decide +kernel
theorem dX10_eyes_59 : decode cX10_eyes 59 = .ok (.aload_n 0, 1) := by decide +kernel
theorem dX10_eyes_60 : decode cX10_eyes 60 = .ok (.getfield 92, 3) := by decide +kernel
theorem dX10_eyes_63 : decode cX10_eyes 63 = .ok (.iload_n 1, 1) := by decide +kernel
theorem dX10_eyes_64 : decode cX10_eyes 64 = .ok (.iaload, 1) := by decide +kernel
theorem dX10_eyes_65 : decode cX10_eyes 65 = .ok (.iadd, 1) := by decide +kernel
theorem dX10_eyes_66 : decode cX10_eyes 66 = .ok (.istore 5, 2) := by decide +kernel
theorem dX10_eyes_68 : decode cX10_eyes 68 = .ok (.aload_n 0, 1) := by decide +kernel
theorem dX10_eyes_69 : decode cX10_eyes 69 = .ok (.getfield 83, 3) := by decide +kernel
theorem dX10_eyes_72 : decode cX10_eyes 72 = .ok (.iload 5, 2) := by decide +kernel
theorem dX10_eyes_74 : decode cX10_eyes 74 = .ok (.iload_n 2, 1) := by decide +kernel
theorem dX10_eyes_75 : decode cX10_eyes 75 = .ok (.iastore, 1) := by decide +kernel
theorem dX10_eyes_76 : decode cX10_eyes 76 = .ok (.aload_n 0, 1) := by decide +kernel
theorem dX10_eyes_77 : decode cX10_eyes 77 = .ok (.getfield 86, 3) := by decide +kernel
theorem dX10_eyes_80 : decode cX10_eyes 80 = .ok (.iload 5, 2) := by decide +kernel
theorem dX10_eyes_82 : decode cX10_eyes 82 = .ok (.iload_n 3, 1) := by decide +kernel
theorem dX10_eyes_83 : decode cX10_eyes 83 = .ok (.iastore, 1) := by decide +kernel
theorem dX10_eyes_84 : decode cX10_eyes 84 = .ok (.aload_n 0, 1) := by decide +kernel
theorem dX10_eyes_85 : decode cX10_eyes 85 = .ok (.getfield 89, 3) := by decide +kernel
theorem dX10_eyes_88 : decode cX10_eyes 88 = .ok (.iload 5, 2) := by decide +kernel
theorem dX10_eyes_90 : decode cX10_eyes 90 = .ok (.iload 4, 2) := by decide +kernel
theorem dX10_eyes_92 : decode cX10_eyes 92 = .ok (.iastore, 1) := by decide +kernel
theorem dX10_eyes_93 : decode cX10_eyes 93 = .ok (.aload_n 0, 1) := by decide +kernel
theorem dX10_eyes_94 : decode cX10_eyes 94 = .ok (.getfield 92, 3) := by decide +kernel
theorem dX10_eyes_97 : decode cX10_eyes 97 = .ok (.iload_n 1, 1) := by decide +kernel
theorem dX10_eyes_98 : decode cX10_eyes 98 = .ok (.dup2, 1) := by decide +kernel
theorem dX10_eyes_99 : decode cX10_eyes 99 = .ok (.iaload, 1) := by decide +kernel
theorem dX10_eyes_100 : decode cX10_eyes 100 = .ok (.iconst 1, 1) := by decide +kernel
theorem dX10_eyes_101 : decode cX10_eyes 101 = .ok (.iadd, 1) := by decide +kernel
theorem dX10_eyes_102 : decode cX10_eyes 102 = .ok (.iastore, 1) := by decide +kernel
theorem dX10_eyes_103 : decode cX10_eyes 103 = .ok (.aload_n 0, 1) := by decide +kernel
theorem dX10_eyes_104 : decode cX10_eyes 104 = .ok (.getfield 92, 3) := by decide +kernel
theorem dX10_eyes_107 : decode cX10_eyes 107 = .ok (.iload_n 1, 1) := by decide +kernel
theorem dX10_eyes_108 : decode cX10_eyes 108 = .ok (.iaload, 1) := by decide +kernel
theorem dX10_eyes_109 : decode cX10_eyes 109 = .ok (.ireturn, 1) := by decide +kernel
theorem dX10_told_0 : decode cX10_told 0 = .ok (.iload_n 1, 1) := by decide +kernel
theorem dX10_told_1 : decode cX10_told 1 = .ok (.invokestatic 215, 3) := by decide +kernel
theorem dX10_told_4 : decode cX10_told 4 = .ok (.ifCond .ne 6, 3) := by decide +kernel
theorem dX10_told_7 : decode cX10_told 7 = .ok (.bipush (-2), 2) := by decide +kernel
theorem dX10_told_9 : decode cX10_told 9 = .ok (.ireturn, 1) := by decide +kernel
theorem dX10_told_10 : decode cX10_told 10 = .ok (.iload_n 2, 1) := by decide +kernel
theorem dX10_told_11 : decode cX10_told 11 = .ok (.i2l, 1) := by decide +kernel
theorem dX10_told_12 : decode cX10_told 12 = .ok (.lconst 0, 1) := by decide +kernel
theorem dX10_told_13 : decode cX10_told 13 = .ok (.ldc2_w 129, 3) := by decide +kernel
theorem dX10_told_16 : decode cX10_told 16 = .ok (.invokestatic 121, 3) := by decide +kernel
theorem dX10_told_19 : decode cX10_told 19 = .ok (.ifCond .eq 17, 3) := by decide +kernel
theorem dX10_told_22 : decode cX10_told 22 = .ok (.aload_n 0, 1) := by decide +kernel
theorem dX10_told_23 : decode cX10_told 23 = .ok (.getfield 50, 3) := by decide +kernel
theorem dX10_told_26 : decode cX10_told 26 = .ok (.bipush 6, 2) := by decide +kernel
theorem dX10_told_28 : decode cX10_told 28 = .ok (.iload_n 1, 1) := by decide +kernel
theorem dX10_told_29 : decode cX10_told 29 = .ok (.imul, 1) := by decide +kernel
theorem dX10_told_30 : decode cX10_told 30 = .ok (.iload_n 2, 1) := by decide +kernel
theorem dX10_told_31 : decode cX10_told 31 = .ok (.iadd, 1) := by decide +kernel
theorem dX10_told_32 : decode cX10_told 32 = .ok (.iaload, 1) := by decide +kernel
theorem dX10_told_33 : decode cX10_told 33 = .ok (.goto 5, 3) := by decide +kernel
theorem dX10_told_36 : decode cX10_told 36 = .ok (.bipush (-3), 2) := by decide +kernel
theorem dX10_told_38 : decode cX10_told 38 = .ok (.ireturn, 1) := by decide +kernel
theorem dX10_knows_0 : decode cX10_knows 0 = .ok (.iconst 0, 1) := by decide +kernel
theorem dX10_knows_1 : decode cX10_knows 1 = .ok (.istore 5, 2) := by decide +kernel
theorem dX10_knows_3 : decode cX10_knows 3 = .ok (.bipush 6, 2) := by decide +kernel
theorem dX10_knows_5 : decode cX10_knows 5 = .ok (.iload_n 1, 1) := by decide +kernel
theorem dX10_knows_6 : decode cX10_knows 6 = .ok (.imul, 1) := by decide +kernel
theorem dX10_knows_7 : decode cX10_knows 7 = .ok (.istore 6, 2) := by decide +kernel
theorem dX10_knows_9 : decode cX10_knows 9 = .ok (.iload 6, 2) := by decide +kernel
theorem dX10_knows_11 : decode cX10_knows 11 = .ok (.bipush 6, 2) := by decide +kernel
theorem dX10_knows_13 : decode cX10_knows 13 = .ok (.iload_n 1, 1) := by decide +kernel
theorem dX10_knows_14 : decode cX10_knows 14 = .ok (.imul, 1) := by decide +kernel
theorem dX10_knows_15 : decode cX10_knows 15 = .ok (.aload_n 0, 1) := by decide +kernel
theorem dX10_knows_16 : decode cX10_knows 16 = .ok (.getfield 92, 3) := by decide +kernel
theorem dX10_knows_19 : decode cX10_knows 19 = .ok (.iload_n 1, 1) := by decide +kernel
theorem dX10_knows_20 : decode cX10_knows 20 = .ok (.iaload, 1) := by decide +kernel
theorem dX10_knows_21 : decode cX10_knows 21 = .ok (.iadd, 1) := by decide +kernel
theorem dX10_knows_22 : decode cX10_knows 22 = .ok (.if_icmp .ge 62, 3) := by decide +kernel
theorem dX10_knows_25 : decode cX10_knows 25 = .ok (.iload 5, 2) := by decide +kernel
theorem dX10_knows_27 : decode cX10_knows 27 = .ok (.ifCond .ne 44, 3) := by decide +kernel
theorem dX10_knows_30 : decode cX10_knows 30 = .ok (.aload_n 0, 1) := by decide +kernel
theorem dX10_knows_31 : decode cX10_knows 31 = .ok (.getfield 83, 3) := by decide +kernel
theorem dX10_knows_34 : decode cX10_knows 34 = .ok (.iload 6, 2) := by decide +kernel
theorem dX10_knows_36 : decode cX10_knows 36 = .ok (.iaload, 1) := by decide +kernel
theorem dX10_knows_37 : decode cX10_knows 37 = .ok (.iload_n 2, 1) := by decide +kernel
theorem dX10_knows_38 : decode cX10_knows 38 = .ok (.if_icmp .ne 37, 3) := by decide +kernel
theorem dX10_knows_41 : decode cX10_knows 41 = .ok (.iload_n 3, 1) := by decide +kernel
theorem dX10_knows_42 : decode cX10_knows 42 = .ok (.i2l, 1) := by decide +kernel
theorem dX10_knows_43 : decode cX10_knows 43 = .ok (.aload_n 0, 1) := by decide +kernel
theorem dX10_knows_44 : decode cX10_knows 44 = .ok (.getfield 86, 3) := by decide +kernel
theorem dX10_knows_47 : decode cX10_knows 47 = .ok (.iload 6, 2) := by decide +kernel
theorem dX10_knows_49 : decode cX10_knows 49 = .ok (.iaload, 1) := by decide +kernel
theorem dX10_knows_50 : decode cX10_knows 50 = .ok (.i2l, 1) := by decide +kernel
theorem dX10_knows_51 : decode cX10_knows 51 = .ok (.aload_n 0, 1) := by decide +kernel
theorem dX10_knows_52 : decode cX10_knows 52 = .ok (.getfield 89, 3) := by decide +kernel
theorem dX10_knows_55 : decode cX10_knows 55 = .ok (.iload 6, 2) := by decide +kernel
theorem dX10_knows_57 : decode cX10_knows 57 = .ok (.iaload, 1) := by decide +kernel
theorem dX10_knows_58 : decode cX10_knows 58 = .ok (.i2l, 1) := by decide +kernel
theorem dX10_knows_59 : decode cX10_knows 59 = .ok (.invokestatic 121, 3) := by decide +kernel
theorem dX10_knows_62 : decode cX10_knows 62 = .ok (.ifCond .eq 13, 3) := by decide +kernel
theorem dX10_knows_65 : decode cX10_knows 65 = .ok (.iload_n 3, 1) := by decide +kernel
theorem dX10_knows_66 : decode cX10_knows 66 = .ok (.iload 4, 2) := by decide +kernel
theorem dX10_knows_68 : decode cX10_knows 68 = .ok (.if_icmp .gt 7, 3) := by decide +kernel
theorem dX10_knows_71 : decode cX10_knows 71 = .ok (.iconst 1, 1) := by decide +kernel
theorem dX10_knows_72 : decode cX10_knows 72 = .ok (.goto 4, 3) := by decide +kernel
theorem dX10_knows_75 : decode cX10_knows 75 = .ok (.iconst 0, 1) := by decide +kernel
theorem dX10_knows_76 : decode cX10_knows 76 = .ok (.istore 5, 2) := by decide +kernel
theorem dX10_knows_78 : decode cX10_knows 78 = .ok (.iinc 6 1, 3) := by decide +kernel
theorem dX10_knows_81 : decode cX10_knows 81 = .ok (.goto (-72), 3) := by decide +kernel
theorem dX10_knows_84 : decode cX10_knows 84 = .ok (.iload 5, 2) := by decide +kernel
theorem dX10_knows_86 : decode cX10_knows 86 = .ok (.ireturn, 1) := by decide +kernel
theorem dX10_trustOf_0 : decode cX10_trustOf 0 = .ok (.aload_n 0, 1) := by decide +kernel
theorem dX10_trustOf_1 : decode cX10_trustOf 1 = .ok (.getfield 50, 3) := by decide +kernel
theorem dX10_trustOf_4 : decode cX10_trustOf 4 = .ok (.bipush 6, 2) := by decide +kernel
theorem dX10_trustOf_6 : decode cX10_trustOf 6 = .ok (.iload_n 1, 1) := by decide +kernel
theorem dX10_trustOf_7 : decode cX10_trustOf 7 = .ok (.imul, 1) := by decide +kernel
theorem dX10_trustOf_8 : decode cX10_trustOf 8 = .ok (.iconst 0, 1) := by decide +kernel
theorem dX10_trustOf_9 : decode cX10_trustOf 9 = .ok (.iadd, 1) := by decide +kernel
theorem dX10_trustOf_10 : decode cX10_trustOf 10 = .ok (.iaload, 1) := by decide +kernel
theorem dX10_trustOf_11 : decode cX10_trustOf 11 = .ok (.istore 4, 2) := by decide +kernel
theorem dX10_trustOf_13 : decode cX10_trustOf 13 = .ok (.iconst 0, 1) := by decide +kernel
theorem dX10_trustOf_14 : decode cX10_trustOf 14 = .ok (.istore 5, 2) := by decide +kernel
theorem dX10_trustOf_16 : decode cX10_trustOf 16 = .ok (.iload 5, 2) := by decide +kernel
theorem dX10_trustOf_18 : decode cX10_trustOf 18 = .ok (.bipush 24, 2) := by decide +kernel
theorem dX10_trustOf_20 : decode cX10_trustOf 20 = .ok (.aload_n 0, 1) := by decide +kernel
theorem dX10_trustOf_21 : decode cX10_trustOf 21 = .ok (.getfield 263, 3) := by decide +kernel
theorem dX10_trustOf_24 : decode cX10_trustOf 24 = .ok (.iadd, 1) := by decide +kernel
theorem dX10_trustOf_25 : decode cX10_trustOf 25 = .ok (.if_icmp .ge 155, 3) := by decide +kernel
theorem dX10_trustOf_28 : decode cX10_trustOf 28 = .ok (.aload_n 0, 1) := by decide +kernel
theorem dX10_trustOf_29 : decode cX10_trustOf 29 = .ok (.iload 5, 2) := by decide +kernel
theorem dX10_trustOf_31 : decode cX10_trustOf 31 = .ok (.invokevirtual 266, 3) := by decide +kernel
theorem dX10_trustOf_34 : decode cX10_trustOf 34 = .ok (.ifCond .eq 140, 3) := by decide +kernel
theorem dX10_trustOf_37 : decode cX10_trustOf 37 = .ok (.aload_n 0, 1) := by decide +kernel
theorem dX10_trustOf_38 : decode cX10_trustOf 38 = .ok (.getfield 56, 3) := by decide +kernel
theorem dX10_trustOf_41 : decode cX10_trustOf 41 = .ok (.iload 5, 2) := by decide +kernel
theorem dX10_trustOf_43 : decode cX10_trustOf 43 = .ok (.iaload, 1) := by decide +kernel
theorem dX10_trustOf_44 : decode cX10_trustOf 44 = .ok (.iload_n 2, 1) := by decide +kernel
theorem dX10_trustOf_45 : decode cX10_trustOf 45 = .ok (.if_icmp .ne 129, 3) := by decide +kernel
theorem dX10_trustOf_48 : decode cX10_trustOf 48 = .ok (.aload_n 0, 1) := by decide +kernel
theorem dX10_trustOf_49 : decode cX10_trustOf 49 = .ok (.iload 5, 2) := by decide +kernel
theorem dX10_trustOf_51 : decode cX10_trustOf 51 = .ok (.invokevirtual 244, 3) := by decide +kernel
theorem dX10_trustOf_54 : decode cX10_trustOf 54 = .ok (.iload_n 3, 1) := by decide +kernel
theorem dX10_trustOf_55 : decode cX10_trustOf 55 = .ok (.if_icmp .gt 119, 3) := by decide +kernel
theorem dX10_trustOf_58 : decode cX10_trustOf 58 = .ok (.aload_n 0, 1) := by decide +kernel
theorem dX10_trustOf_59 : decode cX10_trustOf 59 = .ok (.iload_n 1, 1) := by decide +kernel
theorem dX10_trustOf_60 : decode cX10_trustOf 60 = .ok (.aload_n 0, 1) := by decide +kernel
theorem dX10_trustOf_61 : decode cX10_trustOf 61 = .ok (.getfield 65, 3) := by decide +kernel
theorem dX10_trustOf_64 : decode cX10_trustOf 64 = .ok (.iload 5, 2) := by decide +kernel
theorem dX10_trustOf_66 : decode cX10_trustOf 66 = .ok (.iaload, 1) := by decide +kernel
theorem dX10_trustOf_67 : decode cX10_trustOf 67 = .ok (.aload_n 0, 1) := by decide +kernel
theorem dX10_trustOf_68 : decode cX10_trustOf 68 = .ok (.getfield 71, 3) := by decide +kernel
theorem dX10_trustOf_71 : decode cX10_trustOf 71 = .ok (.iload 5, 2) := by decide +kernel
theorem dX10_trustOf_73 : decode cX10_trustOf 73 = .ok (.iaload, 1) := by decide +kernel
theorem dX10_trustOf_74 : decode cX10_trustOf 74 = .ok (.iload_n 3, 1) := by decide +kernel
theorem dX10_trustOf_75 : decode cX10_trustOf 75 = .ok (.invokevirtual 269, 3) := by decide +kernel
end
section
theorem dX10_trustOf_78 : decode cX10_trustOf 78 = .ok (.ifCond .eq 96, 3) := by decide +kernel
theorem dX10_trustOf_81 : decode cX10_trustOf 81 = .ok (.aload_n 0, 1) := by decide +kernel
theorem dX10_trustOf_82 : decode cX10_trustOf 82 = .ok (.iload 5, 2) := by decide +kernel
theorem dX10_trustOf_84 : decode cX10_trustOf 84 = .ok (.invokevirtual 244, 3) := by decide +kernel
theorem dX10_trustOf_87 : decode cX10_trustOf 87 = .ok (.aload_n 0, 1) := by decide +kernel
theorem dX10_trustOf_88 : decode cX10_trustOf 88 = .ok (.getfield 71, 3) := by decide +kernel
theorem dX10_trustOf_91 : decode cX10_trustOf 91 = .ok (.iload 5, 2) := by decide +kernel
theorem dX10_trustOf_93 : decode cX10_trustOf 93 = .ok (.iaload, 1) := by decide +kernel
theorem dX10_trustOf_94 : decode cX10_trustOf 94 = .ok (.isub, 1) := by decide +kernel
theorem dX10_trustOf_95 : decode cX10_trustOf 95 = .ok (.istore 6, 2) := by decide +kernel
theorem dX10_trustOf_97 : decode cX10_trustOf 97 = .ok (.aload_n 0, 1) := by decide +kernel
theorem dX10_trustOf_98 : decode cX10_trustOf 98 = .ok (.getfield 50, 3) := by decide +kernel
theorem dX10_trustOf_101 : decode cX10_trustOf 101 = .ok (.bipush 6, 2) := by decide +kernel
theorem dX10_trustOf_103 : decode cX10_trustOf 103 = .ok (.iload_n 1, 1) := by decide +kernel
theorem dX10_trustOf_104 : decode cX10_trustOf 104 = .ok (.imul, 1) := by decide +kernel
theorem dX10_trustOf_105 : decode cX10_trustOf 105 = .ok (.iconst 1, 1) := by decide +kernel
theorem dX10_trustOf_106 : decode cX10_trustOf 106 = .ok (.iadd, 1) := by decide +kernel
theorem dX10_trustOf_107 : decode cX10_trustOf 107 = .ok (.iaload, 1) := by decide +kernel
theorem dX10_trustOf_108 : decode cX10_trustOf 108 = .ok (.aload_n 0, 1) := by decide +kernel
theorem dX10_trustOf_109 : decode cX10_trustOf 109 = .ok (.getfield 50, 3) := by decide +kernel
theorem dX10_trustOf_112 : decode cX10_trustOf 112 = .ok (.bipush 6, 2) := by decide +kernel
theorem dX10_trustOf_114 : decode cX10_trustOf 114 = .ok (.iload_n 1, 1) := by decide +kernel
theorem dX10_trustOf_115 : decode cX10_trustOf 115 = .ok (.imul, 1) := by decide +kernel
theorem dX10_trustOf_116 : decode cX10_trustOf 116 = .ok (.iconst 3, 1) := by decide +kernel
theorem dX10_trustOf_117 : decode cX10_trustOf 117 = .ok (.iadd, 1) := by decide +kernel
theorem dX10_trustOf_118 : decode cX10_trustOf 118 = .ok (.iaload, 1) := by decide +kernel
theorem dX10_trustOf_119 : decode cX10_trustOf 119 = .ok (.iload 6, 2) := by decide +kernel
theorem dX10_trustOf_121 : decode cX10_trustOf 121 = .ok (.ifCond .ge 7, 3) := by decide +kernel
theorem dX10_trustOf_124 : decode cX10_trustOf 124 = .ok (.iconst 0, 1) := by decide +kernel
theorem dX10_trustOf_125 : decode cX10_trustOf 125 = .ok (.goto 5, 3) := by decide +kernel
theorem dX10_trustOf_128 : decode cX10_trustOf 128 = .ok (.iload 6, 2) := by decide +kernel
theorem dX10_trustOf_130 : decode cX10_trustOf 130 = .ok (.imul, 1) := by decide +kernel
theorem dX10_trustOf_131 : decode cX10_trustOf 131 = .ok (.isub, 1) := by decide +kernel
theorem dX10_trustOf_132 : decode cX10_trustOf 132 = .ok (.istore 7, 2) := by decide +kernel
theorem dX10_trustOf_134 : decode cX10_trustOf 134 = .ok (.iload 4, 2) := by decide +kernel
theorem dX10_trustOf_136 : decode cX10_trustOf 136 = .ok (.aload_n 0, 1) := by decide +kernel
theorem dX10_trustOf_137 : decode cX10_trustOf 137 = .ok (.iload 5, 2) := by decide +kernel
theorem dX10_trustOf_139 : decode cX10_trustOf 139 = .ok (.invokevirtual 241, 3) := by decide +kernel
theorem dX10_trustOf_142 : decode cX10_trustOf 142 = .ok (.ifCond .ne 18, 3) := by decide +kernel
theorem dX10_trustOf_145 : decode cX10_trustOf 145 = .ok (.aload_n 0, 1) := by decide +kernel
theorem dX10_trustOf_146 : decode cX10_trustOf 146 = .ok (.getfield 50, 3) := by decide +kernel
theorem dX10_trustOf_149 : decode cX10_trustOf 149 = .ok (.bipush 6, 2) := by decide +kernel
theorem dX10_trustOf_151 : decode cX10_trustOf 151 = .ok (.iload_n 1, 1) := by decide +kernel
theorem dX10_trustOf_152 : decode cX10_trustOf 152 = .ok (.imul, 1) := by decide +kernel
theorem dX10_trustOf_153 : decode cX10_trustOf 153 = .ok (.iconst 2, 1) := by decide +kernel
theorem dX10_trustOf_154 : decode cX10_trustOf 154 = .ok (.iadd, 1) := by decide +kernel
theorem dX10_trustOf_155 : decode cX10_trustOf 155 = .ok (.iaload, 1) := by decide +kernel
theorem dX10_trustOf_156 : decode cX10_trustOf 156 = .ok (.ineg, 1) := by decide +kernel
theorem dX10_trustOf_157 : decode cX10_trustOf 157 = .ok (.goto 14, 3) := by decide +kernel
theorem dX10_trustOf_160 : decode cX10_trustOf 160 = .ok (.iload 7, 2) := by decide +kernel
theorem dX10_trustOf_162 : decode cX10_trustOf 162 = .ok (.ifCond .ge 7, 3) := by decide +kernel
theorem dX10_trustOf_165 : decode cX10_trustOf 165 = .ok (.iconst 0, 1) := by decide +kernel
theorem dX10_trustOf_166 : decode cX10_trustOf 166 = .ok (.goto 5, 3) := by decide +kernel
theorem dX10_trustOf_169 : decode cX10_trustOf 169 = .ok (.iload 7, 2) := by decide +kernel
theorem dX10_trustOf_171 : decode cX10_trustOf 171 = .ok (.iadd, 1) := by decide +kernel
theorem dX10_trustOf_172 : decode cX10_trustOf 172 = .ok (.istore 4, 2) := by decide +kernel
theorem dX10_trustOf_174 : decode cX10_trustOf 174 = .ok (.iinc 5 1, 3) := by decide +kernel
theorem dX10_trustOf_177 : decode cX10_trustOf 177 = .ok (.goto (-161), 3) := by decide +kernel
theorem dX10_trustOf_180 : decode cX10_trustOf 180 = .ok (.iload 4, 2) := by decide +kernel
theorem dX10_trustOf_182 : decode cX10_trustOf 182 = .ok (.ifCond .ge 7, 3) := by decide +kernel
theorem dX10_trustOf_185 : decode cX10_trustOf 185 = .ok (.iconst 0, 1) := by decide +kernel
theorem dX10_trustOf_186 : decode cX10_trustOf 186 = .ok (.goto 17, 3) := by decide +kernel
theorem dX10_trustOf_189 : decode cX10_trustOf 189 = .ok (.iload 4, 2) := by decide +kernel
theorem dX10_trustOf_191 : decode cX10_trustOf 191 = .ok (.bipush 100, 2) := by decide +kernel
theorem dX10_trustOf_193 : decode cX10_trustOf 193 = .ok (.if_icmp .le 8, 3) := by decide +kernel
theorem dX10_trustOf_196 : decode cX10_trustOf 196 = .ok (.bipush 100, 2) := by decide +kernel
theorem dX10_trustOf_198 : decode cX10_trustOf 198 = .ok (.goto 5, 3) := by decide +kernel
theorem dX10_trustOf_201 : decode cX10_trustOf 201 = .ok (.iload 4, 2) := by decide +kernel
theorem dX10_trustOf_203 : decode cX10_trustOf 203 = .ok (.ireturn, 1) := by decide +kernel
theorem dX10_trust_0 : decode cX10_trust 0 = .ok (.iload_n 1, 1) := by decide +kernel
theorem dX10_trust_1 : decode cX10_trust 1 = .ok (.invokestatic 215, 3) := by decide +kernel
theorem dX10_trust_4 : decode cX10_trust 4 = .ok (.ifCond .eq 10, 3) := by decide +kernel
theorem dX10_trust_7 : decode cX10_trust 7 = .ok (.iload_n 2, 1) := by decide +kernel
theorem dX10_trust_8 : decode cX10_trust 8 = .ok (.invokestatic 155, 3) := by decide +kernel
theorem dX10_trust_11 : decode cX10_trust 11 = .ok (.ifCond .ne 6, 3) := by decide +kernel
theorem dX10_trust_14 : decode cX10_trust 14 = .ok (.bipush (-2), 2) := by decide +kernel
theorem dX10_trust_16 : decode cX10_trust 16 = .ok (.ireturn, 1) := by decide +kernel
theorem dX10_trust_17 : decode cX10_trust 17 = .ok (.iload_n 3, 1) := by decide +kernel
theorem dX10_trust_18 : decode cX10_trust 18 = .ok (.invokestatic 142, 3) := by decide +kernel
theorem dX10_trust_21 : decode cX10_trust 21 = .ok (.ifCond .eq 13, 3) := by decide +kernel
theorem dX10_trust_24 : decode cX10_trust 24 = .ok (.aload_n 0, 1) := by decide +kernel
theorem dX10_trust_25 : decode cX10_trust 25 = .ok (.iload_n 1, 1) := by decide +kernel
theorem dX10_trust_26 : decode cX10_trust 26 = .ok (.iload_n 2, 1) := by decide +kernel
theorem dX10_trust_27 : decode cX10_trust 27 = .ok (.iload_n 3, 1) := by decide +kernel
theorem dX10_trust_28 : decode cX10_trust 28 = .ok (.invokevirtual 273, 3) := by decide +kernel
theorem dX10_trust_31 : decode cX10_trust 31 = .ok (.goto 5, 3) := by decide +kernel
theorem dX10_trust_34 : decode cX10_trust 34 = .ok (.bipush (-3), 2) := by decide +kernel
theorem dX10_trust_36 : decode cX10_trust 36 = .ok (.ireturn, 1) := by decide +kernel
theorem dX10_tellers_0 : decode cX10_tellers 0 = .ok (.iconst 0, 1) := by decide +kernel
theorem dX10_tellers_1 : decode cX10_tellers 1 = .ok (.istore 6, 2) := by decide +kernel
theorem dX10_tellers_3 : decode cX10_tellers 3 = .ok (.iconst 0, 1) := by decide +kernel
theorem dX10_tellers_4 : decode cX10_tellers 4 = .ok (.istore 7, 2) := by decide +kernel
theorem dX10_tellers_6 : decode cX10_tellers 6 = .ok (.iload 7, 2) := by decide +kernel
theorem dX10_tellers_8 : decode cX10_tellers 8 = .ok (.bipush 24, 2) := by decide +kernel
theorem dX10_tellers_10 : decode cX10_tellers 10 = .ok (.aload_n 0, 1) := by decide +kernel
theorem dX10_tellers_11 : decode cX10_tellers 11 = .ok (.getfield 263, 3) := by decide +kernel
theorem dX10_tellers_14 : decode cX10_tellers 14 = .ok (.iadd, 1) := by decide +kernel
theorem dX10_tellers_15 : decode cX10_tellers 15 = .ok (.if_icmp .ge 104, 3) := by decide +kernel
theorem dX10_tellers_18 : decode cX10_tellers 18 = .ok (.aload_n 0, 1) := by decide +kernel
theorem dX10_tellers_19 : decode cX10_tellers 19 = .ok (.iload 7, 2) := by decide +kernel
theorem dX10_tellers_21 : decode cX10_tellers 21 = .ok (.invokevirtual 266, 3) := by decide +kernel
theorem dX10_tellers_24 : decode cX10_tellers 24 = .ok (.ifCond .eq 63, 3) := by decide +kernel
theorem dX10_tellers_27 : decode cX10_tellers 27 = .ok (.aload_n 0, 1) := by decide +kernel
theorem dX10_tellers_28 : decode cX10_tellers 28 = .ok (.iload 7, 2) := by decide +kernel
theorem dX10_tellers_30 : decode cX10_tellers 30 = .ok (.invokevirtual 244, 3) := by decide +kernel
theorem dX10_tellers_33 : decode cX10_tellers 33 = .ok (.iload 5, 2) := by decide +kernel
theorem dX10_tellers_35 : decode cX10_tellers 35 = .ok (.if_icmp .gt 52, 3) := by decide +kernel
theorem dX10_tellers_38 : decode cX10_tellers 38 = .ok (.aload_n 0, 1) := by decide +kernel
theorem dX10_tellers_39 : decode cX10_tellers 39 = .ok (.getfield 65, 3) := by decide +kernel
theorem dX10_tellers_42 : decode cX10_tellers 42 = .ok (.iload 7, 2) := by decide +kernel
theorem dX10_tellers_44 : decode cX10_tellers 44 = .ok (.iaload, 1) := by decide +kernel
theorem dX10_tellers_45 : decode cX10_tellers 45 = .ok (.iload_n 1, 1) := by decide +kernel
theorem dX10_tellers_46 : decode cX10_tellers 46 = .ok (.if_icmp .ne 41, 3) := by decide +kernel
theorem dX10_tellers_49 : decode cX10_tellers 49 = .ok (.aload_n 0, 1) := by decide +kernel
theorem dX10_tellers_50 : decode cX10_tellers 50 = .ok (.getfield 68, 3) := by decide +kernel
theorem dX10_tellers_53 : decode cX10_tellers 53 = .ok (.iload 7, 2) := by decide +kernel
theorem dX10_tellers_55 : decode cX10_tellers 55 = .ok (.iaload, 1) := by decide +kernel
theorem dX10_tellers_56 : decode cX10_tellers 56 = .ok (.iload_n 2, 1) := by decide +kernel
theorem dX10_tellers_57 : decode cX10_tellers 57 = .ok (.if_icmp .ne 30, 3) := by decide +kernel
theorem dX10_tellers_60 : decode cX10_tellers 60 = .ok (.aload_n 0, 1) := by decide +kernel
theorem dX10_tellers_61 : decode cX10_tellers 61 = .ok (.getfield 71, 3) := by decide +kernel
theorem dX10_tellers_64 : decode cX10_tellers 64 = .ok (.iload 7, 2) := by decide +kernel
theorem dX10_tellers_66 : decode cX10_tellers 66 = .ok (.iaload, 1) := by decide +kernel
theorem dX10_tellers_67 : decode cX10_tellers 67 = .ok (.iload_n 3, 1) := by decide +kernel
theorem dX10_tellers_68 : decode cX10_tellers 68 = .ok (.if_icmp .ne 19, 3) := by decide +kernel
theorem dX10_tellers_71 : decode cX10_tellers 71 = .ok (.aload_n 0, 1) := by decide +kernel
theorem dX10_tellers_72 : decode cX10_tellers 72 = .ok (.getfield 74, 3) := by decide +kernel
theorem dX10_tellers_75 : decode cX10_tellers 75 = .ok (.iload 7, 2) := by decide +kernel
theorem dX10_tellers_77 : decode cX10_tellers 77 = .ok (.iaload, 1) := by decide +kernel
theorem dX10_tellers_78 : decode cX10_tellers 78 = .ok (.iload 4, 2) := by decide +kernel
theorem dX10_tellers_80 : decode cX10_tellers 80 = .ok (.if_icmp .ne 7, 3) := by decide +kernel
theorem dX10_tellers_83 : decode cX10_tellers 83 = .ok (.iconst 1, 1) := by decide +kernel
theorem dX10_tellers_84 : decode cX10_tellers 84 = .ok (.goto 4, 3) := by decide +kernel
theorem dX10_tellers_87 : decode cX10_tellers 87 = .ok (.iconst 0, 1) := by decide +kernel
theorem dX10_tellers_88 : decode cX10_tellers 88 = .ok (.istore 8, 2) := by decide +kernel
theorem dX10_tellers_90 : decode cX10_tellers 90 = .ok (.iload 6, 2) := by decide +kernel
theorem dX10_tellers_92 : decode cX10_tellers 92 = .ok (.iload 8, 2) := by decide +kernel
theorem dX10_tellers_94 : decode cX10_tellers 94 = .ok (.ifCond .eq 15, 3) := by decide +kernel
theorem dX10_tellers_97 : decode cX10_tellers 97 = .ok (.iconst 1, 1) := by decide +kernel
theorem dX10_tellers_98 : decode cX10_tellers 98 = .ok (.aload_n 0, 1) := by decide +kernel
theorem dX10_tellers_99 : decode cX10_tellers 99 = .ok (.getfield 56, 3) := by decide +kernel
theorem dX10_tellers_102 : decode cX10_tellers 102 = .ok (.iload 7, 2) := by decide +kernel
theorem dX10_tellers_104 : decode cX10_tellers 104 = .ok (.iaload, 1) := by decide +kernel
theorem dX10_tellers_105 : decode cX10_tellers 105 = .ok (.ishl, 1) := by decide +kernel
theorem dX10_tellers_106 : decode cX10_tellers 106 = .ok (.goto 4, 3) := by decide +kernel
theorem dX10_tellers_109 : decode cX10_tellers 109 = .ok (.iconst 0, 1) := by decide +kernel
theorem dX10_tellers_110 : decode cX10_tellers 110 = .ok (.ior, 1) := by decide +kernel
theorem dX10_tellers_111 : decode cX10_tellers 111 = .ok (.istore 6, 2) := by decide +kernel
theorem dX10_tellers_113 : decode cX10_tellers 113 = .ok (.iinc 7 1, 3) := by decide +kernel
theorem dX10_tellers_116 : decode cX10_tellers 116 = .ok (.goto (-110), 3) := by decide +kernel
theorem dX10_tellers_119 : decode cX10_tellers 119 = .ok (.iload 6, 2) := by decide +kernel
theorem dX10_tellers_121 : decode cX10_tellers 121 = .ok (.ireturn, 1) := by decide +kernel
theorem dX10_weightOf_0 : decode cX10_weightOf 0 = .ok (.iconst 0, 1) := by decide +kernel
theorem dX10_weightOf_1 : decode cX10_weightOf 1 = .ok (.istore 4, 2) := by decide +kernel
theorem dX10_weightOf_3 : decode cX10_weightOf 3 = .ok (.iconst 0, 1) := by decide +kernel
theorem dX10_weightOf_4 : decode cX10_weightOf 4 = .ok (.istore 5, 2) := by decide +kernel
theorem dX10_weightOf_6 : decode cX10_weightOf 6 = .ok (.iconst 0, 1) := by decide +kernel
theorem dX10_weightOf_7 : decode cX10_weightOf 7 = .ok (.istore 6, 2) := by decide +kernel
theorem dX10_weightOf_9 : decode cX10_weightOf 9 = .ok (.iload 6, 2) := by decide +kernel
theorem dX10_weightOf_11 : decode cX10_weightOf 11 = .ok (.bipush 6, 2) := by decide +kernel
theorem dX10_weightOf_13 : decode cX10_weightOf 13 = .ok (.if_icmp .ge 56, 3) := by decide +kernel
theorem dX10_weightOf_16 : decode cX10_weightOf 16 = .ok (.iload_n 2, 1) := by decide +kernel
theorem dX10_weightOf_17 : decode cX10_weightOf 17 = .ok (.iload 6, 2) := by decide +kernel
theorem dX10_weightOf_19 : decode cX10_weightOf 19 = .ok (.ishr, 1) := by decide +kernel
theorem dX10_weightOf_20 : decode cX10_weightOf 20 = .ok (.iconst 1, 1) := by decide +kernel
theorem dX10_weightOf_21 : decode cX10_weightOf 21 = .ok (.iand, 1) := by decide +kernel
theorem dX10_weightOf_22 : decode cX10_weightOf 22 = .ok (.iconst 1, 1) := by decide +kernel
theorem dX10_weightOf_23 : decode cX10_weightOf 23 = .ok (.if_icmp .ne 40, 3) := by decide +kernel
theorem dX10_weightOf_26 : decode cX10_weightOf 26 = .ok (.iload 4, 2) := by decide +kernel
theorem dX10_weightOf_28 : decode cX10_weightOf 28 = .ok (.aload_n 0, 1) := by decide +kernel
theorem dX10_weightOf_29 : decode cX10_weightOf 29 = .ok (.iload_n 1, 1) := by decide +kernel
theorem dX10_weightOf_30 : decode cX10_weightOf 30 = .ok (.iload 6, 2) := by decide +kernel
theorem dX10_weightOf_32 : decode cX10_weightOf 32 = .ok (.iload_n 3, 1) := by decide +kernel
theorem dX10_weightOf_33 : decode cX10_weightOf 33 = .ok (.invokevirtual 273, 3) := by decide +kernel
theorem dX10_weightOf_36 : decode cX10_weightOf 36 = .ok (.iload 5, 2) := by decide +kernel
theorem dX10_weightOf_38 : decode cX10_weightOf 38 = .ok (.ifCond .le 17, 3) := by decide +kernel
theorem dX10_weightOf_41 : decode cX10_weightOf 41 = .ok (.aload_n 0, 1) := by decide +kernel
theorem dX10_weightOf_42 : decode cX10_weightOf 42 = .ok (.getfield 50, 3) := by decide +kernel
theorem dX10_weightOf_45 : decode cX10_weightOf 45 = .ok (.bipush 6, 2) := by decide +kernel
theorem dX10_weightOf_47 : decode cX10_weightOf 47 = .ok (.iload_n 1, 1) := by decide +kernel
theorem dX10_weightOf_48 : decode cX10_weightOf 48 = .ok (.imul, 1) := by decide +kernel
theorem dX10_weightOf_49 : decode cX10_weightOf 49 = .ok (.iconst 4, 1) := by decide +kernel
theorem dX10_weightOf_50 : decode cX10_weightOf 50 = .ok (.iadd, 1) := by decide +kernel
theorem dX10_weightOf_51 : decode cX10_weightOf 51 = .ok (.iaload, 1) := by decide +kernel
theorem dX10_weightOf_52 : decode cX10_weightOf 52 = .ok (.goto 4, 3) := by decide +kernel
theorem dX10_weightOf_55 : decode cX10_weightOf 55 = .ok (.iconst 0, 1) := by decide +kernel
theorem dX10_weightOf_56 : decode cX10_weightOf 56 = .ok (.iadd, 1) := by decide +kernel
theorem dX10_weightOf_57 : decode cX10_weightOf 57 = .ok (.iadd, 1) := by decide +kernel
theorem dX10_weightOf_58 : decode cX10_weightOf 58 = .ok (.istore 4, 2) := by decide +kernel
theorem dX10_weightOf_60 : decode cX10_weightOf 60 = .ok (.iinc 5 1, 3) := by decide +kernel
theorem dX10_weightOf_63 : decode cX10_weightOf 63 = .ok (.iinc 6 1, 3) := by decide +kernel
theorem dX10_weightOf_66 : decode cX10_weightOf 66 = .ok (.goto (-57), 3) := by decide +kernel
theorem dX10_weightOf_69 : decode cX10_weightOf 69 = .ok (.iload 4, 2) := by decide +kernel
theorem dX10_weightOf_71 : decode cX10_weightOf 71 = .ok (.ireturn, 1) := by decide +kernel
theorem dX10_concludes_0 : decode cX10_concludes 0 = .ok (.aload_n 0, 1) := by decide +kernel
theorem dX10_concludes_1 : decode cX10_concludes 1 = .ok (.iload_n 1, 1) := by decide +kernel
theorem dX10_concludes_2 : decode cX10_concludes 2 = .ok (.iload_n 2, 1) := by decide +kernel
theorem dX10_concludes_3 : decode cX10_concludes 3 = .ok (.iload 4, 2) := by decide +kernel
theorem dX10_concludes_5 : decode cX10_concludes 5 = .ok (.iload 5, 2) := by decide +kernel
theorem dX10_concludes_7 : decode cX10_concludes 7 = .ok (.invokevirtual 269, 3) := by decide +kernel
theorem dX10_concludes_10 : decode cX10_concludes 10 = .ok (.ifCond .eq 12, 3) := by decide +kernel
theorem dX10_concludes_13 : decode cX10_concludes 13 = .ok (.aload_n 0, 1) := by decide +kernel
theorem dX10_concludes_14 : decode cX10_concludes 14 = .ok (.iload_n 2, 1) := by decide +kernel
theorem dX10_concludes_15 : decode cX10_concludes 15 = .ok (.iload_n 3, 1) := by decide +kernel
theorem dX10_concludes_16 : decode cX10_concludes 16 = .ok (.iload 4, 2) := by decide +kernel
theorem dX10_concludes_18 : decode cX10_concludes 18 = .ok (.invokevirtual 151, 3) := by decide +kernel
theorem dX10_concludes_21 : decode cX10_concludes 21 = .ok (.ireturn, 1) := by decide +kernel
theorem dX10_concludes_22 : decode cX10_concludes 22 = .ok (.iconst (-1), 1) := by decide +kernel
theorem dX10_concludes_23 : decode cX10_concludes 23 = .ok (.istore 6, 2) := by decide +kernel
theorem dX10_concludes_25 : decode cX10_concludes 25 = .ok (.iconst (-1), 1) := by decide +kernel
theorem dX10_concludes_26 : decode cX10_concludes 26 = .ok (.istore 7, 2) := by decide +kernel
theorem dX10_concludes_28 : decode cX10_concludes 28 = .ok (.iconst 0, 1) := by decide +kernel
theorem dX10_concludes_29 : decode cX10_concludes 29 = .ok (.istore 8, 2) := by decide +kernel
theorem dX10_concludes_31 : decode cX10_concludes 31 = .ok (.iload 8, 2) := by decide +kernel
theorem dX10_concludes_33 : decode cX10_concludes 33 = .ok (.bipush 10, 2) := by decide +kernel
theorem dX10_concludes_35 : decode cX10_concludes 35 = .ok (.if_icmp .ge 75, 3) := by decide +kernel
theorem dX10_concludes_38 : decode cX10_concludes 38 = .ok (.aload_n 0, 1) := by decide +kernel
theorem dX10_concludes_39 : decode cX10_concludes 39 = .ok (.iload_n 2, 1) := by decide +kernel
theorem dX10_concludes_40 : decode cX10_concludes 40 = .ok (.iload_n 3, 1) := by decide +kernel
theorem dX10_concludes_41 : decode cX10_concludes 41 = .ok (.iload 4, 2) := by decide +kernel
theorem dX10_concludes_43 : decode cX10_concludes 43 = .ok (.iload 8, 2) := by decide +kernel
theorem dX10_concludes_45 : decode cX10_concludes 45 = .ok (.iload 5, 2) := by decide +kernel
theorem dX10_concludes_47 : decode cX10_concludes 47 = .ok (.invokevirtual 276, 3) := by decide +kernel
theorem dX10_concludes_50 : decode cX10_concludes 50 = .ok (.istore 9, 2) := by decide +kernel
theorem dX10_concludes_52 : decode cX10_concludes 52 = .ok (.iload 9, 2) := by decide +kernel
theorem dX10_concludes_54 : decode cX10_concludes 54 = .ok (.ifCond .ne 7, 3) := by decide +kernel
theorem dX10_concludes_57 : decode cX10_concludes 57 = .ok (.iconst (-1), 1) := by decide +kernel
theorem dX10_concludes_58 : decode cX10_concludes 58 = .ok (.goto 12, 3) := by decide +kernel
theorem dX10_concludes_61 : decode cX10_concludes 61 = .ok (.aload_n 0, 1) := by decide +kernel
theorem dX10_concludes_62 : decode cX10_concludes 62 = .ok (.iload_n 1, 1) := by decide +kernel
theorem dX10_concludes_63 : decode cX10_concludes 63 = .ok (.iload 9, 2) := by decide +kernel
theorem dX10_concludes_65 : decode cX10_concludes 65 = .ok (.iload 5, 2) := by decide +kernel
theorem dX10_concludes_67 : decode cX10_concludes 67 = .ok (.invokevirtual 280, 3) := by decide +kernel
theorem dX10_concludes_70 : decode cX10_concludes 70 = .ok (.istore 10, 2) := by decide +kernel
theorem dX10_concludes_72 : decode cX10_concludes 72 = .ok (.iload 10, 2) := by decide +kernel
theorem dX10_concludes_74 : decode cX10_concludes 74 = .ok (.iload 7, 2) := by decide +kernel
theorem dX10_concludes_76 : decode cX10_concludes 76 = .ok (.if_icmp .le 8, 3) := by decide +kernel
theorem dX10_concludes_79 : decode cX10_concludes 79 = .ok (.iload 8, 2) := by decide +kernel
theorem dX10_concludes_81 : decode cX10_concludes 81 = .ok (.goto 5, 3) := by decide +kernel
theorem dX10_concludes_84 : decode cX10_concludes 84 = .ok (.iload 6, 2) := by decide +kernel
theorem dX10_concludes_86 : decode cX10_concludes 86 = .ok (.istore 6, 2) := by decide +kernel
theorem dX10_concludes_88 : decode cX10_concludes 88 = .ok (.iload 10, 2) := by decide +kernel
theorem dX10_concludes_90 : decode cX10_concludes 90 = .ok (.iload 7, 2) := by decide +kernel
theorem dX10_concludes_92 : decode cX10_concludes 92 = .ok (.if_icmp .le 8, 3) := by decide +kernel
theorem dX10_concludes_95 : decode cX10_concludes 95 = .ok (.iload 10, 2) := by decide +kernel
theorem dX10_concludes_97 : decode cX10_concludes 97 = .ok (.goto 5, 3) := by decide +kernel
theorem dX10_concludes_100 : decode cX10_concludes 100 = .ok (.iload 7, 2) := by decide +kernel
theorem dX10_concludes_102 : decode cX10_concludes 102 = .ok (.istore 7, 2) := by decide +kernel
theorem dX10_concludes_104 : decode cX10_concludes 104 = .ok (.iinc 8 1, 3) := by decide +kernel
theorem dX10_concludes_107 : decode cX10_concludes 107 = .ok (.goto (-76), 3) := by decide +kernel
theorem dX10_concludes_110 : decode cX10_concludes 110 = .ok (.iload 6, 2) := by decide +kernel
theorem dX10_concludes_112 : decode cX10_concludes 112 = .ok (.iconst (-1), 1) := by decide +kernel
theorem dX10_concludes_113 : decode cX10_concludes 113 = .ok (.if_icmp .eq 24, 3) := by decide +kernel
theorem dX10_concludes_116 : decode cX10_concludes 116 = .ok (.iload 7, 2) := by decide +kernel
theorem dX10_concludes_118 : decode cX10_concludes 118 = .ok (.aload_n 0, 1) := by decide +kernel
theorem dX10_concludes_119 : decode cX10_concludes 119 = .ok (.getfield 50, 3) := by decide +kernel
theorem dX10_concludes_122 : decode cX10_concludes 122 = .ok (.bipush 6, 2) := by decide +kernel
theorem dX10_concludes_124 : decode cX10_concludes 124 = .ok (.iload_n 1, 1) := by decide +kernel
theorem dX10_concludes_125 : decode cX10_concludes 125 = .ok (.imul, 1) := by decide +kernel
theorem dX10_concludes_126 : decode cX10_concludes 126 = .ok (.iconst 5, 1) := by decide +kernel
theorem dX10_concludes_127 : decode cX10_concludes 127 = .ok (.iadd, 1) := by decide +kernel
theorem dX10_concludes_128 : decode cX10_concludes 128 = .ok (.iaload, 1) := by decide +kernel
theorem dX10_concludes_129 : decode cX10_concludes 129 = .ok (.if_icmp .lt 8, 3) := by decide +kernel
theorem dX10_concludes_132 : decode cX10_concludes 132 = .ok (.iload 6, 2) := by decide +kernel
theorem dX10_concludes_134 : decode cX10_concludes 134 = .ok (.goto 4, 3) := by decide +kernel
theorem dX10_concludes_137 : decode cX10_concludes 137 = .ok (.iconst (-1), 1) := by decide +kernel
theorem dX10_concludes_138 : decode cX10_concludes 138 = .ok (.ireturn, 1) := by decide +kernel
theorem dX10_concluded_0 : decode cX10_concluded 0 = .ok (.iload_n 1, 1) := by decide +kernel
theorem dX10_concluded_1 : decode cX10_concluded 1 = .ok (.invokestatic 215, 3) := by decide +kernel
theorem dX10_concluded_4 : decode cX10_concluded 4 = .ok (.ifCond .eq 17, 3) := by decide +kernel
theorem dX10_concluded_7 : decode cX10_concluded 7 = .ok (.iload_n 2, 1) := by decide +kernel
theorem dX10_concluded_8 : decode cX10_concluded 8 = .ok (.invokestatic 133, 3) := by decide +kernel
theorem dX10_concluded_11 : decode cX10_concluded 11 = .ok (.ifCond .eq 10, 3) := by decide +kernel
theorem dX10_concluded_14 : decode cX10_concluded 14 = .ok (.iload_n 3, 1) := by decide +kernel
theorem dX10_concluded_15 : decode cX10_concluded 15 = .ok (.invokestatic 139, 3) := by decide +kernel
theorem dX10_concluded_18 : decode cX10_concluded 18 = .ok (.ifCond .ne 6, 3) := by decide +kernel
theorem dX10_concluded_21 : decode cX10_concluded 21 = .ok (.bipush (-2), 2) := by decide +kernel
theorem dX10_concluded_23 : decode cX10_concluded 23 = .ok (.ireturn, 1) := by decide +kernel
theorem dX10_concluded_24 : decode cX10_concluded 24 = .ok (.iload 4, 2) := by decide +kernel
theorem dX10_concluded_26 : decode cX10_concluded 26 = .ok (.invokestatic 142, 3) := by decide +kernel
theorem dX10_concluded_29 : decode cX10_concluded 29 = .ok (.ifCond .eq 25, 3) := by decide +kernel
theorem dX10_concluded_32 : decode cX10_concluded 32 = .ok (.iload 5, 2) := by decide +kernel
theorem dX10_concluded_34 : decode cX10_concluded 34 = .ok (.invokestatic 142, 3) := by decide +kernel
theorem dX10_concluded_37 : decode cX10_concluded 37 = .ok (.ifCond .eq 17, 3) := by decide +kernel
theorem dX10_concluded_40 : decode cX10_concluded 40 = .ok (.aload_n 0, 1) := by decide +kernel
theorem dX10_concluded_41 : decode cX10_concluded 41 = .ok (.iload_n 1, 1) := by decide +kernel
theorem dX10_concluded_42 : decode cX10_concluded 42 = .ok (.iload_n 2, 1) := by decide +kernel
theorem dX10_concluded_43 : decode cX10_concluded 43 = .ok (.iload_n 3, 1) := by decide +kernel
theorem dX10_concluded_44 : decode cX10_concluded 44 = .ok (.iload 4, 2) := by decide +kernel
theorem dX10_concluded_46 : decode cX10_concluded 46 = .ok (.iload 5, 2) := by decide +kernel
theorem dX10_concluded_48 : decode cX10_concluded 48 = .ok (.invokevirtual 283, 3) := by decide +kernel
theorem dX10_concluded_51 : decode cX10_concluded 51 = .ok (.goto 5, 3) := by decide +kernel
theorem dX10_concluded_54 : decode cX10_concluded 54 = .ok (.bipush (-3), 2) := by decide +kernel
theorem dX10_concluded_56 : decode cX10_concluded 56 = .ok (.ireturn, 1) := by decide +kernel
theorem dX10_weight_0 : decode cX10_weight 0 = .ok (.iload_n 1, 1) := by decide +kernel
theorem dX10_weight_1 : decode cX10_weight 1 = .ok (.invokestatic 215, 3) := by decide +kernel
theorem dX10_weight_4 : decode cX10_weight 4 = .ok (.ifCond .eq 17, 3) := by decide +kernel
theorem dX10_weight_7 : decode cX10_weight 7 = .ok (.iload_n 2, 1) := by decide +kernel
theorem dX10_weight_8 : decode cX10_weight 8 = .ok (.invokestatic 133, 3) := by decide +kernel
theorem dX10_weight_11 : decode cX10_weight 11 = .ok (.ifCond .eq 10, 3) := by decide +kernel
theorem dX10_weight_14 : decode cX10_weight 14 = .ok (.iload_n 3, 1) := by decide +kernel
theorem dX10_weight_15 : decode cX10_weight 15 = .ok (.invokestatic 139, 3) := by decide +kernel
theorem dX10_weight_18 : decode cX10_weight 18 = .ok (.ifCond .ne 6, 3) := by decide +kernel
theorem dX10_weight_21 : decode cX10_weight 21 = .ok (.bipush (-2), 2) := by decide +kernel
theorem dX10_weight_23 : decode cX10_weight 23 = .ok (.ireturn, 1) := by decide +kernel
theorem dX10_weight_24 : decode cX10_weight 24 = .ok (.iload 4, 2) := by decide +kernel
theorem dX10_weight_26 : decode cX10_weight 26 = .ok (.invokestatic 142, 3) := by decide +kernel
theorem dX10_weight_29 : decode cX10_weight 29 = .ok (.ifCond .eq 46, 3) := by decide +kernel
theorem dX10_weight_32 : decode cX10_weight 32 = .ok (.iload 5, 2) := by decide +kernel
theorem dX10_weight_34 : decode cX10_weight 34 = .ok (.i2l, 1) := by decide +kernel
theorem dX10_weight_35 : decode cX10_weight 35 = .ok (.lconst 0, 1) := by decide +kernel
theorem dX10_weight_36 : decode cX10_weight 36 = .ok (.ldc2_w 145, 3) := by decide +kernel
theorem dX10_weight_39 : decode cX10_weight 39 = .ok (.invokestatic 121, 3) := by decide +kernel
theorem dX10_weight_42 : decode cX10_weight 42 = .ok (.ifCond .eq 33, 3) := by decide +kernel
theorem dX10_weight_45 : decode cX10_weight 45 = .ok (.iload 6, 2) := by decide +kernel
theorem dX10_weight_47 : decode cX10_weight 47 = .ok (.invokestatic 142, 3) := by decide +kernel
theorem dX10_weight_50 : decode cX10_weight 50 = .ok (.ifCond .eq 25, 3) := by decide +kernel
theorem dX10_weight_53 : decode cX10_weight 53 = .ok (.aload_n 0, 1) := by decide +kernel
theorem dX10_weight_54 : decode cX10_weight 54 = .ok (.iload_n 1, 1) := by decide +kernel
theorem dX10_weight_55 : decode cX10_weight 55 = .ok (.aload_n 0, 1) := by decide +kernel
theorem dX10_weight_56 : decode cX10_weight 56 = .ok (.iload_n 2, 1) := by decide +kernel
theorem dX10_weight_57 : decode cX10_weight 57 = .ok (.iload_n 3, 1) := by decide +kernel
theorem dX10_weight_58 : decode cX10_weight 58 = .ok (.iload 4, 2) := by decide +kernel
theorem dX10_weight_60 : decode cX10_weight 60 = .ok (.iload 5, 2) := by decide +kernel
theorem dX10_weight_62 : decode cX10_weight 62 = .ok (.iload 6, 2) := by decide +kernel
theorem dX10_weight_64 : decode cX10_weight 64 = .ok (.invokevirtual 276, 3) := by decide +kernel
theorem dX10_weight_67 : decode cX10_weight 67 = .ok (.iload 6, 2) := by decide +kernel
theorem dX10_weight_69 : decode cX10_weight 69 = .ok (.invokevirtual 280, 3) := by decide +kernel
theorem dX10_weight_72 : decode cX10_weight 72 = .ok (.goto 5, 3) := by decide +kernel
theorem dX10_weight_75 : decode cX10_weight 75 = .ok (.bipush (-3), 2) := by decide +kernel
theorem dX10_weight_77 : decode cX10_weight 77 = .ok (.ireturn, 1) := by decide +kernel
theorem dX10_story_0 : decode cX10_story 0 = .ok (.iload_n 1, 1) := by decide +kernel
theorem dX10_story_1 : decode cX10_story 1 = .ok (.invokestatic 133, 3) := by decide +kernel
theorem dX10_story_4 : decode cX10_story 4 = .ok (.ifCond .eq 10, 3) := by decide +kernel
theorem dX10_story_7 : decode cX10_story 7 = .ok (.iload_n 2, 1) := by decide +kernel
theorem dX10_story_8 : decode cX10_story 8 = .ok (.invokestatic 139, 3) := by decide +kernel
theorem dX10_story_11 : decode cX10_story 11 = .ok (.ifCond .ne 6, 3) := by decide +kernel
theorem dX10_story_14 : decode cX10_story 14 = .ok (.bipush (-2), 2) := by decide +kernel
theorem dX10_story_16 : decode cX10_story 16 = .ok (.ireturn, 1) := by decide +kernel
theorem dX10_story_17 : decode cX10_story 17 = .ok (.iload_n 3, 1) := by decide +kernel
theorem dX10_story_18 : decode cX10_story 18 = .ok (.invokestatic 142, 3) := by decide +kernel
theorem dX10_story_21 : decode cX10_story 21 = .ok (.ifCond .eq 16, 3) := by decide +kernel
theorem dX10_story_24 : decode cX10_story 24 = .ok (.iload 4, 2) := by decide +kernel
theorem dX10_story_26 : decode cX10_story 26 = .ok (.i2l, 1) := by decide +kernel
theorem dX10_story_27 : decode cX10_story 27 = .ok (.lconst 0, 1) := by decide +kernel
theorem dX10_story_28 : decode cX10_story 28 = .ok (.ldc2_w 145, 3) := by decide +kernel
theorem dX10_story_31 : decode cX10_story 31 = .ok (.invokestatic 121, 3) := by decide +kernel
theorem dX10_story_34 : decode cX10_story 34 = .ok (.ifCond .ne 6, 3) := by decide +kernel
theorem dX10_story_37 : decode cX10_story 37 = .ok (.bipush (-3), 2) := by decide +kernel
theorem dX10_story_39 : decode cX10_story 39 = .ok (.ireturn, 1) := by decide +kernel
theorem dX10_story_40 : decode cX10_story 40 = .ok (.aload_n 0, 1) := by decide +kernel
theorem dX10_story_41 : decode cX10_story 41 = .ok (.getfield 286, 3) := by decide +kernel
theorem dX10_story_44 : decode cX10_story 44 = .ok (.iconst 4, 1) := by decide +kernel
theorem dX10_story_45 : decode cX10_story 45 = .ok (.if_icmp .ne 6, 3) := by decide +kernel
theorem dX10_story_48 : decode cX10_story 48 = .ok (.bipush (-5), 2) := by decide +kernel
theorem dX10_story_50 : decode cX10_story 50 = .ok (.ireturn, 1) := by decide +kernel
theorem dX10_story_51 : decode cX10_story 51 = .ok (.aload_n 0, 1) := by decide +kernel
theorem dX10_story_52 : decode cX10_story 52 = .ok (.getfield 95, 3) := by decide +kernel
theorem dX10_story_55 : decode cX10_story 55 = .ok (.aload_n 0, 1) := by decide +kernel
theorem dX10_story_56 : decode cX10_story 56 = .ok (.getfield 286, 3) := by decide +kernel
theorem dX10_story_59 : decode cX10_story 59 = .ok (.iload_n 1, 1) := by decide +kernel
theorem dX10_story_60 : decode cX10_story 60 = .ok (.iastore, 1) := by decide +kernel
theorem dX10_story_61 : decode cX10_story 61 = .ok (.aload_n 0, 1) := by decide +kernel
theorem dX10_story_62 : decode cX10_story 62 = .ok (.getfield 98, 3) := by decide +kernel
theorem dX10_story_65 : decode cX10_story 65 = .ok (.aload_n 0, 1) := by decide +kernel
theorem dX10_story_66 : decode cX10_story 66 = .ok (.getfield 286, 3) := by decide +kernel
theorem dX10_story_69 : decode cX10_story 69 = .ok (.iload_n 2, 1) := by decide +kernel
theorem dX10_story_70 : decode cX10_story 70 = .ok (.iastore, 1) := by decide +kernel
theorem dX10_story_71 : decode cX10_story 71 = .ok (.aload_n 0, 1) := by decide +kernel
theorem dX10_story_72 : decode cX10_story 72 = .ok (.getfield 101, 3) := by decide +kernel
theorem dX10_story_75 : decode cX10_story 75 = .ok (.aload_n 0, 1) := by decide +kernel
theorem dX10_story_76 : decode cX10_story 76 = .ok (.getfield 286, 3) := by decide +kernel
theorem dX10_story_79 : decode cX10_story 79 = .ok (.iload_n 3, 1) := by decide +kernel
theorem dX10_story_80 : decode cX10_story 80 = .ok (.iastore, 1) := by decide +kernel
theorem dX10_story_81 : decode cX10_story 81 = .ok (.aload_n 0, 1) := by decide +kernel
theorem dX10_story_82 : decode cX10_story 82 = .ok (.getfield 104, 3) := by decide +kernel
theorem dX10_story_85 : decode cX10_story 85 = .ok (.aload_n 0, 1) := by decide +kernel
theorem dX10_story_86 : decode cX10_story 86 = .ok (.getfield 286, 3) := by decide +kernel
theorem dX10_story_89 : decode cX10_story 89 = .ok (.iload 4, 2) := by decide +kernel
theorem dX10_story_91 : decode cX10_story 91 = .ok (.iastore, 1) := by decide +kernel
theorem dX10_story_92 : decode cX10_story 92 = .ok (.aload_n 0, 1) := by decide +kernel
theorem dX10_story_93 : decode cX10_story 93 = .ok (.dup, 1) := by decide +kernel
theorem dX10_story_94 : decode cX10_story 94 = .ok (.getfield 286, 3) := by decide +kernel
theorem dX10_story_97 : decode cX10_story 97 = .ok (.iconst 1, 1) := by decide +kernel
theorem dX10_story_98 : decode cX10_story 98 = .ok (.iadd, 1) := by decide +kernel
theorem dX10_story_99 : decode cX10_story 99 = .ok (.putfield 286, 3) := by decide +kernel
theorem dX10_story_102 : decode cX10_story 102 = .ok (.aload_n 0, 1) := by decide +kernel
theorem dX10_story_103 : decode cX10_story 103 = .ok (.getfield 286, 3) := by decide +kernel
theorem dX10_story_106 : decode cX10_story 106 = .ok (.ireturn, 1) := by decide +kernel
theorem dX10_heldOn_0 : decode cX10_heldOn 0 = .ok (.iconst 0, 1) := by decide +kernel
theorem dX10_heldOn_1 : decode cX10_heldOn 1 = .ok (.istore_n 3, 1) := by decide +kernel
theorem dX10_heldOn_2 : decode cX10_heldOn 2 = .ok (.iconst 0, 1) := by decide +kernel
theorem dX10_heldOn_3 : decode cX10_heldOn 3 = .ok (.istore 4, 2) := by decide +kernel
theorem dX10_heldOn_5 : decode cX10_heldOn 5 = .ok (.iload 4, 2) := by decide +kernel
theorem dX10_heldOn_7 : decode cX10_heldOn 7 = .ok (.aload_n 0, 1) := by decide +kernel
theorem dX10_heldOn_8 : decode cX10_heldOn 8 = .ok (.getfield 286, 3) := by decide +kernel
theorem dX10_heldOn_11 : decode cX10_heldOn 11 = .ok (.if_icmp .ge 57, 3) := by decide +kernel
theorem dX10_heldOn_14 : decode cX10_heldOn 14 = .ok (.iload_n 3, 1) := by decide +kernel
theorem dX10_heldOn_15 : decode cX10_heldOn 15 = .ok (.aload_n 0, 1) := by decide +kernel
theorem dX10_heldOn_16 : decode cX10_heldOn 16 = .ok (.iload_n 1, 1) := by decide +kernel
theorem dX10_heldOn_17 : decode cX10_heldOn 17 = .ok (.aload_n 0, 1) := by decide +kernel
theorem dX10_heldOn_18 : decode cX10_heldOn 18 = .ok (.getfield 95, 3) := by decide +kernel
theorem dX10_heldOn_21 : decode cX10_heldOn 21 = .ok (.iload 4, 2) := by decide +kernel
theorem dX10_heldOn_23 : decode cX10_heldOn 23 = .ok (.iaload, 1) := by decide +kernel
theorem dX10_heldOn_24 : decode cX10_heldOn 24 = .ok (.aload_n 0, 1) := by decide +kernel
theorem dX10_heldOn_25 : decode cX10_heldOn 25 = .ok (.getfield 98, 3) := by decide +kernel
theorem dX10_heldOn_28 : decode cX10_heldOn 28 = .ok (.iload 4, 2) := by decide +kernel
theorem dX10_heldOn_30 : decode cX10_heldOn 30 = .ok (.iaload, 1) := by decide +kernel
theorem dX10_heldOn_31 : decode cX10_heldOn 31 = .ok (.aload_n 0, 1) := by decide +kernel
theorem dX10_heldOn_32 : decode cX10_heldOn 32 = .ok (.getfield 101, 3) := by decide +kernel
theorem dX10_heldOn_35 : decode cX10_heldOn 35 = .ok (.iload 4, 2) := by decide +kernel
theorem dX10_heldOn_37 : decode cX10_heldOn 37 = .ok (.iaload, 1) := by decide +kernel
theorem dX10_heldOn_38 : decode cX10_heldOn 38 = .ok (.iload_n 2, 1) := by decide +kernel
theorem dX10_heldOn_39 : decode cX10_heldOn 39 = .ok (.invokevirtual 283, 3) := by decide +kernel
theorem dX10_heldOn_42 : decode cX10_heldOn 42 = .ok (.aload_n 0, 1) := by decide +kernel
theorem dX10_heldOn_43 : decode cX10_heldOn 43 = .ok (.getfield 104, 3) := by decide +kernel
theorem dX10_heldOn_46 : decode cX10_heldOn 46 = .ok (.iload 4, 2) := by decide +kernel
theorem dX10_heldOn_48 : decode cX10_heldOn 48 = .ok (.iaload, 1) := by decide +kernel
theorem dX10_heldOn_49 : decode cX10_heldOn 49 = .ok (.if_icmp .ne 10, 3) := by decide +kernel
theorem dX10_heldOn_52 : decode cX10_heldOn 52 = .ok (.iconst 1, 1) := by decide +kernel
theorem dX10_heldOn_53 : decode cX10_heldOn 53 = .ok (.iload 4, 2) := by decide +kernel
theorem dX10_heldOn_55 : decode cX10_heldOn 55 = .ok (.ishl, 1) := by decide +kernel
theorem dX10_heldOn_56 : decode cX10_heldOn 56 = .ok (.goto 4, 3) := by decide +kernel
theorem dX10_heldOn_59 : decode cX10_heldOn 59 = .ok (.iconst 0, 1) := by decide +kernel
theorem dX10_heldOn_60 : decode cX10_heldOn 60 = .ok (.ior, 1) := by decide +kernel
theorem dX10_heldOn_61 : decode cX10_heldOn 61 = .ok (.istore_n 3, 1) := by decide +kernel
theorem dX10_heldOn_62 : decode cX10_heldOn 62 = .ok (.iinc 4 1, 3) := by decide +kernel
theorem dX10_heldOn_65 : decode cX10_heldOn 65 = .ok (.goto (-60), 3) := by decide +kernel
theorem dX10_heldOn_68 : decode cX10_heldOn 68 = .ok (.iload_n 3, 1) := by decide +kernel
theorem dX10_heldOn_69 : decode cX10_heldOn 69 = .ok (.ireturn, 1) := by decide +kernel
theorem dX10_isHeld_0 : decode cX10_isHeld 0 = .ok (.aload_n 0, 1) := by decide +kernel
theorem dX10_isHeld_1 : decode cX10_isHeld 1 = .ok (.iload_n 1, 1) := by decide +kernel
theorem dX10_isHeld_2 : decode cX10_isHeld 2 = .ok (.iload_n 2, 1) := by decide +kernel
theorem dX10_isHeld_3 : decode cX10_isHeld 3 = .ok (.invokevirtual 289, 3) := by decide +kernel
theorem dX10_isHeld_6 : decode cX10_isHeld 6 = .ok (.iconst 1, 1) := by decide +kernel
theorem dX10_isHeld_7 : decode cX10_isHeld 7 = .ok (.aload_n 0, 1) := by decide +kernel
theorem dX10_isHeld_8 : decode cX10_isHeld 8 = .ok (.getfield 286, 3) := by decide +kernel
theorem dX10_isHeld_11 : decode cX10_isHeld 11 = .ok (.ishl, 1) := by decide +kernel
theorem dX10_isHeld_12 : decode cX10_isHeld 12 = .ok (.iconst 1, 1) := by decide +kernel
theorem dX10_isHeld_13 : decode cX10_isHeld 13 = .ok (.isub, 1) := by decide +kernel
theorem dX10_isHeld_14 : decode cX10_isHeld 14 = .ok (.if_icmp .ne 7, 3) := by decide +kernel
theorem dX10_isHeld_17 : decode cX10_isHeld 17 = .ok (.iconst 1, 1) := by decide +kernel
theorem dX10_isHeld_18 : decode cX10_isHeld 18 = .ok (.goto 4, 3) := by decide +kernel
theorem dX10_isHeld_21 : decode cX10_isHeld 21 = .ok (.iconst 0, 1) := by decide +kernel
theorem dX10_isHeld_22 : decode cX10_isHeld 22 = .ok (.ireturn, 1) := by decide +kernel
theorem dX10_holds_0 : decode cX10_holds 0 = .ok (.iload_n 1, 1) := by decide +kernel
theorem dX10_holds_1 : decode cX10_holds 1 = .ok (.invokestatic 215, 3) := by decide +kernel
theorem dX10_holds_4 : decode cX10_holds 4 = .ok (.ifCond .ne 6, 3) := by decide +kernel
theorem dX10_holds_7 : decode cX10_holds 7 = .ok (.bipush (-2), 2) := by decide +kernel
theorem dX10_holds_9 : decode cX10_holds 9 = .ok (.ireturn, 1) := by decide +kernel
theorem dX10_holds_10 : decode cX10_holds 10 = .ok (.iload_n 2, 1) := by decide +kernel
theorem dX10_holds_11 : decode cX10_holds 11 = .ok (.invokestatic 142, 3) := by decide +kernel
theorem dX10_holds_14 : decode cX10_holds 14 = .ok (.ifCond .eq 12, 3) := by decide +kernel
theorem dX10_holds_17 : decode cX10_holds 17 = .ok (.aload_n 0, 1) := by decide +kernel
theorem dX10_holds_18 : decode cX10_holds 18 = .ok (.iload_n 1, 1) := by decide +kernel
theorem dX10_holds_19 : decode cX10_holds 19 = .ok (.iload_n 2, 1) := by decide +kernel
theorem dX10_holds_20 : decode cX10_holds 20 = .ok (.invokevirtual 289, 3) := by decide +kernel
theorem dX10_holds_23 : decode cX10_holds 23 = .ok (.goto 5, 3) := by decide +kernel
theorem dX10_holds_26 : decode cX10_holds 26 = .ok (.bipush (-3), 2) := by decide +kernel
theorem dX10_holds_28 : decode cX10_holds 28 = .ok (.ireturn, 1) := by decide +kernel
theorem dX10_keeps_0 : decode cX10_keeps 0 = .ok (.iload_n 1, 1) := by decide +kernel
theorem dX10_keeps_1 : decode cX10_keeps 1 = .ok (.invokestatic 215, 3) := by decide +kernel
theorem dX10_keeps_4 : decode cX10_keeps 4 = .ok (.ifCond .ne 6, 3) := by decide +kernel
theorem dX10_keeps_7 : decode cX10_keeps 7 = .ok (.bipush (-2), 2) := by decide +kernel
theorem dX10_keeps_9 : decode cX10_keeps 9 = .ok (.ireturn, 1) := by decide +kernel
theorem dX10_keeps_10 : decode cX10_keeps 10 = .ok (.iload_n 2, 1) := by decide +kernel
theorem dX10_keeps_11 : decode cX10_keeps 11 = .ok (.invokestatic 142, 3) := by decide +kernel
theorem dX10_keeps_14 : decode cX10_keeps 14 = .ok (.ifCond .ne 6, 3) := by decide +kernel
theorem dX10_keeps_17 : decode cX10_keeps 17 = .ok (.bipush (-3), 2) := by decide +kernel
theorem dX10_keeps_19 : decode cX10_keeps 19 = .ok (.ireturn, 1) := by decide +kernel
theorem dX10_keeps_20 : decode cX10_keeps 20 = .ok (.iconst 0, 1) := by decide +kernel
theorem dX10_keeps_21 : decode cX10_keeps 21 = .ok (.istore_n 3, 1) := by decide +kernel
theorem dX10_keeps_22 : decode cX10_keeps 22 = .ok (.iload_n 2, 1) := by decide +kernel
theorem dX10_keeps_23 : decode cX10_keeps 23 = .ok (.iload_n 3, 1) := by decide +kernel
theorem dX10_keeps_24 : decode cX10_keeps 24 = .ok (.iadd, 1) := by decide +kernel
theorem dX10_keeps_25 : decode cX10_keeps 25 = .ok (.bipush 60, 2) := by decide +kernel
theorem dX10_keeps_27 : decode cX10_keeps 27 = .ok (.if_icmp .gt 20, 3) := by decide +kernel
theorem dX10_keeps_30 : decode cX10_keeps 30 = .ok (.aload_n 0, 1) := by decide +kernel
theorem dX10_keeps_31 : decode cX10_keeps 31 = .ok (.iload_n 1, 1) := by decide +kernel
theorem dX10_keeps_32 : decode cX10_keeps 32 = .ok (.iload_n 2, 1) := by decide +kernel
theorem dX10_keeps_33 : decode cX10_keeps 33 = .ok (.iload_n 3, 1) := by decide +kernel
theorem dX10_keeps_34 : decode cX10_keeps 34 = .ok (.iadd, 1) := by decide +kernel
theorem dX10_keeps_35 : decode cX10_keeps 35 = .ok (.invokevirtual 292, 3) := by decide +kernel
theorem dX10_keeps_38 : decode cX10_keeps 38 = .ok (.ifCond .eq 9, 3) := by decide +kernel
theorem dX10_keeps_41 : decode cX10_keeps 41 = .ok (.iinc 3 1, 3) := by decide +kernel
theorem dX10_keeps_44 : decode cX10_keeps 44 = .ok (.goto (-22), 3) := by decide +kernel
theorem dX10_keeps_47 : decode cX10_keeps 47 = .ok (.iload_n 3, 1) := by decide +kernel
theorem dX10_keeps_48 : decode cX10_keeps 48 = .ok (.ireturn, 1) := by decide +kernel
theorem dX10_draft_0 : decode cX10_draft 0 = .ok (.aload_n 0, 1) := by decide +kernel
theorem dX10_draft_1 : decode cX10_draft 1 = .ok (.iload_n 1, 1) := by decide +kernel
theorem dX10_draft_2 : decode cX10_draft 2 = .ok (.iload_n 2, 1) := by decide +kernel
theorem dX10_draft_3 : decode cX10_draft 3 = .ok (.iload_n 3, 1) := by decide +kernel
theorem dX10_draft_4 : decode cX10_draft 4 = .ok (.iload 4, 2) := by decide +kernel
theorem dX10_draft_6 : decode cX10_draft 6 = .ok (.iload 5, 2) := by decide +kernel
theorem dX10_draft_8 : decode cX10_draft 8 = .ok (.iload 6, 2) := by decide +kernel
theorem dX10_draft_10 : decode cX10_draft 10 = .ok (.iload 7, 2) := by decide +kernel
theorem dX10_draft_12 : decode cX10_draft 12 = .ok (.invokevirtual 227, 3) := by decide +kernel
theorem dX10_draft_15 : decode cX10_draft 15 = .ok (.istore 8, 2) := by decide +kernel
theorem dX10_draft_17 : decode cX10_draft 17 = .ok (.iload 8, 2) := by decide +kernel
theorem dX10_draft_19 : decode cX10_draft 19 = .ok (.ifCond .ne 12, 3) := by decide +kernel
theorem dX10_draft_22 : decode cX10_draft 22 = .ok (.aload_n 0, 1) := by decide +kernel
theorem dX10_draft_23 : decode cX10_draft 23 = .ok (.getfield 263, 3) := by decide +kernel
theorem dX10_draft_26 : decode cX10_draft 26 = .ok (.bipush 10, 2) := by decide +kernel
theorem dX10_draft_28 : decode cX10_draft 28 = .ok (.if_icmp .ne 16, 3) := by decide +kernel
theorem dX10_draft_31 : decode cX10_draft 31 = .ok (.iload 8, 2) := by decide +kernel
theorem dX10_draft_33 : decode cX10_draft 33 = .ok (.ifCond .eq 8, 3) := by decide +kernel
theorem dX10_draft_36 : decode cX10_draft 36 = .ok (.iload 8, 2) := by decide +kernel
theorem dX10_draft_38 : decode cX10_draft 38 = .ok (.goto 5, 3) := by decide +kernel
theorem dX10_draft_41 : decode cX10_draft 41 = .ok (.bipush (-5), 2) := by decide +kernel
theorem dX10_draft_43 : decode cX10_draft 43 = .ok (.ireturn, 1) := by decide +kernel
theorem dX10_draft_44 : decode cX10_draft 44 = .ok (.aload_n 0, 1) := by decide +kernel
theorem dX10_draft_45 : decode cX10_draft 45 = .ok (.bipush 24, 2) := by decide +kernel
theorem dX10_draft_47 : decode cX10_draft 47 = .ok (.aload_n 0, 1) := by decide +kernel
theorem dX10_draft_48 : decode cX10_draft 48 = .ok (.getfield 263, 3) := by decide +kernel
theorem dX10_draft_51 : decode cX10_draft 51 = .ok (.iadd, 1) := by decide +kernel
theorem dX10_draft_52 : decode cX10_draft 52 = .ok (.iload_n 1, 1) := by decide +kernel
theorem dX10_draft_53 : decode cX10_draft 53 = .ok (.iload_n 2, 1) := by decide +kernel
theorem dX10_draft_54 : decode cX10_draft 54 = .ok (.iload_n 3, 1) := by decide +kernel
theorem dX10_draft_55 : decode cX10_draft 55 = .ok (.iload 4, 2) := by decide +kernel
theorem dX10_draft_57 : decode cX10_draft 57 = .ok (.iload 5, 2) := by decide +kernel
theorem dX10_draft_59 : decode cX10_draft 59 = .ok (.iload 6, 2) := by decide +kernel
theorem dX10_draft_61 : decode cX10_draft 61 = .ok (.iload 7, 2) := by decide +kernel
theorem dX10_draft_63 : decode cX10_draft 63 = .ok (.invokevirtual 234, 3) := by decide +kernel
theorem dX10_draft_66 : decode cX10_draft 66 = .ok (.aload_n 0, 1) := by decide +kernel
theorem dX10_draft_67 : decode cX10_draft 67 = .ok (.dup, 1) := by decide +kernel
theorem dX10_draft_68 : decode cX10_draft 68 = .ok (.getfield 263, 3) := by decide +kernel
theorem dX10_draft_71 : decode cX10_draft 71 = .ok (.iconst 1, 1) := by decide +kernel
theorem dX10_draft_72 : decode cX10_draft 72 = .ok (.iadd, 1) := by decide +kernel
theorem dX10_draft_73 : decode cX10_draft 73 = .ok (.putfield 263, 3) := by decide +kernel
theorem dX10_draft_76 : decode cX10_draft 76 = .ok (.aload_n 0, 1) := by decide +kernel
theorem dX10_draft_77 : decode cX10_draft 77 = .ok (.getfield 263, 3) := by decide +kernel
theorem dX10_draft_80 : decode cX10_draft 80 = .ok (.iconst 1, 1) := by decide +kernel
theorem dX10_draft_81 : decode cX10_draft 81 = .ok (.isub, 1) := by decide +kernel
theorem dX10_draft_82 : decode cX10_draft 82 = .ok (.ireturn, 1) := by decide +kernel
theorem dX10_mark_0 : decode cX10_mark 0 = .ok (.iload_n 1, 1) := by decide +kernel
theorem dX10_mark_1 : decode cX10_mark 1 = .ok (.i2l, 1) := by decide +kernel
theorem dX10_mark_2 : decode cX10_mark 2 = .ok (.lconst 0, 1) := by decide +kernel
theorem dX10_mark_3 : decode cX10_mark 3 = .ok (.aload_n 0, 1) := by decide +kernel
theorem dX10_mark_4 : decode cX10_mark 4 = .ok (.getfield 263, 3) := by decide +kernel
theorem dX10_mark_7 : decode cX10_mark 7 = .ok (.iconst 1, 1) := by decide +kernel
theorem dX10_mark_8 : decode cX10_mark 8 = .ok (.isub, 1) := by decide +kernel
theorem dX10_mark_9 : decode cX10_mark 9 = .ok (.i2l, 1) := by decide +kernel
theorem dX10_mark_10 : decode cX10_mark 10 = .ok (.invokestatic 121, 3) := by decide +kernel
theorem dX10_mark_13 : decode cX10_mark 13 = .ok (.ifCond .ne 6, 3) := by decide +kernel
theorem dX10_mark_16 : decode cX10_mark 16 = .ok (.bipush (-2), 2) := by decide +kernel
theorem dX10_mark_18 : decode cX10_mark 18 = .ok (.ireturn, 1) := by decide +kernel
theorem dX10_mark_19 : decode cX10_mark 19 = .ok (.iload_n 2, 1) := by decide +kernel
theorem dX10_mark_20 : decode cX10_mark 20 = .ok (.i2l, 1) := by decide +kernel
theorem dX10_mark_21 : decode cX10_mark 21 = .ok (.lconst 0, 1) := by decide +kernel
theorem dX10_mark_22 : decode cX10_mark 22 = .ok (.lconst 1, 1) := by decide +kernel
theorem dX10_mark_23 : decode cX10_mark 23 = .ok (.invokestatic 121, 3) := by decide +kernel
theorem dX10_mark_26 : decode cX10_mark 26 = .ok (.ifCond .eq 15, 3) := by decide +kernel
theorem dX10_mark_29 : decode cX10_mark 29 = .ok (.iload_n 3, 1) := by decide +kernel
theorem dX10_mark_30 : decode cX10_mark 30 = .ok (.i2l, 1) := by decide +kernel
theorem dX10_mark_31 : decode cX10_mark 31 = .ok (.lconst 0, 1) := by decide +kernel
theorem dX10_mark_32 : decode cX10_mark 32 = .ok (.ldc2_w 295, 3) := by decide +kernel
theorem dX10_mark_35 : decode cX10_mark 35 = .ok (.invokestatic 121, 3) := by decide +kernel
theorem dX10_mark_38 : decode cX10_mark 38 = .ok (.ifCond .ne 6, 3) := by decide +kernel
theorem dX10_mark_41 : decode cX10_mark 41 = .ok (.bipush (-3), 2) := by decide +kernel
theorem dX10_mark_43 : decode cX10_mark 43 = .ok (.ireturn, 1) := by decide +kernel
theorem dX10_mark_44 : decode cX10_mark 44 = .ok (.iload_n 2, 1) := by decide +kernel
theorem dX10_mark_45 : decode cX10_mark 45 = .ok (.ifCond .ne 12, 3) := by decide +kernel
theorem dX10_mark_48 : decode cX10_mark 48 = .ok (.aload_n 0, 1) := by decide +kernel
theorem dX10_mark_49 : decode cX10_mark 49 = .ok (.getfield 77, 3) := by decide +kernel
theorem dX10_mark_52 : decode cX10_mark 52 = .ok (.iload_n 1, 1) := by decide +kernel
theorem dX10_mark_53 : decode cX10_mark 53 = .ok (.iaload, 1) := by decide +kernel
theorem dX10_mark_54 : decode cX10_mark 54 = .ok (.goto 9, 3) := by decide +kernel
theorem dX10_mark_57 : decode cX10_mark 57 = .ok (.aload_n 0, 1) := by decide +kernel
theorem dX10_mark_58 : decode cX10_mark 58 = .ok (.getfield 80, 3) := by decide +kernel
theorem dX10_mark_61 : decode cX10_mark 61 = .ok (.iload_n 1, 1) := by decide +kernel
theorem dX10_mark_62 : decode cX10_mark 62 = .ok (.iaload, 1) := by decide +kernel
theorem dX10_mark_63 : decode cX10_mark 63 = .ok (.istore 4, 2) := by decide +kernel
theorem dX10_mark_65 : decode cX10_mark 65 = .ok (.aload_n 0, 1) := by decide +kernel
theorem dX10_mark_66 : decode cX10_mark 66 = .ok (.getfield 77, 3) := by decide +kernel
theorem dX10_mark_69 : decode cX10_mark 69 = .ok (.iload_n 1, 1) := by decide +kernel
theorem dX10_mark_70 : decode cX10_mark 70 = .ok (.iload_n 2, 1) := by decide +kernel
theorem dX10_mark_71 : decode cX10_mark 71 = .ok (.ifCond .ne 7, 3) := by decide +kernel
theorem dX10_mark_74 : decode cX10_mark 74 = .ok (.iload_n 3, 1) := by decide +kernel
theorem dX10_mark_75 : decode cX10_mark 75 = .ok (.goto 9, 3) := by decide +kernel
theorem dX10_mark_78 : decode cX10_mark 78 = .ok (.aload_n 0, 1) := by decide +kernel
theorem dX10_mark_79 : decode cX10_mark 79 = .ok (.getfield 77, 3) := by decide +kernel
theorem dX10_mark_82 : decode cX10_mark 82 = .ok (.iload_n 1, 1) := by decide +kernel
theorem dX10_mark_83 : decode cX10_mark 83 = .ok (.iaload, 1) := by decide +kernel
theorem dX10_mark_84 : decode cX10_mark 84 = .ok (.iastore, 1) := by decide +kernel
theorem dX10_mark_85 : decode cX10_mark 85 = .ok (.aload_n 0, 1) := by decide +kernel
theorem dX10_mark_86 : decode cX10_mark 86 = .ok (.getfield 80, 3) := by decide +kernel
theorem dX10_mark_89 : decode cX10_mark 89 = .ok (.iload_n 1, 1) := by decide +kernel
theorem dX10_mark_90 : decode cX10_mark 90 = .ok (.iload_n 2, 1) := by decide +kernel
theorem dX10_mark_91 : decode cX10_mark 91 = .ok (.iconst 1, 1) := by decide +kernel
theorem dX10_mark_92 : decode cX10_mark 92 = .ok (.if_icmp .ne 7, 3) := by decide +kernel
theorem dX10_mark_95 : decode cX10_mark 95 = .ok (.iload_n 3, 1) := by decide +kernel
theorem dX10_mark_96 : decode cX10_mark 96 = .ok (.goto 9, 3) := by decide +kernel
theorem dX10_mark_99 : decode cX10_mark 99 = .ok (.aload_n 0, 1) := by decide +kernel
theorem dX10_mark_100 : decode cX10_mark 100 = .ok (.getfield 80, 3) := by decide +kernel
theorem dX10_mark_103 : decode cX10_mark 103 = .ok (.iload_n 1, 1) := by decide +kernel
theorem dX10_mark_104 : decode cX10_mark 104 = .ok (.iaload, 1) := by decide +kernel
theorem dX10_mark_105 : decode cX10_mark 105 = .ok (.iastore, 1) := by decide +kernel
theorem dX10_mark_106 : decode cX10_mark 106 = .ok (.iload 4, 2) := by decide +kernel
theorem dX10_mark_108 : decode cX10_mark 108 = .ok (.ireturn, 1) := by decide +kernel
theorem dX10_riskOf_0 : decode cX10_riskOf 0 = .ok (.iconst 0, 1) := by decide +kernel
theorem dX10_riskOf_1 : decode cX10_riskOf 1 = .ok (.istore_n 2, 1) := by decide +kernel
theorem dX10_riskOf_2 : decode cX10_riskOf 2 = .ok (.iconst 0, 1) := by decide +kernel
theorem dX10_riskOf_3 : decode cX10_riskOf 3 = .ok (.istore_n 3, 1) := by decide +kernel
theorem dX10_riskOf_4 : decode cX10_riskOf 4 = .ok (.iload_n 3, 1) := by decide +kernel
theorem dX10_riskOf_5 : decode cX10_riskOf 5 = .ok (.aload_n 0, 1) := by decide +kernel
theorem dX10_riskOf_6 : decode cX10_riskOf 6 = .ok (.getfield 263, 3) := by decide +kernel
theorem dX10_riskOf_9 : decode cX10_riskOf 9 = .ok (.if_icmp .ge 31, 3) := by decide +kernel
theorem dX10_riskOf_12 : decode cX10_riskOf 12 = .ok (.iload_n 2, 1) := by decide +kernel
theorem dX10_riskOf_13 : decode cX10_riskOf 13 = .ok (.iload_n 1, 1) := by decide +kernel
theorem dX10_riskOf_14 : decode cX10_riskOf 14 = .ok (.iload_n 3, 1) := by decide +kernel
theorem dX10_riskOf_15 : decode cX10_riskOf 15 = .ok (.ishr, 1) := by decide +kernel
theorem dX10_riskOf_16 : decode cX10_riskOf 16 = .ok (.iconst 1, 1) := by decide +kernel
theorem dX10_riskOf_17 : decode cX10_riskOf 17 = .ok (.iand, 1) := by decide +kernel
theorem dX10_riskOf_18 : decode cX10_riskOf 18 = .ok (.iconst 1, 1) := by decide +kernel
theorem dX10_riskOf_19 : decode cX10_riskOf 19 = .ok (.if_icmp .ne 12, 3) := by decide +kernel
theorem dX10_riskOf_22 : decode cX10_riskOf 22 = .ok (.aload_n 0, 1) := by decide +kernel
theorem dX10_riskOf_23 : decode cX10_riskOf 23 = .ok (.getfield 77, 3) := by decide +kernel
theorem dX10_riskOf_26 : decode cX10_riskOf 26 = .ok (.iload_n 3, 1) := by decide +kernel
theorem dX10_riskOf_27 : decode cX10_riskOf 27 = .ok (.iaload, 1) := by decide +kernel
theorem dX10_riskOf_28 : decode cX10_riskOf 28 = .ok (.goto 4, 3) := by decide +kernel
theorem dX10_riskOf_31 : decode cX10_riskOf 31 = .ok (.iconst 0, 1) := by decide +kernel
theorem dX10_riskOf_32 : decode cX10_riskOf 32 = .ok (.iadd, 1) := by decide +kernel
theorem dX10_riskOf_33 : decode cX10_riskOf 33 = .ok (.istore_n 2, 1) := by decide +kernel
theorem dX10_riskOf_34 : decode cX10_riskOf 34 = .ok (.iinc 3 1, 3) := by decide +kernel
theorem dX10_riskOf_37 : decode cX10_riskOf 37 = .ok (.goto (-33), 3) := by decide +kernel
theorem dX10_riskOf_40 : decode cX10_riskOf 40 = .ok (.iload_n 2, 1) := by decide +kernel
theorem dX10_riskOf_41 : decode cX10_riskOf 41 = .ok (.ireturn, 1) := by decide +kernel
theorem dX10_costOf_0 : decode cX10_costOf 0 = .ok (.iconst 0, 1) := by decide +kernel
theorem dX10_costOf_1 : decode cX10_costOf 1 = .ok (.istore_n 2, 1) := by decide +kernel
theorem dX10_costOf_2 : decode cX10_costOf 2 = .ok (.iconst 0, 1) := by decide +kernel
theorem dX10_costOf_3 : decode cX10_costOf 3 = .ok (.istore_n 3, 1) := by decide +kernel
theorem dX10_costOf_4 : decode cX10_costOf 4 = .ok (.iload_n 3, 1) := by decide +kernel
theorem dX10_costOf_5 : decode cX10_costOf 5 = .ok (.aload_n 0, 1) := by decide +kernel
theorem dX10_costOf_6 : decode cX10_costOf 6 = .ok (.getfield 263, 3) := by decide +kernel
theorem dX10_costOf_9 : decode cX10_costOf 9 = .ok (.if_icmp .ge 31, 3) := by decide +kernel
theorem dX10_costOf_12 : decode cX10_costOf 12 = .ok (.iload_n 2, 1) := by decide +kernel
theorem dX10_costOf_13 : decode cX10_costOf 13 = .ok (.iload_n 1, 1) := by decide +kernel
theorem dX10_costOf_14 : decode cX10_costOf 14 = .ok (.iload_n 3, 1) := by decide +kernel
theorem dX10_costOf_15 : decode cX10_costOf 15 = .ok (.ishr, 1) := by decide +kernel
theorem dX10_costOf_16 : decode cX10_costOf 16 = .ok (.iconst 1, 1) := by decide +kernel
theorem dX10_costOf_17 : decode cX10_costOf 17 = .ok (.iand, 1) := by decide +kernel
theorem dX10_costOf_18 : decode cX10_costOf 18 = .ok (.iconst 1, 1) := by decide +kernel
theorem dX10_costOf_19 : decode cX10_costOf 19 = .ok (.if_icmp .ne 12, 3) := by decide +kernel
theorem dX10_costOf_22 : decode cX10_costOf 22 = .ok (.aload_n 0, 1) := by decide +kernel
theorem dX10_costOf_23 : decode cX10_costOf 23 = .ok (.getfield 80, 3) := by decide +kernel
theorem dX10_costOf_26 : decode cX10_costOf 26 = .ok (.iload_n 3, 1) := by decide +kernel
theorem dX10_costOf_27 : decode cX10_costOf 27 = .ok (.iaload, 1) := by decide +kernel
theorem dX10_costOf_28 : decode cX10_costOf 28 = .ok (.goto 4, 3) := by decide +kernel
theorem dX10_costOf_31 : decode cX10_costOf 31 = .ok (.iconst 0, 1) := by decide +kernel
theorem dX10_costOf_32 : decode cX10_costOf 32 = .ok (.iadd, 1) := by decide +kernel
theorem dX10_costOf_33 : decode cX10_costOf 33 = .ok (.istore_n 2, 1) := by decide +kernel
theorem dX10_costOf_34 : decode cX10_costOf 34 = .ok (.iinc 3 1, 3) := by decide +kernel
theorem dX10_costOf_37 : decode cX10_costOf 37 = .ok (.goto (-33), 3) := by decide +kernel
theorem dX10_costOf_40 : decode cX10_costOf 40 = .ok (.iload_n 2, 1) := by decide +kernel
theorem dX10_costOf_41 : decode cX10_costOf 41 = .ok (.ireturn, 1) := by decide +kernel
theorem dX10_make_0 : decode cX10_make 0 = .ok (.iload_n 1, 1) := by decide +kernel
theorem dX10_make_1 : decode cX10_make 1 = .ok (.invokestatic 142, 3) := by decide +kernel
theorem dX10_make_4 : decode cX10_make 4 = .ok (.ifCond .ne 6, 3) := by decide +kernel
theorem dX10_make_7 : decode cX10_make 7 = .ok (.bipush (-3), 2) := by decide +kernel
theorem dX10_make_9 : decode cX10_make 9 = .ok (.ireturn, 1) := by decide +kernel
theorem dX10_make_10 : decode cX10_make 10 = .ok (.iconst (-1), 1) := by decide +kernel
theorem dX10_make_11 : decode cX10_make 11 = .ok (.istore_n 2, 1) := by decide +kernel
theorem dX10_make_12 : decode cX10_make 12 = .ok (.ldc_w 297, 3) := by decide +kernel
theorem dX10_make_15 : decode cX10_make 15 = .ok (.istore_n 3, 1) := by decide +kernel
theorem dX10_make_16 : decode cX10_make 16 = .ok (.iconst 0, 1) := by decide +kernel
theorem dX10_make_17 : decode cX10_make 17 = .ok (.istore 4, 2) := by decide +kernel
theorem dX10_make_19 : decode cX10_make 19 = .ok (.iload 4, 2) := by decide +kernel
theorem dX10_make_21 : decode cX10_make 21 = .ok (.iconst 1, 1) := by decide +kernel
theorem dX10_make_22 : decode cX10_make 22 = .ok (.aload_n 0, 1) := by decide +kernel
theorem dX10_make_23 : decode cX10_make 23 = .ok (.getfield 263, 3) := by decide +kernel
theorem dX10_make_26 : decode cX10_make 26 = .ok (.ishl, 1) := by decide +kernel
theorem dX10_make_27 : decode cX10_make 27 = .ok (.if_icmp .ge 61, 3) := by decide +kernel
theorem dX10_make_30 : decode cX10_make 30 = .ok (.aload_n 0, 1) := by decide +kernel
theorem dX10_make_31 : decode cX10_make 31 = .ok (.iload 4, 2) := by decide +kernel
theorem dX10_make_33 : decode cX10_make 33 = .ok (.invokevirtual 298, 3) := by decide +kernel
theorem dX10_make_36 : decode cX10_make 36 = .ok (.iload_n 3, 1) := by decide +kernel
theorem dX10_make_37 : decode cX10_make 37 = .ok (.if_icmp .ge 45, 3) := by decide +kernel
theorem dX10_make_40 : decode cX10_make 40 = .ok (.aload_n 0, 1) := by decide +kernel
theorem dX10_make_41 : decode cX10_make 41 = .ok (.iload 4, 2) := by decide +kernel
theorem dX10_make_43 : decode cX10_make 43 = .ok (.putfield 260, 3) := by decide +kernel
theorem dX10_make_46 : decode cX10_make 46 = .ok (.aload_n 0, 1) := by decide +kernel
theorem dX10_make_47 : decode cX10_make 47 = .ok (.iconst 0, 1) := by decide +kernel
theorem dX10_make_48 : decode cX10_make 48 = .ok (.iload_n 1, 1) := by decide +kernel
theorem dX10_make_49 : decode cX10_make 49 = .ok (.invokevirtual 292, 3) := by decide +kernel
theorem dX10_make_52 : decode cX10_make 52 = .ok (.istore 5, 2) := by decide +kernel
theorem dX10_make_54 : decode cX10_make 54 = .ok (.iload 5, 2) := by decide +kernel
theorem dX10_make_56 : decode cX10_make 56 = .ok (.ifCond .eq 8, 3) := by decide +kernel
theorem dX10_make_59 : decode cX10_make 59 = .ok (.iload 4, 2) := by decide +kernel
theorem dX10_make_61 : decode cX10_make 61 = .ok (.goto 4, 3) := by decide +kernel
theorem dX10_make_64 : decode cX10_make 64 = .ok (.iload_n 2, 1) := by decide +kernel
theorem dX10_make_65 : decode cX10_make 65 = .ok (.istore_n 2, 1) := by decide +kernel
theorem dX10_make_66 : decode cX10_make 66 = .ok (.iload 5, 2) := by decide +kernel
theorem dX10_make_68 : decode cX10_make 68 = .ok (.ifCond .eq 12, 3) := by decide +kernel
theorem dX10_make_71 : decode cX10_make 71 = .ok (.aload_n 0, 1) := by decide +kernel
theorem dX10_make_72 : decode cX10_make 72 = .ok (.iload 4, 2) := by decide +kernel
theorem dX10_make_74 : decode cX10_make 74 = .ok (.invokevirtual 298, 3) := by decide +kernel
theorem dX10_make_77 : decode cX10_make 77 = .ok (.goto 4, 3) := by decide +kernel
theorem dX10_make_80 : decode cX10_make 80 = .ok (.iload_n 3, 1) := by decide +kernel
theorem dX10_make_81 : decode cX10_make 81 = .ok (.istore_n 3, 1) := by decide +kernel
theorem dX10_make_82 : decode cX10_make 82 = .ok (.iinc 4 1, 3) := by decide +kernel
theorem dX10_make_85 : decode cX10_make 85 = .ok (.goto (-66), 3) := by decide +kernel
theorem dX10_make_88 : decode cX10_make 88 = .ok (.aload_n 0, 1) := by decide +kernel
theorem dX10_make_89 : decode cX10_make 89 = .ok (.iconst 0, 1) := by decide +kernel
theorem dX10_make_90 : decode cX10_make 90 = .ok (.putfield 260, 3) := by decide +kernel
theorem dX10_make_93 : decode cX10_make 93 = .ok (.iload_n 2, 1) := by decide +kernel
theorem dX10_make_94 : decode cX10_make 94 = .ok (.ireturn, 1) := by decide +kernel
theorem dX10_buy_0 : decode cX10_buy 0 = .ok (.iload_n 1, 1) := by decide +kernel
theorem dX10_buy_1 : decode cX10_buy 1 = .ok (.invokestatic 155, 3) := by decide +kernel
theorem dX10_buy_4 : decode cX10_buy 4 = .ok (.ifCond .ne 6, 3) := by decide +kernel
theorem dX10_buy_7 : decode cX10_buy 7 = .ok (.bipush (-2), 2) := by decide +kernel
theorem dX10_buy_9 : decode cX10_buy 9 = .ok (.ireturn, 1) := by decide +kernel
theorem dX10_buy_10 : decode cX10_buy 10 = .ok (.iload_n 2, 1) := by decide +kernel
theorem dX10_buy_11 : decode cX10_buy 11 = .ok (.invokestatic 142, 3) := by decide +kernel
theorem dX10_buy_14 : decode cX10_buy 14 = .ok (.ifCond .eq 15, 3) := by decide +kernel
theorem dX10_buy_17 : decode cX10_buy 17 = .ok (.iload_n 3, 1) := by decide +kernel
theorem dX10_buy_18 : decode cX10_buy 18 = .ok (.i2l, 1) := by decide +kernel
theorem dX10_buy_19 : decode cX10_buy 19 = .ok (.lconst 0, 1) := by decide +kernel
theorem dX10_buy_20 : decode cX10_buy 20 = .ok (.ldc2_w 301, 3) := by decide +kernel
theorem dX10_buy_23 : decode cX10_buy 23 = .ok (.invokestatic 121, 3) := by decide +kernel
theorem dX10_buy_26 : decode cX10_buy 26 = .ok (.ifCond .ne 6, 3) := by decide +kernel
theorem dX10_buy_29 : decode cX10_buy 29 = .ok (.bipush (-3), 2) := by decide +kernel
theorem dX10_buy_31 : decode cX10_buy 31 = .ok (.ireturn, 1) := by decide +kernel
theorem dX10_buy_32 : decode cX10_buy 32 = .ok (.iconst 0, 1) := by decide +kernel
theorem dX10_buy_33 : decode cX10_buy 33 = .ok (.istore 4, 2) := by decide +kernel
theorem dX10_buy_35 : decode cX10_buy 35 = .ok (.iconst 0, 1) := by decide +kernel
theorem dX10_buy_36 : decode cX10_buy 36 = .ok (.istore 5, 2) := by decide +kernel
theorem dX10_buy_38 : decode cX10_buy 38 = .ok (.iload 5, 2) := by decide +kernel
theorem dX10_buy_40 : decode cX10_buy 40 = .ok (.aload_n 0, 1) := by decide +kernel
theorem dX10_buy_41 : decode cX10_buy 41 = .ok (.getfield 263, 3) := by decide +kernel
theorem dX10_buy_44 : decode cX10_buy 44 = .ok (.if_icmp .ge 34, 3) := by decide +kernel
theorem dX10_buy_47 : decode cX10_buy 47 = .ok (.iload 4, 2) := by decide +kernel
theorem dX10_buy_49 : decode cX10_buy 49 = .ok (.aload_n 0, 1) := by decide +kernel
theorem dX10_buy_50 : decode cX10_buy 50 = .ok (.bipush 24, 2) := by decide +kernel
theorem dX10_buy_52 : decode cX10_buy 52 = .ok (.iload 5, 2) := by decide +kernel
theorem dX10_buy_54 : decode cX10_buy 54 = .ok (.iadd, 1) := by decide +kernel
theorem dX10_buy_55 : decode cX10_buy 55 = .ok (.invokevirtual 241, 3) := by decide +kernel
theorem dX10_buy_58 : decode cX10_buy 58 = .ok (.ifCond .eq 10, 3) := by decide +kernel
theorem dX10_buy_61 : decode cX10_buy 61 = .ok (.iconst 1, 1) := by decide +kernel
theorem dX10_buy_62 : decode cX10_buy 62 = .ok (.iload 5, 2) := by decide +kernel
theorem dX10_buy_64 : decode cX10_buy 64 = .ok (.ishl, 1) := by decide +kernel
theorem dX10_buy_65 : decode cX10_buy 65 = .ok (.goto 4, 3) := by decide +kernel
theorem dX10_buy_68 : decode cX10_buy 68 = .ok (.iconst 0, 1) := by decide +kernel
theorem dX10_buy_69 : decode cX10_buy 69 = .ok (.ior, 1) := by decide +kernel
theorem dX10_buy_70 : decode cX10_buy 70 = .ok (.istore 4, 2) := by decide +kernel
theorem dX10_buy_72 : decode cX10_buy 72 = .ok (.iinc 5 1, 3) := by decide +kernel
theorem dX10_buy_75 : decode cX10_buy 75 = .ok (.goto (-37), 3) := by decide +kernel
theorem dX10_buy_78 : decode cX10_buy 78 = .ok (.iconst (-1), 1) := by decide +kernel
theorem dX10_buy_79 : decode cX10_buy 79 = .ok (.istore 5, 2) := by decide +kernel
theorem dX10_buy_81 : decode cX10_buy 81 = .ok (.ldc_w 297, 3) := by decide +kernel
theorem dX10_buy_84 : decode cX10_buy 84 = .ok (.istore 6, 2) := by decide +kernel
theorem dX10_buy_86 : decode cX10_buy 86 = .ok (.iconst 0, 1) := by decide +kernel
theorem dX10_buy_87 : decode cX10_buy 87 = .ok (.istore 7, 2) := by decide +kernel
theorem dX10_buy_89 : decode cX10_buy 89 = .ok (.iload 7, 2) := by decide +kernel
theorem dX10_buy_91 : decode cX10_buy 91 = .ok (.iconst 1, 1) := by decide +kernel
theorem dX10_buy_92 : decode cX10_buy 92 = .ok (.aload_n 0, 1) := by decide +kernel
theorem dX10_buy_93 : decode cX10_buy 93 = .ok (.getfield 263, 3) := by decide +kernel
theorem dX10_buy_96 : decode cX10_buy 96 = .ok (.ishl, 1) := by decide +kernel
theorem dX10_buy_97 : decode cX10_buy 97 = .ok (.if_icmp .ge 86, 3) := by decide +kernel
theorem dX10_buy_100 : decode cX10_buy 100 = .ok (.iload 7, 2) := by decide +kernel
theorem dX10_buy_102 : decode cX10_buy 102 = .ok (.iload 4, 2) := by decide +kernel
theorem dX10_buy_104 : decode cX10_buy 104 = .ok (.iconst (-1), 1) := by decide +kernel
theorem dX10_buy_105 : decode cX10_buy 105 = .ok (.ixor, 1) := by decide +kernel
theorem dX10_buy_106 : decode cX10_buy 106 = .ok (.iand, 1) := by decide +kernel
theorem dX10_buy_107 : decode cX10_buy 107 = .ok (.ifCond .ne 70, 3) := by decide +kernel
theorem dX10_buy_110 : decode cX10_buy 110 = .ok (.aload_n 0, 1) := by decide +kernel
theorem dX10_buy_111 : decode cX10_buy 111 = .ok (.iload 7, 2) := by decide +kernel
theorem dX10_buy_113 : decode cX10_buy 113 = .ok (.invokevirtual 303, 3) := by decide +kernel
theorem dX10_buy_116 : decode cX10_buy 116 = .ok (.iload 6, 2) := by decide +kernel
theorem dX10_buy_118 : decode cX10_buy 118 = .ok (.if_icmp .ge 59, 3) := by decide +kernel
theorem dX10_buy_121 : decode cX10_buy 121 = .ok (.aload_n 0, 1) := by decide +kernel
theorem dX10_buy_122 : decode cX10_buy 122 = .ok (.iload 7, 2) := by decide +kernel
theorem dX10_buy_124 : decode cX10_buy 124 = .ok (.putfield 260, 3) := by decide +kernel
theorem dX10_buy_127 : decode cX10_buy 127 = .ok (.aload_n 0, 1) := by decide +kernel
theorem dX10_buy_128 : decode cX10_buy 128 = .ok (.iconst 0, 1) := by decide +kernel
theorem dX10_buy_129 : decode cX10_buy 129 = .ok (.iload_n 1, 1) := by decide +kernel
theorem dX10_buy_130 : decode cX10_buy 130 = .ok (.iload_n 2, 1) := by decide +kernel
theorem dX10_buy_131 : decode cX10_buy 131 = .ok (.invokevirtual 273, 3) := by decide +kernel
theorem dX10_buy_134 : decode cX10_buy 134 = .ok (.iload_n 3, 1) := by decide +kernel
theorem dX10_buy_135 : decode cX10_buy 135 = .ok (.if_icmp .lt 7, 3) := by decide +kernel
theorem dX10_buy_138 : decode cX10_buy 138 = .ok (.iconst 1, 1) := by decide +kernel
theorem dX10_buy_139 : decode cX10_buy 139 = .ok (.goto 4, 3) := by decide +kernel
theorem dX10_buy_142 : decode cX10_buy 142 = .ok (.iconst 0, 1) := by decide +kernel
theorem dX10_buy_143 : decode cX10_buy 143 = .ok (.istore 8, 2) := by decide +kernel
theorem dX10_buy_145 : decode cX10_buy 145 = .ok (.iload 8, 2) := by decide +kernel
theorem dX10_buy_147 : decode cX10_buy 147 = .ok (.ifCond .eq 8, 3) := by decide +kernel
theorem dX10_buy_150 : decode cX10_buy 150 = .ok (.iload 7, 2) := by decide +kernel
theorem dX10_buy_152 : decode cX10_buy 152 = .ok (.goto 5, 3) := by decide +kernel
theorem dX10_buy_155 : decode cX10_buy 155 = .ok (.iload 5, 2) := by decide +kernel
theorem dX10_buy_157 : decode cX10_buy 157 = .ok (.istore 5, 2) := by decide +kernel
theorem dX10_buy_159 : decode cX10_buy 159 = .ok (.iload 8, 2) := by decide +kernel
theorem dX10_buy_161 : decode cX10_buy 161 = .ok (.ifCond .eq 12, 3) := by decide +kernel
theorem dX10_buy_164 : decode cX10_buy 164 = .ok (.aload_n 0, 1) := by decide +kernel
theorem dX10_buy_165 : decode cX10_buy 165 = .ok (.iload 7, 2) := by decide +kernel
theorem dX10_buy_167 : decode cX10_buy 167 = .ok (.invokevirtual 303, 3) := by decide +kernel
theorem dX10_buy_170 : decode cX10_buy 170 = .ok (.goto 5, 3) := by decide +kernel
theorem dX10_buy_173 : decode cX10_buy 173 = .ok (.iload 6, 2) := by decide +kernel
theorem dX10_buy_175 : decode cX10_buy 175 = .ok (.istore 6, 2) := by decide +kernel
theorem dX10_buy_177 : decode cX10_buy 177 = .ok (.iinc 7 1, 3) := by decide +kernel
theorem dX10_buy_180 : decode cX10_buy 180 = .ok (.goto (-91), 3) := by decide +kernel
theorem dX10_buy_183 : decode cX10_buy 183 = .ok (.aload_n 0, 1) := by decide +kernel
theorem dX10_buy_184 : decode cX10_buy 184 = .ok (.iconst 0, 1) := by decide +kernel
theorem dX10_buy_185 : decode cX10_buy 185 = .ok (.putfield 260, 3) := by decide +kernel
theorem dX10_buy_188 : decode cX10_buy 188 = .ok (.iload 5, 2) := by decide +kernel
theorem dX10_buy_190 : decode cX10_buy 190 = .ok (.ireturn, 1) := by decide +kernel
theorem dX10_sign_0 : decode cX10_sign 0 = .ok (.iload_n 1, 1) := by decide +kernel
theorem dX10_sign_1 : decode cX10_sign 1 = .ok (.invokestatic 142, 3) := by decide +kernel
theorem dX10_sign_4 : decode cX10_sign 4 = .ok (.ifCond .eq 11, 3) := by decide +kernel
theorem dX10_sign_7 : decode cX10_sign 7 = .ok (.iload 4, 2) := by decide +kernel
theorem dX10_sign_9 : decode cX10_sign 9 = .ok (.invokestatic 142, 3) := by decide +kernel
theorem dX10_sign_12 : decode cX10_sign 12 = .ok (.ifCond .ne 6, 3) := by decide +kernel
theorem dX10_sign_15 : decode cX10_sign 15 = .ok (.bipush (-3), 2) := by decide +kernel
theorem dX10_sign_17 : decode cX10_sign 17 = .ok (.ireturn, 1) := by decide +kernel
theorem dX10_sign_18 : decode cX10_sign 18 = .ok (.aload_n 0, 1) := by decide +kernel
theorem dX10_sign_19 : decode cX10_sign 19 = .ok (.getfield 306, 3) := by decide +kernel
theorem dX10_sign_22 : decode cX10_sign 22 = .ok (.bipush 12, 2) := by decide +kernel
theorem dX10_sign_24 : decode cX10_sign 24 = .ok (.if_icmp .ne 6, 3) := by decide +kernel
theorem dX10_sign_27 : decode cX10_sign 27 = .ok (.bipush (-5), 2) := by decide +kernel
theorem dX10_sign_29 : decode cX10_sign 29 = .ok (.ireturn, 1) := by decide +kernel
theorem dX10_sign_30 : decode cX10_sign 30 = .ok (.aload_n 0, 1) := by decide +kernel
theorem dX10_sign_31 : decode cX10_sign 31 = .ok (.getfield 107, 3) := by decide +kernel
theorem dX10_sign_34 : decode cX10_sign 34 = .ok (.aload_n 0, 1) := by decide +kernel
theorem dX10_sign_35 : decode cX10_sign 35 = .ok (.getfield 306, 3) := by decide +kernel
theorem dX10_sign_38 : decode cX10_sign 38 = .ok (.iload_n 1, 1) := by decide +kernel
theorem dX10_sign_39 : decode cX10_sign 39 = .ok (.iastore, 1) := by decide +kernel
theorem dX10_sign_40 : decode cX10_sign 40 = .ok (.aload_n 0, 1) := by decide +kernel
theorem dX10_sign_41 : decode cX10_sign 41 = .ok (.getfield 110, 3) := by decide +kernel
theorem dX10_sign_44 : decode cX10_sign 44 = .ok (.aload_n 0, 1) := by decide +kernel
theorem dX10_sign_45 : decode cX10_sign 45 = .ok (.getfield 306, 3) := by decide +kernel
theorem dX10_sign_48 : decode cX10_sign 48 = .ok (.iload_n 2, 1) := by decide +kernel
theorem dX10_sign_49 : decode cX10_sign 49 = .ok (.iastore, 1) := by decide +kernel
theorem dX10_sign_50 : decode cX10_sign 50 = .ok (.aload_n 0, 1) := by decide +kernel
theorem dX10_sign_51 : decode cX10_sign 51 = .ok (.getfield 113, 3) := by decide +kernel
theorem dX10_sign_54 : decode cX10_sign 54 = .ok (.aload_n 0, 1) := by decide +kernel
theorem dX10_sign_55 : decode cX10_sign 55 = .ok (.getfield 306, 3) := by decide +kernel
theorem dX10_sign_58 : decode cX10_sign 58 = .ok (.iload_n 3, 1) := by decide +kernel
theorem dX10_sign_59 : decode cX10_sign 59 = .ok (.iastore, 1) := by decide +kernel
theorem dX10_sign_60 : decode cX10_sign 60 = .ok (.aload_n 0, 1) := by decide +kernel
theorem dX10_sign_61 : decode cX10_sign 61 = .ok (.getfield 116, 3) := by decide +kernel
theorem dX10_sign_64 : decode cX10_sign 64 = .ok (.aload_n 0, 1) := by decide +kernel
theorem dX10_sign_65 : decode cX10_sign 65 = .ok (.getfield 306, 3) := by decide +kernel
theorem dX10_sign_68 : decode cX10_sign 68 = .ok (.iload 4, 2) := by decide +kernel
theorem dX10_sign_70 : decode cX10_sign 70 = .ok (.iastore, 1) := by decide +kernel
theorem dX10_sign_71 : decode cX10_sign 71 = .ok (.aload_n 0, 1) := by decide +kernel
theorem dX10_sign_72 : decode cX10_sign 72 = .ok (.dup, 1) := by decide +kernel
theorem dX10_sign_73 : decode cX10_sign 73 = .ok (.getfield 306, 3) := by decide +kernel
theorem dX10_sign_76 : decode cX10_sign 76 = .ok (.iconst 1, 1) := by decide +kernel
theorem dX10_sign_77 : decode cX10_sign 77 = .ok (.iadd, 1) := by decide +kernel
theorem dX10_sign_78 : decode cX10_sign 78 = .ok (.putfield 306, 3) := by decide +kernel
theorem dX10_sign_81 : decode cX10_sign 81 = .ok (.aload_n 0, 1) := by decide +kernel
theorem dX10_sign_82 : decode cX10_sign 82 = .ok (.getfield 306, 3) := by decide +kernel
theorem dX10_sign_85 : decode cX10_sign 85 = .ok (.ireturn, 1) := by decide +kernel
theorem dX10_question_0 : decode cX10_question 0 = .ok (.iload_n 2, 1) := by decide +kernel
theorem dX10_question_1 : decode cX10_question 1 = .ok (.invokestatic 133, 3) := by decide +kernel
theorem dX10_question_4 : decode cX10_question 4 = .ok (.ifCond .eq 22, 3) := by decide +kernel
theorem dX10_question_7 : decode cX10_question 7 = .ok (.iload_n 3, 1) := by decide +kernel
theorem dX10_question_8 : decode cX10_question 8 = .ok (.invokestatic 139, 3) := by decide +kernel
theorem dX10_question_11 : decode cX10_question 11 = .ok (.ifCond .eq 15, 3) := by decide +kernel
theorem dX10_question_14 : decode cX10_question 14 = .ok (.aload_n 0, 1) := by decide +kernel
theorem dX10_question_15 : decode cX10_question 15 = .ok (.iload_n 1, 1) := by decide +kernel
theorem dX10_question_16 : decode cX10_question 16 = .ok (.iload_n 2, 1) := by decide +kernel
theorem dX10_question_17 : decode cX10_question 17 = .ok (.iload_n 3, 1) := by decide +kernel
theorem dX10_question_18 : decode cX10_question 18 = .ok (.iload 4, 2) := by decide +kernel
theorem dX10_question_20 : decode cX10_question 20 = .ok (.invokevirtual 309, 3) := by decide +kernel
theorem dX10_question_23 : decode cX10_question 23 = .ok (.goto 5, 3) := by decide +kernel
theorem dX10_question_26 : decode cX10_question 26 = .ok (.bipush (-2), 2) := by decide +kernel
theorem dX10_question_28 : decode cX10_question 28 = .ok (.ireturn, 1) := by decide +kernel
theorem dX10_pay_0 : decode cX10_pay 0 = .ok (.iload_n 2, 1) := by decide +kernel
theorem dX10_pay_1 : decode cX10_pay 1 = .ok (.invokestatic 155, 3) := by decide +kernel
theorem dX10_pay_4 : decode cX10_pay 4 = .ok (.ifCond .eq 14, 3) := by decide +kernel
theorem dX10_pay_7 : decode cX10_pay 7 = .ok (.aload_n 0, 1) := by decide +kernel
theorem dX10_pay_8 : decode cX10_pay 8 = .ok (.iload_n 1, 1) := by decide +kernel
theorem dX10_pay_9 : decode cX10_pay 9 = .ok (.iconst (-1), 1) := by decide +kernel
theorem dX10_pay_10 : decode cX10_pay 10 = .ok (.iload_n 2, 1) := by decide +kernel
theorem dX10_pay_11 : decode cX10_pay 11 = .ok (.iconst 0, 1) := by decide +kernel
theorem dX10_pay_12 : decode cX10_pay 12 = .ok (.invokevirtual 309, 3) := by decide +kernel
theorem dX10_pay_15 : decode cX10_pay 15 = .ok (.goto 5, 3) := by decide +kernel
theorem dX10_pay_18 : decode cX10_pay 18 = .ok (.bipush (-2), 2) := by decide +kernel
theorem dX10_pay_20 : decode cX10_pay 20 = .ok (.ireturn, 1) := by decide +kernel
theorem dX10_which_0 : decode cX10_which 0 = .ok (.iconst 0, 1) := by decide +kernel
theorem dX10_which_1 : decode cX10_which 1 = .ok (.istore_n 1, 1) := by decide +kernel
theorem dX10_which_2 : decode cX10_which 2 = .ok (.iconst 0, 1) := by decide +kernel
theorem dX10_which_3 : decode cX10_which 3 = .ok (.istore_n 2, 1) := by decide +kernel
theorem dX10_which_4 : decode cX10_which 4 = .ok (.iload_n 2, 1) := by decide +kernel
theorem dX10_which_5 : decode cX10_which 5 = .ok (.iconst 2, 1) := by decide +kernel
theorem dX10_which_6 : decode cX10_which 6 = .ok (.if_icmp .ge 128, 3) := by decide +kernel
theorem dX10_which_9 : decode cX10_which 9 = .ok (.iconst 1, 1) := by decide +kernel
theorem dX10_which_10 : decode cX10_which 10 = .ok (.istore_n 3, 1) := by decide +kernel
theorem dX10_which_11 : decode cX10_which 11 = .ok (.iconst 0, 1) := by decide +kernel
theorem dX10_which_12 : decode cX10_which 12 = .ok (.istore 4, 2) := by decide +kernel
theorem dX10_which_14 : decode cX10_which 14 = .ok (.iload 4, 2) := by decide +kernel
theorem dX10_which_16 : decode cX10_which 16 = .ok (.aload_n 0, 1) := by decide +kernel
theorem dX10_which_17 : decode cX10_which 17 = .ok (.getfield 306, 3) := by decide +kernel
theorem dX10_which_20 : decode cX10_which 20 = .ok (.if_icmp .ge 94, 3) := by decide +kernel
theorem dX10_which_23 : decode cX10_which 23 = .ok (.iload_n 3, 1) := by decide +kernel
theorem dX10_which_24 : decode cX10_which 24 = .ok (.ifCond .eq 82, 3) := by decide +kernel
theorem dX10_which_27 : decode cX10_which 27 = .ok (.aload_n 0, 1) := by decide +kernel
theorem dX10_which_28 : decode cX10_which 28 = .ok (.getfield 110, 3) := by decide +kernel
theorem dX10_which_31 : decode cX10_which 31 = .ok (.iload 4, 2) := by decide +kernel
theorem dX10_which_33 : decode cX10_which 33 = .ok (.iaload, 1) := by decide +kernel
theorem dX10_which_34 : decode cX10_which 34 = .ok (.iconst (-1), 1) := by decide +kernel
theorem dX10_which_35 : decode cX10_which 35 = .ok (.if_icmp .ne 30, 3) := by decide +kernel
theorem dX10_which_38 : decode cX10_which 38 = .ok (.aload_n 0, 1) := by decide +kernel
theorem dX10_which_39 : decode cX10_which 39 = .ok (.iload_n 2, 1) := by decide +kernel
theorem dX10_which_40 : decode cX10_which 40 = .ok (.aload_n 0, 1) := by decide +kernel
theorem dX10_which_41 : decode cX10_which 41 = .ok (.getfield 113, 3) := by decide +kernel
theorem dX10_which_44 : decode cX10_which 44 = .ok (.iload 4, 2) := by decide +kernel
theorem dX10_which_46 : decode cX10_which 46 = .ok (.iaload, 1) := by decide +kernel
theorem dX10_which_47 : decode cX10_which 47 = .ok (.aload_n 0, 1) := by decide +kernel
theorem dX10_which_48 : decode cX10_which 48 = .ok (.getfield 107, 3) := by decide +kernel
theorem dX10_which_51 : decode cX10_which 51 = .ok (.iload 4, 2) := by decide +kernel
theorem dX10_which_53 : decode cX10_which 53 = .ok (.iaload, 1) := by decide +kernel
theorem dX10_which_54 : decode cX10_which 54 = .ok (.invokevirtual 273, 3) := by decide +kernel
theorem dX10_which_57 : decode cX10_which 57 = .ok (.bipush 50, 2) := by decide +kernel
theorem dX10_which_59 : decode cX10_which 59 = .ok (.if_icmp .lt 47, 3) := by decide +kernel
theorem dX10_which_62 : decode cX10_which 62 = .ok (.goto 40, 3) := by decide +kernel
theorem dX10_which_65 : decode cX10_which 65 = .ok (.aload_n 0, 1) := by decide +kernel
theorem dX10_which_66 : decode cX10_which 66 = .ok (.iload_n 2, 1) := by decide +kernel
theorem dX10_which_67 : decode cX10_which 67 = .ok (.aload_n 0, 1) := by decide +kernel
theorem dX10_which_68 : decode cX10_which 68 = .ok (.getfield 110, 3) := by decide +kernel
theorem dX10_which_71 : decode cX10_which 71 = .ok (.iload 4, 2) := by decide +kernel
theorem dX10_which_73 : decode cX10_which 73 = .ok (.iaload, 1) := by decide +kernel
theorem dX10_which_74 : decode cX10_which 74 = .ok (.aload_n 0, 1) := by decide +kernel
theorem dX10_which_75 : decode cX10_which 75 = .ok (.getfield 113, 3) := by decide +kernel
theorem dX10_which_78 : decode cX10_which 78 = .ok (.iload 4, 2) := by decide +kernel
theorem dX10_which_80 : decode cX10_which 80 = .ok (.iaload, 1) := by decide +kernel
theorem dX10_which_81 : decode cX10_which 81 = .ok (.aload_n 0, 1) := by decide +kernel
theorem dX10_which_82 : decode cX10_which 82 = .ok (.getfield 116, 3) := by decide +kernel
theorem dX10_which_85 : decode cX10_which 85 = .ok (.iload 4, 2) := by decide +kernel
theorem dX10_which_87 : decode cX10_which 87 = .ok (.iaload, 1) := by decide +kernel
theorem dX10_which_88 : decode cX10_which 88 = .ok (.aload_n 0, 1) := by decide +kernel
theorem dX10_which_89 : decode cX10_which 89 = .ok (.getfield 107, 3) := by decide +kernel
theorem dX10_which_92 : decode cX10_which 92 = .ok (.iload 4, 2) := by decide +kernel
theorem dX10_which_94 : decode cX10_which 94 = .ok (.iaload, 1) := by decide +kernel
theorem dX10_which_95 : decode cX10_which 95 = .ok (.invokevirtual 283, 3) := by decide +kernel
theorem dX10_which_98 : decode cX10_which 98 = .ok (.iconst (-1), 1) := by decide +kernel
theorem dX10_which_99 : decode cX10_which 99 = .ok (.if_icmp .ne 7, 3) := by decide +kernel
theorem dX10_which_102 : decode cX10_which 102 = .ok (.iconst 1, 1) := by decide +kernel
theorem dX10_which_103 : decode cX10_which 103 = .ok (.goto 4, 3) := by decide +kernel
theorem dX10_which_106 : decode cX10_which 106 = .ok (.iconst 0, 1) := by decide +kernel
theorem dX10_which_107 : decode cX10_which 107 = .ok (.istore_n 3, 1) := by decide +kernel
theorem dX10_which_108 : decode cX10_which 108 = .ok (.iinc 4 1, 3) := by decide +kernel
theorem dX10_which_111 : decode cX10_which 111 = .ok (.goto (-97), 3) := by decide +kernel
theorem dX10_which_114 : decode cX10_which 114 = .ok (.iload_n 1, 1) := by decide +kernel
theorem dX10_which_115 : decode cX10_which 115 = .ok (.iload_n 3, 1) := by decide +kernel
theorem dX10_which_116 : decode cX10_which 116 = .ok (.ifCond .eq 9, 3) := by decide +kernel
theorem dX10_which_119 : decode cX10_which 119 = .ok (.iconst 1, 1) := by decide +kernel
theorem dX10_which_120 : decode cX10_which 120 = .ok (.iload_n 2, 1) := by decide +kernel
theorem dX10_which_121 : decode cX10_which 121 = .ok (.ishl, 1) := by decide +kernel
theorem dX10_which_122 : decode cX10_which 122 = .ok (.goto 4, 3) := by decide +kernel
theorem dX10_which_125 : decode cX10_which 125 = .ok (.iconst 0, 1) := by decide +kernel
theorem dX10_which_126 : decode cX10_which 126 = .ok (.ior, 1) := by decide +kernel
theorem dX10_which_127 : decode cX10_which 127 = .ok (.istore_n 1, 1) := by decide +kernel
theorem dX10_which_128 : decode cX10_which 128 = .ok (.iinc 2 1, 3) := by decide +kernel
theorem dX10_which_131 : decode cX10_which 131 = .ok (.goto (-127), 3) := by decide +kernel
theorem dX10_which_134 : decode cX10_which 134 = .ok (.iload_n 1, 1) := by decide +kernel
theorem dX10_which_135 : decode cX10_which 135 = .ok (.ireturn, 1) := by decide +kernel
theorem dX10_warning_0 : decode cX10_warning 0 = .ok (.iload_n 1, 1) := by decide +kernel
theorem dX10_warning_1 : decode cX10_warning 1 = .ok (.invokestatic 222, 3) := by decide +kernel
theorem dX10_warning_4 : decode cX10_warning 4 = .ok (.ifCond .ne 6, 3) := by decide +kernel
theorem dX10_warning_7 : decode cX10_warning 7 = .ok (.bipush (-2), 2) := by decide +kernel
theorem dX10_warning_9 : decode cX10_warning 9 = .ok (.ireturn, 1) := by decide +kernel
theorem dX10_warning_10 : decode cX10_warning 10 = .ok (.iload_n 2, 1) := by decide +kernel
theorem dX10_warning_11 : decode cX10_warning 11 = .ok (.invokestatic 142, 3) := by decide +kernel
theorem dX10_warning_14 : decode cX10_warning 14 = .ok (.ifCond .eq 13, 3) := by decide +kernel
theorem dX10_warning_17 : decode cX10_warning 17 = .ok (.iload_n 3, 1) := by decide +kernel
theorem dX10_warning_18 : decode cX10_warning 18 = .ok (.i2l, 1) := by decide +kernel
theorem dX10_warning_19 : decode cX10_warning 19 = .ok (.lconst 0, 1) := by decide +kernel
theorem dX10_warning_20 : decode cX10_warning 20 = .ok (.lconst 1, 1) := by decide +kernel
theorem dX10_warning_21 : decode cX10_warning 21 = .ok (.invokestatic 121, 3) := by decide +kernel
theorem dX10_warning_24 : decode cX10_warning 24 = .ok (.ifCond .ne 6, 3) := by decide +kernel
theorem dX10_warning_27 : decode cX10_warning 27 = .ok (.bipush (-3), 2) := by decide +kernel
theorem dX10_warning_29 : decode cX10_warning 29 = .ok (.ireturn, 1) := by decide +kernel
theorem dX10_warning_30 : decode cX10_warning 30 = .ok (.iload_n 2, 1) := by decide +kernel
theorem dX10_warning_31 : decode cX10_warning 31 = .ok (.aload_n 0, 1) := by decide +kernel
theorem dX10_warning_32 : decode cX10_warning 32 = .ok (.getfield 53, 3) := by decide +kernel
theorem dX10_warning_35 : decode cX10_warning 35 = .ok (.iload_n 1, 1) := by decide +kernel
theorem dX10_warning_36 : decode cX10_warning 36 = .ok (.iaload, 1) := by decide +kernel
theorem dX10_warning_37 : decode cX10_warning 37 = .ok (.if_icmp .le 14, 3) := by decide +kernel
theorem dX10_warning_40 : decode cX10_warning 40 = .ok (.iload_n 2, 1) := by decide +kernel
theorem dX10_warning_41 : decode cX10_warning 41 = .ok (.aload_n 0, 1) := by decide +kernel
theorem dX10_warning_42 : decode cX10_warning 42 = .ok (.getfield 53, 3) := by decide +kernel
theorem dX10_warning_45 : decode cX10_warning 45 = .ok (.iload_n 1, 1) := by decide +kernel
theorem dX10_warning_46 : decode cX10_warning 46 = .ok (.iaload, 1) := by decide +kernel
theorem dX10_warning_47 : decode cX10_warning 47 = .ok (.isub, 1) := by decide +kernel
theorem dX10_warning_48 : decode cX10_warning 48 = .ok (.goto 4, 3) := by decide +kernel
theorem dX10_warning_51 : decode cX10_warning 51 = .ok (.iconst 0, 1) := by decide +kernel
theorem dX10_warning_52 : decode cX10_warning 52 = .ok (.istore 4, 2) := by decide +kernel
theorem dX10_warning_54 : decode cX10_warning 54 = .ok (.iload_n 3, 1) := by decide +kernel
theorem dX10_warning_55 : decode cX10_warning 55 = .ok (.ifCond .ne 8, 3) := by decide +kernel
theorem dX10_warning_58 : decode cX10_warning 58 = .ok (.iload 4, 2) := by decide +kernel
theorem dX10_warning_60 : decode cX10_warning 60 = .ok (.goto 14, 3) := by decide +kernel
theorem dX10_warning_63 : decode cX10_warning 63 = .ok (.iload 4, 2) := by decide +kernel
theorem dX10_warning_65 : decode cX10_warning 65 = .ok (.aload_n 0, 1) := by decide +kernel
theorem dX10_warning_66 : decode cX10_warning 66 = .ok (.getfield 53, 3) := by decide +kernel
theorem dX10_warning_69 : decode cX10_warning 69 = .ok (.iload_n 1, 1) := by decide +kernel
theorem dX10_warning_70 : decode cX10_warning 70 = .ok (.iaload, 1) := by decide +kernel
theorem dX10_warning_71 : decode cX10_warning 71 = .ok (.iadd, 1) := by decide +kernel
theorem dX10_warning_72 : decode cX10_warning 72 = .ok (.iload_n 2, 1) := by decide +kernel
theorem dX10_warning_73 : decode cX10_warning 73 = .ok (.isub, 1) := by decide +kernel
theorem dX10_warning_74 : decode cX10_warning 74 = .ok (.ireturn, 1) := by decide +kernel
theorem dX10_count_0 : decode cX10_count 0 = .ok (.iload_n 1, 1) := by decide +kernel
theorem dX10_count_1 : decode cX10_count 1 = .ok (.tableswitch 87 0 6 #[43, 48, 53, 58, 63, 68, 73], 43) := by decide +kernel
theorem dX10_count_44 : decode cX10_count 44 = .ok (.aload_n 0, 1) := by decide +kernel
theorem dX10_count_45 : decode cX10_count 45 = .ok (.getfield 147, 3) := by decide +kernel
theorem dX10_count_48 : decode cX10_count 48 = .ok (.ireturn, 1) := by decide +kernel
theorem dX10_count_49 : decode cX10_count 49 = .ok (.aload_n 0, 1) := by decide +kernel
theorem dX10_count_50 : decode cX10_count 50 = .ok (.getfield 160, 3) := by decide +kernel
theorem dX10_count_53 : decode cX10_count 53 = .ok (.ireturn, 1) := by decide +kernel
theorem dX10_count_54 : decode cX10_count 54 = .ok (.aload_n 0, 1) := by decide +kernel
theorem dX10_count_55 : decode cX10_count 55 = .ok (.getfield 231, 3) := by decide +kernel
theorem dX10_count_58 : decode cX10_count 58 = .ok (.ireturn, 1) := by decide +kernel
theorem dX10_count_59 : decode cX10_count 59 = .ok (.aload_n 0, 1) := by decide +kernel
theorem dX10_count_60 : decode cX10_count 60 = .ok (.getfield 286, 3) := by decide +kernel
theorem dX10_count_63 : decode cX10_count 63 = .ok (.ireturn, 1) := by decide +kernel
theorem dX10_count_64 : decode cX10_count 64 = .ok (.aload_n 0, 1) := by decide +kernel
theorem dX10_count_65 : decode cX10_count 65 = .ok (.getfield 263, 3) := by decide +kernel
theorem dX10_count_68 : decode cX10_count 68 = .ok (.ireturn, 1) := by decide +kernel
theorem dX10_count_69 : decode cX10_count 69 = .ok (.aload_n 0, 1) := by decide +kernel
theorem dX10_count_70 : decode cX10_count 70 = .ok (.getfield 306, 3) := by decide +kernel
theorem dX10_count_73 : decode cX10_count 73 = .ok (.ireturn, 1) := by decide +kernel
theorem dX10_count_74 : decode cX10_count 74 = .ok (.aload_n 0, 1) := by decide +kernel
theorem dX10_count_75 : decode cX10_count 75 = .ok (.getfield 92, 3) := by decide +kernel
theorem dX10_count_78 : decode cX10_count 78 = .ok (.iconst 0, 1) := by decide +kernel
theorem dX10_count_79 : decode cX10_count 79 = .ok (.iaload, 1) := by decide +kernel
theorem dX10_count_80 : decode cX10_count 80 = .ok (.aload_n 0, 1) := by decide +kernel
theorem dX10_count_81 : decode cX10_count 81 = .ok (.getfield 92, 3) := by decide +kernel
theorem dX10_count_84 : decode cX10_count 84 = .ok (.iconst 1, 1) := by decide +kernel
theorem dX10_count_85 : decode cX10_count 85 = .ok (.iaload, 1) := by decide +kernel
theorem dX10_count_86 : decode cX10_count 86 = .ok (.iadd, 1) := by decide +kernel
theorem dX10_count_87 : decode cX10_count 87 = .ok (.ireturn, 1) := by decide +kernel
theorem dX10_count_88 : decode cX10_count 88 = .ok (.bipush (-3), 2) := by decide +kernel
theorem dX10_count_90 : decode cX10_count 90 = .ok (.ireturn, 1) := by decide +kernel
theorem dJ6_bitCount_0f7a4_0 : decode cJ6_bitCount_0f7a4 0 = .ok (.iload_n 0, 1) := by decide +kernel
theorem dJ6_bitCount_0f7a4_1 : decode cJ6_bitCount_0f7a4 1 = .ok (.iload_n 0, 1) := by decide +kernel
theorem dJ6_bitCount_0f7a4_2 : decode cJ6_bitCount_0f7a4 2 = .ok (.iconst 1, 1) := by decide +kernel
theorem dJ6_bitCount_0f7a4_3 : decode cJ6_bitCount_0f7a4 3 = .ok (.iushr, 1) := by decide +kernel
theorem dJ6_bitCount_0f7a4_4 : decode cJ6_bitCount_0f7a4 4 = .ok (.ldc_w 265, 3) := by decide +kernel
theorem dJ6_bitCount_0f7a4_7 : decode cJ6_bitCount_0f7a4 7 = .ok (.iand, 1) := by decide +kernel
theorem dJ6_bitCount_0f7a4_8 : decode cJ6_bitCount_0f7a4 8 = .ok (.isub, 1) := by decide +kernel
theorem dJ6_bitCount_0f7a4_9 : decode cJ6_bitCount_0f7a4 9 = .ok (.istore_n 0, 1) := by decide +kernel
theorem dJ6_bitCount_0f7a4_10 : decode cJ6_bitCount_0f7a4 10 = .ok (.iload_n 0, 1) := by decide +kernel
theorem dJ6_bitCount_0f7a4_11 : decode cJ6_bitCount_0f7a4 11 = .ok (.ldc_w 266, 3) := by decide +kernel
theorem dJ6_bitCount_0f7a4_14 : decode cJ6_bitCount_0f7a4 14 = .ok (.iand, 1) := by decide +kernel
theorem dJ6_bitCount_0f7a4_15 : decode cJ6_bitCount_0f7a4 15 = .ok (.iload_n 0, 1) := by decide +kernel
theorem dJ6_bitCount_0f7a4_16 : decode cJ6_bitCount_0f7a4 16 = .ok (.iconst 2, 1) := by decide +kernel
theorem dJ6_bitCount_0f7a4_17 : decode cJ6_bitCount_0f7a4 17 = .ok (.iushr, 1) := by decide +kernel
theorem dJ6_bitCount_0f7a4_18 : decode cJ6_bitCount_0f7a4 18 = .ok (.ldc_w 266, 3) := by decide +kernel
theorem dJ6_bitCount_0f7a4_21 : decode cJ6_bitCount_0f7a4 21 = .ok (.iand, 1) := by decide +kernel
theorem dJ6_bitCount_0f7a4_22 : decode cJ6_bitCount_0f7a4 22 = .ok (.iadd, 1) := by decide +kernel
theorem dJ6_bitCount_0f7a4_23 : decode cJ6_bitCount_0f7a4 23 = .ok (.istore_n 0, 1) := by decide +kernel
theorem dJ6_bitCount_0f7a4_24 : decode cJ6_bitCount_0f7a4 24 = .ok (.iload_n 0, 1) := by decide +kernel
theorem dJ6_bitCount_0f7a4_25 : decode cJ6_bitCount_0f7a4 25 = .ok (.iload_n 0, 1) := by decide +kernel
theorem dJ6_bitCount_0f7a4_26 : decode cJ6_bitCount_0f7a4 26 = .ok (.iconst 4, 1) := by decide +kernel
theorem dJ6_bitCount_0f7a4_27 : decode cJ6_bitCount_0f7a4 27 = .ok (.iushr, 1) := by decide +kernel
theorem dJ6_bitCount_0f7a4_28 : decode cJ6_bitCount_0f7a4 28 = .ok (.iadd, 1) := by decide +kernel
theorem dJ6_bitCount_0f7a4_29 : decode cJ6_bitCount_0f7a4 29 = .ok (.ldc_w 267, 3) := by decide +kernel
theorem dJ6_bitCount_0f7a4_32 : decode cJ6_bitCount_0f7a4 32 = .ok (.iand, 1) := by decide +kernel
theorem dJ6_bitCount_0f7a4_33 : decode cJ6_bitCount_0f7a4 33 = .ok (.istore_n 0, 1) := by decide +kernel
theorem dJ6_bitCount_0f7a4_34 : decode cJ6_bitCount_0f7a4 34 = .ok (.iload_n 0, 1) := by decide +kernel
theorem dJ6_bitCount_0f7a4_35 : decode cJ6_bitCount_0f7a4 35 = .ok (.iload_n 0, 1) := by decide +kernel
theorem dJ6_bitCount_0f7a4_36 : decode cJ6_bitCount_0f7a4 36 = .ok (.bipush 8, 2) := by decide +kernel
theorem dJ6_bitCount_0f7a4_38 : decode cJ6_bitCount_0f7a4 38 = .ok (.iushr, 1) := by decide +kernel
theorem dJ6_bitCount_0f7a4_39 : decode cJ6_bitCount_0f7a4 39 = .ok (.iadd, 1) := by decide +kernel
theorem dJ6_bitCount_0f7a4_40 : decode cJ6_bitCount_0f7a4 40 = .ok (.istore_n 0, 1) := by decide +kernel
theorem dJ6_bitCount_0f7a4_41 : decode cJ6_bitCount_0f7a4 41 = .ok (.iload_n 0, 1) := by decide +kernel
theorem dJ6_bitCount_0f7a4_42 : decode cJ6_bitCount_0f7a4 42 = .ok (.iload_n 0, 1) := by decide +kernel
theorem dJ6_bitCount_0f7a4_43 : decode cJ6_bitCount_0f7a4 43 = .ok (.bipush 16, 2) := by decide +kernel
theorem dJ6_bitCount_0f7a4_45 : decode cJ6_bitCount_0f7a4 45 = .ok (.iushr, 1) := by decide +kernel
theorem dJ6_bitCount_0f7a4_46 : decode cJ6_bitCount_0f7a4 46 = .ok (.iadd, 1) := by decide +kernel
theorem dJ6_bitCount_0f7a4_47 : decode cJ6_bitCount_0f7a4 47 = .ok (.istore_n 0, 1) := by decide +kernel
theorem dJ6_bitCount_0f7a4_48 : decode cJ6_bitCount_0f7a4 48 = .ok (.iload_n 0, 1) := by decide +kernel
theorem dJ6_bitCount_0f7a4_49 : decode cJ6_bitCount_0f7a4 49 = .ok (.bipush 63, 2) := by decide +kernel
theorem dJ6_bitCount_0f7a4_51 : decode cJ6_bitCount_0f7a4 51 = .ok (.iand, 1) := by decide +kernel
theorem dJ6_bitCount_0f7a4_52 : decode cJ6_bitCount_0f7a4 52 = .ok (.ireturn, 1) := by decide +kernel
theorem dJ9_max_7cf53_0 : decode cJ9_max_7cf53 0 = .ok (.iload_n 0, 1) := by decide +kernel
theorem dJ9_max_7cf53_1 : decode cJ9_max_7cf53 1 = .ok (.iload_n 1, 1) := by decide +kernel
theorem dJ9_max_7cf53_2 : decode cJ9_max_7cf53 2 = .ok (.if_icmp .lt 7, 3) := by decide +kernel
theorem dJ9_max_7cf53_5 : decode cJ9_max_7cf53 5 = .ok (.iload_n 0, 1) := by decide +kernel
theorem dJ9_max_7cf53_6 : decode cJ9_max_7cf53 6 = .ok (.goto 4, 3) := by decide +kernel
theorem dJ9_max_7cf53_9 : decode cJ9_max_7cf53 9 = .ok (.iload_n 1, 1) := by decide +kernel
theorem dJ9_max_7cf53_10 : decode cJ9_max_7cf53 10 = .ok (.ireturn, 1) := by decide +kernel
theorem dJ9_min_7cf53_0 : decode cJ9_min_7cf53 0 = .ok (.iload_n 0, 1) := by decide +kernel
theorem dJ9_min_7cf53_1 : decode cJ9_min_7cf53 1 = .ok (.iload_n 1, 1) := by decide +kernel
theorem dJ9_min_7cf53_2 : decode cJ9_min_7cf53 2 = .ok (.if_icmp .gt 7, 3) := by decide +kernel
theorem dJ9_min_7cf53_5 : decode cJ9_min_7cf53 5 = .ok (.iload_n 0, 1) := by decide +kernel
theorem dJ9_min_7cf53_6 : decode cJ9_min_7cf53 6 = .ok (.goto 4, 3) := by decide +kernel
theorem dJ9_min_7cf53_9 : decode cJ9_min_7cf53 9 = .ok (.iload_n 1, 1) := by decide +kernel
theorem dJ9_min_7cf53_10 : decode cJ9_min_7cf53 10 = .ok (.ireturn, 1) := by decide +kernel
theorem dJ0_length_8abf5_0 : decode cJ0_length_8abf5 0 = .ok (.aload_n 0, 1) := by decide +kernel
theorem dJ0_length_8abf5_1 : decode cJ0_length_8abf5 1 = .ok (.getfield 9, 3) := by decide +kernel
theorem dJ0_length_8abf5_4 : decode cJ0_length_8abf5 4 = .ok (.arraylength, 1) := by decide +kernel
theorem dJ0_length_8abf5_5 : decode cJ0_length_8abf5 5 = .ok (.aload_n 0, 1) := by decide +kernel
theorem dJ0_length_8abf5_6 : decode cJ0_length_8abf5 6 = .ok (.invokevirtual 335, 3) := by decide +kernel
theorem dJ0_length_8abf5_9 : decode cJ0_length_8abf5 9 = .ok (.ishr, 1) := by decide +kernel
theorem dJ0_length_8abf5_10 : decode cJ0_length_8abf5 10 = .ok (.ireturn, 1) := by decide +kernel
theorem dJ0_charAt_5068e_0 : decode cJ0_charAt_5068e 0 = .ok (.aload_n 0, 1) := by decide +kernel
theorem dJ0_charAt_5068e_1 : decode cJ0_charAt_5068e 1 = .ok (.invokevirtual 492, 3) := by decide +kernel
theorem dJ0_charAt_5068e_4 : decode cJ0_charAt_5068e 4 = .ok (.ifCond .eq 12, 3) := by decide +kernel
theorem dJ0_charAt_5068e_7 : decode cJ0_charAt_5068e 7 = .ok (.aload_n 0, 1) := by decide +kernel
theorem dJ0_charAt_5068e_8 : decode cJ0_charAt_5068e 8 = .ok (.getfield 9, 3) := by decide +kernel
theorem dJ0_charAt_5068e_11 : decode cJ0_charAt_5068e 11 = .ok (.iload_n 1, 1) := by decide +kernel
theorem dJ0_charAt_5068e_12 : decode cJ0_charAt_5068e 12 = .ok (.invokestatic 495, 3) := by decide +kernel
theorem dJ0_charAt_5068e_15 : decode cJ0_charAt_5068e 15 = .ok (.ireturn, 1) := by decide +kernel
theorem dJ0_charAt_5068e_16 : decode cJ0_charAt_5068e 16 = .ok (.aload_n 0, 1) := by decide +kernel
theorem dJ0_charAt_5068e_17 : decode cJ0_charAt_5068e 17 = .ok (.getfield 9, 3) := by decide +kernel
theorem dJ0_charAt_5068e_20 : decode cJ0_charAt_5068e 20 = .ok (.iload_n 1, 1) := by decide +kernel
theorem dJ0_charAt_5068e_21 : decode cJ0_charAt_5068e 21 = .ok (.invokestatic 498, 3) := by decide +kernel
theorem dJ0_charAt_5068e_24 : decode cJ0_charAt_5068e 24 = .ok (.ireturn, 1) := by decide +kernel
theorem dJ0_coder_7d493_0 : decode cJ0_coder_7d493 0 = .ok (.getstatic 38, 3) := by decide +kernel
theorem dJ0_coder_7d493_3 : decode cJ0_coder_7d493 3 = .ok (.ifCond .eq 10, 3) := by decide +kernel
theorem dJ0_coder_7d493_6 : decode cJ0_coder_7d493 6 = .ok (.aload_n 0, 1) := by decide +kernel
theorem dJ0_coder_7d493_7 : decode cJ0_coder_7d493 7 = .ok (.getfield 15, 3) := by decide +kernel
theorem dJ0_coder_7d493_10 : decode cJ0_coder_7d493 10 = .ok (.goto 4, 3) := by decide +kernel
theorem dJ0_coder_7d493_13 : decode cJ0_coder_7d493 13 = .ok (.iconst 1, 1) := by decide +kernel
theorem dJ0_coder_7d493_14 : decode cJ0_coder_7d493 14 = .ok (.ireturn, 1) := by decide +kernel
theorem dJ0_isLatin1_aae02_0 : decode cJ0_isLatin1_aae02 0 = .ok (.getstatic 38, 3) := by decide +kernel
theorem dJ0_isLatin1_aae02_3 : decode cJ0_isLatin1_aae02 3 = .ok (.ifCond .eq 14, 3) := by decide +kernel
theorem dJ0_isLatin1_aae02_6 : decode cJ0_isLatin1_aae02 6 = .ok (.aload_n 0, 1) := by decide +kernel
theorem dJ0_isLatin1_aae02_7 : decode cJ0_isLatin1_aae02 7 = .ok (.getfield 15, 3) := by decide +kernel
theorem dJ0_isLatin1_aae02_10 : decode cJ0_isLatin1_aae02 10 = .ok (.ifCond .ne 7, 3) := by decide +kernel
theorem dJ0_isLatin1_aae02_13 : decode cJ0_isLatin1_aae02 13 = .ok (.iconst 1, 1) := by decide +kernel
theorem dJ0_isLatin1_aae02_14 : decode cJ0_isLatin1_aae02 14 = .ok (.goto 4, 3) := by decide +kernel
theorem dJ0_isLatin1_aae02_17 : decode cJ0_isLatin1_aae02 17 = .ok (.iconst 0, 1) := by decide +kernel
theorem dJ0_isLatin1_aae02_18 : decode cJ0_isLatin1_aae02 18 = .ok (.ireturn, 1) := by decide +kernel
theorem dJ0_checkIndex_df160_0 : decode cJ0_checkIndex_df160 0 = .ok (.iload_n 0, 1) := by decide +kernel
theorem dJ0_checkIndex_df160_1 : decode cJ0_checkIndex_df160 1 = .ok (.iload_n 1, 1) := by decide +kernel
theorem dJ0_checkIndex_df160_2 : decode cJ0_checkIndex_df160 2 = .ok (.getstatic 1053, 3) := by decide +kernel
theorem dJ0_checkIndex_df160_5 : decode cJ0_checkIndex_df160 5 = .ok (.invokestatic 1059, 3) := by decide +kernel
theorem dJ0_checkIndex_df160_8 : decode cJ0_checkIndex_df160 8 = .ok (.pop, 1) := by decide +kernel
theorem dJ0_checkIndex_df160_9 : decode cJ0_checkIndex_df160 9 = .ok (.return_, 1) := by decide +kernel
theorem dJ1_charAt_3b067_0 : decode cJ1_charAt_3b067 0 = .ok (.iload_n 1, 1) := by decide +kernel
theorem dJ1_charAt_3b067_1 : decode cJ1_charAt_3b067 1 = .ok (.aload_n 0, 1) := by decide +kernel
theorem dJ1_charAt_3b067_2 : decode cJ1_charAt_3b067 2 = .ok (.arraylength, 1) := by decide +kernel
theorem dJ1_charAt_3b067_3 : decode cJ1_charAt_3b067 3 = .ok (.invokestatic 9, 3) := by decide +kernel
theorem dJ1_charAt_3b067_6 : decode cJ1_charAt_3b067 6 = .ok (.aload_n 0, 1) := by decide +kernel
theorem dJ1_charAt_3b067_7 : decode cJ1_charAt_3b067 7 = .ok (.iload_n 1, 1) := by decide +kernel
theorem dJ1_charAt_3b067_8 : decode cJ1_charAt_3b067 8 = .ok (.baload, 1) := by decide +kernel
theorem dJ1_charAt_3b067_9 : decode cJ1_charAt_3b067 9 = .ok (.sipush 255, 3) := by decide +kernel
theorem dJ1_charAt_3b067_12 : decode cJ1_charAt_3b067 12 = .ok (.iand, 1) := by decide +kernel
theorem dJ1_charAt_3b067_13 : decode cJ1_charAt_3b067 13 = .ok (.i2c, 1) := by decide +kernel
theorem dJ1_charAt_3b067_14 : decode cJ1_charAt_3b067 14 = .ok (.ireturn, 1) := by decide +kernel
theorem dJ2_getChar_3b067_0 : decode cJ2_getChar_3b067 0 = .ok (.getstatic 44, 3) := by decide +kernel
theorem dJ2_getChar_3b067_3 : decode cJ2_getChar_3b067 3 = .ok (.ifCond .ne 25, 3) := by decide +kernel
theorem dJ2_getChar_3b067_6 : decode cJ2_getChar_3b067 6 = .ok (.iload_n 1, 1) := by decide +kernel
theorem dJ2_getChar_3b067_7 : decode cJ2_getChar_3b067 7 = .ok (.ifCond .lt 11, 3) := by decide +kernel
theorem dJ2_getChar_3b067_10 : decode cJ2_getChar_3b067 10 = .ok (.iload_n 1, 1) := by decide +kernel
theorem dJ2_getChar_3b067_11 : decode cJ2_getChar_3b067 11 = .ok (.aload_n 0, 1) := by decide +kernel
theorem dJ2_getChar_3b067_12 : decode cJ2_getChar_3b067 12 = .ok (.invokestatic 48, 3) := by decide +kernel
theorem dJ2_getChar_3b067_15 : decode cJ2_getChar_3b067 15 = .ok (.if_icmp .lt 13, 3) := by decide +kernel
theorem dJ2_getChar_3b067_18 : decode cJ2_getChar_3b067 18 = .ok (.new 52, 3) := by decide +kernel
theorem dJ2_getChar_3b067_21 : decode cJ2_getChar_3b067 21 = .ok (.dup, 1) := by decide +kernel
theorem dJ2_getChar_3b067_22 : decode cJ2_getChar_3b067 22 = .ok (.ldc 54, 2) := by decide +kernel
theorem dJ2_getChar_3b067_24 : decode cJ2_getChar_3b067 24 = .ok (.invokespecial 56, 3) := by decide +kernel
theorem dJ2_getChar_3b067_27 : decode cJ2_getChar_3b067 27 = .ok (.athrow, 1) := by decide +kernel
theorem dJ2_getChar_3b067_28 : decode cJ2_getChar_3b067 28 = .ok (.iload_n 1, 1) := by decide +kernel
theorem dJ2_getChar_3b067_29 : decode cJ2_getChar_3b067 29 = .ok (.iconst 1, 1) := by decide +kernel
theorem dJ2_getChar_3b067_30 : decode cJ2_getChar_3b067 30 = .ok (.ishl, 1) := by decide +kernel
theorem dJ2_getChar_3b067_31 : decode cJ2_getChar_3b067 31 = .ok (.istore_n 1, 1) := by decide +kernel
theorem dJ2_getChar_3b067_32 : decode cJ2_getChar_3b067 32 = .ok (.aload_n 0, 1) := by decide +kernel
theorem dJ2_getChar_3b067_33 : decode cJ2_getChar_3b067 33 = .ok (.iload_n 1, 1) := by decide +kernel
theorem dJ2_getChar_3b067_34 : decode cJ2_getChar_3b067 34 = .ok (.iinc 1 1, 3) := by decide +kernel
theorem dJ2_getChar_3b067_37 : decode cJ2_getChar_3b067 37 = .ok (.baload, 1) := by decide +kernel
theorem dJ2_getChar_3b067_38 : decode cJ2_getChar_3b067 38 = .ok (.sipush 255, 3) := by decide +kernel
theorem dJ2_getChar_3b067_41 : decode cJ2_getChar_3b067 41 = .ok (.iand, 1) := by decide +kernel
theorem dJ2_getChar_3b067_42 : decode cJ2_getChar_3b067 42 = .ok (.getstatic 59, 3) := by decide +kernel
theorem dJ2_getChar_3b067_45 : decode cJ2_getChar_3b067 45 = .ok (.ishl, 1) := by decide +kernel
theorem dJ2_getChar_3b067_46 : decode cJ2_getChar_3b067 46 = .ok (.aload_n 0, 1) := by decide +kernel
theorem dJ2_getChar_3b067_47 : decode cJ2_getChar_3b067 47 = .ok (.iload_n 1, 1) := by decide +kernel
theorem dJ2_getChar_3b067_48 : decode cJ2_getChar_3b067 48 = .ok (.baload, 1) := by decide +kernel
theorem dJ2_getChar_3b067_49 : decode cJ2_getChar_3b067 49 = .ok (.sipush 255, 3) := by decide +kernel
theorem dJ2_getChar_3b067_52 : decode cJ2_getChar_3b067 52 = .ok (.iand, 1) := by decide +kernel
theorem dJ2_getChar_3b067_53 : decode cJ2_getChar_3b067 53 = .ok (.getstatic 63, 3) := by decide +kernel
theorem dJ2_getChar_3b067_56 : decode cJ2_getChar_3b067 56 = .ok (.ishl, 1) := by decide +kernel
theorem dJ2_getChar_3b067_57 : decode cJ2_getChar_3b067 57 = .ok (.ior, 1) := by decide +kernel
theorem dJ2_getChar_3b067_58 : decode cJ2_getChar_3b067 58 = .ok (.i2c, 1) := by decide +kernel
theorem dJ2_getChar_3b067_59 : decode cJ2_getChar_3b067 59 = .ok (.ireturn, 1) := by decide +kernel
theorem dJ2_length_9d52b_0 : decode cJ2_length_9d52b 0 = .ok (.aload_n 0, 1) := by decide +kernel
theorem dJ2_length_9d52b_1 : decode cJ2_length_9d52b 1 = .ok (.arraylength, 1) := by decide +kernel
theorem dJ2_length_9d52b_2 : decode cJ2_length_9d52b 2 = .ok (.iconst 1, 1) := by decide +kernel
theorem dJ2_length_9d52b_3 : decode cJ2_length_9d52b 3 = .ok (.ishr, 1) := by decide +kernel
theorem dJ2_length_9d52b_4 : decode cJ2_length_9d52b 4 = .ok (.ireturn, 1) := by decide +kernel
theorem dJ2_charAt_3b067_0 : decode cJ2_charAt_3b067 0 = .ok (.iload_n 1, 1) := by decide +kernel
theorem dJ2_charAt_3b067_1 : decode cJ2_charAt_3b067 1 = .ok (.aload_n 0, 1) := by decide +kernel
theorem dJ2_charAt_3b067_2 : decode cJ2_charAt_3b067 2 = .ok (.invokestatic 67, 3) := by decide +kernel
theorem dJ2_charAt_3b067_5 : decode cJ2_charAt_3b067 5 = .ok (.aload_n 0, 1) := by decide +kernel
theorem dJ2_charAt_3b067_6 : decode cJ2_charAt_3b067 6 = .ok (.iload_n 1, 1) := by decide +kernel
theorem dJ2_charAt_3b067_7 : decode cJ2_charAt_3b067 7 = .ok (.invokestatic 71, 3) := by decide +kernel
theorem dJ2_charAt_3b067_10 : decode cJ2_charAt_3b067 10 = .ok (.ireturn, 1) := by decide +kernel
theorem dJ2_checkIndex_2214a_0 : decode cJ2_checkIndex_2214a 0 = .ok (.iload_n 0, 1) := by decide +kernel
theorem dJ2_checkIndex_2214a_1 : decode cJ2_checkIndex_2214a 1 = .ok (.aload_n 1, 1) := by decide +kernel
theorem dJ2_checkIndex_2214a_2 : decode cJ2_checkIndex_2214a 2 = .ok (.invokestatic 48, 3) := by decide +kernel
theorem dJ2_checkIndex_2214a_5 : decode cJ2_checkIndex_2214a 5 = .ok (.invokestatic 414, 3) := by decide +kernel
theorem dJ2_checkIndex_2214a_8 : decode cJ2_checkIndex_2214a 8 = .ok (.return_, 1) := by decide +kernel
theorem dJ3_checkIndex_8e157_0 : decode cJ3_checkIndex_8e157 0 = .ok (.iload_n 0, 1) := by decide +kernel
theorem dJ3_checkIndex_8e157_1 : decode cJ3_checkIndex_8e157 1 = .ok (.ifCond .lt 8, 3) := by decide +kernel
theorem dJ3_checkIndex_8e157_4 : decode cJ3_checkIndex_8e157 4 = .ok (.iload_n 0, 1) := by decide +kernel
theorem dJ3_checkIndex_8e157_5 : decode cJ3_checkIndex_8e157 5 = .ok (.iload_n 1, 1) := by decide +kernel
theorem dJ3_checkIndex_8e157_6 : decode cJ3_checkIndex_8e157 6 = .ok (.if_icmp .lt 10, 3) := by decide +kernel
theorem dJ3_checkIndex_8e157_9 : decode cJ3_checkIndex_8e157 9 = .ok (.aload_n 2, 1) := by decide +kernel
theorem dJ3_checkIndex_8e157_10 : decode cJ3_checkIndex_8e157 10 = .ok (.iload_n 0, 1) := by decide +kernel
theorem dJ3_checkIndex_8e157_11 : decode cJ3_checkIndex_8e157 11 = .ok (.iload_n 1, 1) := by decide +kernel
theorem dJ3_checkIndex_8e157_12 : decode cJ3_checkIndex_8e157 12 = .ok (.invokestatic 95, 3) := by decide +kernel
theorem dJ3_checkIndex_8e157_15 : decode cJ3_checkIndex_8e157 15 = .ok (.athrow, 1) := by decide +kernel
theorem dJ3_checkIndex_8e157_16 : decode cJ3_checkIndex_8e157 16 = .ok (.iload_n 0, 1) := by decide +kernel
theorem dJ3_checkIndex_8e157_17 : decode cJ3_checkIndex_8e157 17 = .ok (.ireturn, 1) := by decide +kernel
theorem dL_law_0 : decode cL_law 0 = .ok (.new 7, 3) := by decide +kernel
theorem dL_law_3 : decode cL_law 3 = .ok (.dup, 1) := by decide +kernel
theorem dL_law_4 : decode cL_law 4 = .ok (.invokespecial 9, 3) := by decide +kernel
theorem dL_law_7 : decode cL_law 7 = .ok (.astore_n 1, 1) := by decide +kernel
theorem dL_law_8 : decode cL_law 8 = .ok (.new 10, 3) := by decide +kernel
theorem dL_law_11 : decode cL_law 11 = .ok (.dup, 1) := by decide +kernel
theorem dL_law_12 : decode cL_law 12 = .ok (.invokespecial 12, 3) := by decide +kernel
theorem dL_law_15 : decode cL_law 15 = .ok (.astore_n 2, 1) := by decide +kernel
theorem dL_law_16 : decode cL_law 16 = .ok (.iconst 0, 1) := by decide +kernel
theorem dL_law_17 : decode cL_law 17 = .ok (.istore_n 3, 1) := by decide +kernel
theorem dL_law_18 : decode cL_law 18 = .ok (.iload_n 3, 1) := by decide +kernel
theorem dL_law_19 : decode cL_law 19 = .ok (.aload_n 0, 1) := by decide +kernel
theorem dL_law_20 : decode cL_law 20 = .ok (.arraylength, 1) := by decide +kernel
theorem dL_law_21 : decode cL_law 21 = .ok (.bipush 8, 2) := by decide +kernel
theorem dL_law_23 : decode cL_law 23 = .ok (.isub, 1) := by decide +kernel
theorem dL_law_24 : decode cL_law 24 = .ok (.if_icmp .gt 1573, 3) := by decide +kernel
theorem dL_law_27 : decode cL_law 27 = .ok (.aload_n 0, 1) := by decide +kernel
theorem dL_law_28 : decode cL_law 28 = .ok (.iload_n 3, 1) := by decide +kernel
theorem dL_law_29 : decode cL_law 29 = .ok (.iaload, 1) := by decide +kernel
theorem dL_law_30 : decode cL_law 30 = .ok (.bipush 63, 2) := by decide +kernel
theorem dL_law_32 : decode cL_law 32 = .ok (.iand, 1) := by decide +kernel
theorem dL_law_33 : decode cL_law 33 = .ok (.tableswitch 1558 0 34 #[155, 188, 279, 322, 355, 418, 431, 454, 477, 500, 533, 566, 599, 686, 709, 732, 755, 788, 811, 864, 897, 940, 1003, 1078, 1131, 1164, 1197, 1284, 1327, 1350, 1393, 1446, 1479, 1492, 1535], 155) := by decide +kernel
theorem dL_law_188 : decode cL_law 188 = .ok (.aload_n 1, 1) := by decide +kernel
theorem dL_law_189 : decode cL_law 189 = .ok (.aload_n 0, 1) := by decide +kernel
theorem dL_law_190 : decode cL_law 190 = .ok (.iload_n 3, 1) := by decide +kernel
theorem dL_law_191 : decode cL_law 191 = .ok (.iconst 1, 1) := by decide +kernel
theorem dL_law_192 : decode cL_law 192 = .ok (.iadd, 1) := by decide +kernel
theorem dL_law_193 : decode cL_law 193 = .ok (.iaload, 1) := by decide +kernel
theorem dL_law_194 : decode cL_law 194 = .ok (.aload_n 0, 1) := by decide +kernel
theorem dL_law_195 : decode cL_law 195 = .ok (.iload_n 3, 1) := by decide +kernel
theorem dL_law_196 : decode cL_law 196 = .ok (.iconst 2, 1) := by decide +kernel
theorem dL_law_197 : decode cL_law 197 = .ok (.iadd, 1) := by decide +kernel
theorem dL_law_198 : decode cL_law 198 = .ok (.iaload, 1) := by decide +kernel
theorem dL_law_199 : decode cL_law 199 = .ok (.invokevirtual 13, 3) := by decide +kernel
theorem dL_law_202 : decode cL_law 202 = .ok (.aload_n 2, 1) := by decide +kernel
theorem dL_law_203 : decode cL_law 203 = .ok (.aload_n 0, 1) := by decide +kernel
theorem dL_law_204 : decode cL_law 204 = .ok (.iload_n 3, 1) := by decide +kernel
theorem dL_law_205 : decode cL_law 205 = .ok (.iconst 1, 1) := by decide +kernel
theorem dL_law_206 : decode cL_law 206 = .ok (.iadd, 1) := by decide +kernel
theorem dL_law_207 : decode cL_law 207 = .ok (.iaload, 1) := by decide +kernel
theorem dL_law_208 : decode cL_law 208 = .ok (.aload_n 0, 1) := by decide +kernel
theorem dL_law_209 : decode cL_law 209 = .ok (.iload_n 3, 1) := by decide +kernel
theorem dL_law_210 : decode cL_law 210 = .ok (.iconst 2, 1) := by decide +kernel
theorem dL_law_211 : decode cL_law 211 = .ok (.iadd, 1) := by decide +kernel
theorem dL_law_212 : decode cL_law 212 = .ok (.iaload, 1) := by decide +kernel
theorem dL_law_213 : decode cL_law 213 = .ok (.invokevirtual 17, 3) := by decide +kernel
theorem dL_law_216 : decode cL_law 216 = .ok (.if_icmp .eq 1375, 3) := by decide +kernel
theorem dL_law_219 : decode cL_law 219 = .ok (.iconst 0, 1) := by decide +kernel
theorem dL_law_220 : decode cL_law 220 = .ok (.ireturn, 1) := by decide +kernel
theorem dL_law_221 : decode cL_law 221 = .ok (.aload_n 1, 1) := by decide +kernel
theorem dL_law_222 : decode cL_law 222 = .ok (.aload_n 0, 1) := by decide +kernel
theorem dL_law_223 : decode cL_law 223 = .ok (.iload_n 3, 1) := by decide +kernel
theorem dL_law_224 : decode cL_law 224 = .ok (.iconst 1, 1) := by decide +kernel
theorem dL_law_225 : decode cL_law 225 = .ok (.iadd, 1) := by decide +kernel
theorem dL_law_226 : decode cL_law 226 = .ok (.iaload, 1) := by decide +kernel
theorem dL_law_227 : decode cL_law 227 = .ok (.aload_n 0, 1) := by decide +kernel
theorem dL_law_228 : decode cL_law 228 = .ok (.iload_n 3, 1) := by decide +kernel
theorem dL_law_229 : decode cL_law 229 = .ok (.iconst 2, 1) := by decide +kernel
theorem dL_law_230 : decode cL_law 230 = .ok (.iadd, 1) := by decide +kernel
theorem dL_law_231 : decode cL_law 231 = .ok (.iaload, 1) := by decide +kernel
theorem dL_law_232 : decode cL_law 232 = .ok (.aload_n 0, 1) := by decide +kernel
theorem dL_law_233 : decode cL_law 233 = .ok (.iload_n 3, 1) := by decide +kernel
theorem dL_law_234 : decode cL_law 234 = .ok (.iconst 3, 1) := by decide +kernel
theorem dL_law_235 : decode cL_law 235 = .ok (.iadd, 1) := by decide +kernel
theorem dL_law_236 : decode cL_law 236 = .ok (.iaload, 1) := by decide +kernel
theorem dL_law_237 : decode cL_law 237 = .ok (.aload_n 0, 1) := by decide +kernel
theorem dL_law_238 : decode cL_law 238 = .ok (.iload_n 3, 1) := by decide +kernel
theorem dL_law_239 : decode cL_law 239 = .ok (.iconst 4, 1) := by decide +kernel
theorem dL_law_240 : decode cL_law 240 = .ok (.iadd, 1) := by decide +kernel
theorem dL_law_241 : decode cL_law 241 = .ok (.iaload, 1) := by decide +kernel
theorem dL_law_242 : decode cL_law 242 = .ok (.aload_n 0, 1) := by decide +kernel
theorem dL_law_243 : decode cL_law 243 = .ok (.iload_n 3, 1) := by decide +kernel
theorem dL_law_244 : decode cL_law 244 = .ok (.iconst 5, 1) := by decide +kernel
theorem dL_law_245 : decode cL_law 245 = .ok (.iadd, 1) := by decide +kernel
theorem dL_law_246 : decode cL_law 246 = .ok (.iaload, 1) := by decide +kernel
theorem dL_law_247 : decode cL_law 247 = .ok (.aload_n 0, 1) := by decide +kernel
theorem dL_law_248 : decode cL_law 248 = .ok (.iload_n 3, 1) := by decide +kernel
theorem dL_law_249 : decode cL_law 249 = .ok (.bipush 6, 2) := by decide +kernel
theorem dL_law_251 : decode cL_law 251 = .ok (.iadd, 1) := by decide +kernel
theorem dL_law_252 : decode cL_law 252 = .ok (.iaload, 1) := by decide +kernel
theorem dL_law_253 : decode cL_law 253 = .ok (.ifCond .eq 7, 3) := by decide +kernel
theorem dL_law_256 : decode cL_law 256 = .ok (.iconst 1, 1) := by decide +kernel
theorem dL_law_257 : decode cL_law 257 = .ok (.goto 4, 3) := by decide +kernel
theorem dL_law_260 : decode cL_law 260 = .ok (.iconst 0, 1) := by decide +kernel
theorem dL_law_261 : decode cL_law 261 = .ok (.invokevirtual 18, 3) := by decide +kernel
theorem dL_law_264 : decode cL_law 264 = .ok (.aload_n 2, 1) := by decide +kernel
theorem dL_law_265 : decode cL_law 265 = .ok (.aload_n 0, 1) := by decide +kernel
theorem dL_law_266 : decode cL_law 266 = .ok (.iload_n 3, 1) := by decide +kernel
theorem dL_law_267 : decode cL_law 267 = .ok (.iconst 1, 1) := by decide +kernel
theorem dL_law_268 : decode cL_law 268 = .ok (.iadd, 1) := by decide +kernel
theorem dL_law_269 : decode cL_law 269 = .ok (.iaload, 1) := by decide +kernel
theorem dL_law_270 : decode cL_law 270 = .ok (.aload_n 0, 1) := by decide +kernel
theorem dL_law_271 : decode cL_law 271 = .ok (.iload_n 3, 1) := by decide +kernel
theorem dL_law_272 : decode cL_law 272 = .ok (.iconst 2, 1) := by decide +kernel
theorem dL_law_273 : decode cL_law 273 = .ok (.iadd, 1) := by decide +kernel
end
section
theorem dL_law_274 : decode cL_law 274 = .ok (.iaload, 1) := by decide +kernel
theorem dL_law_275 : decode cL_law 275 = .ok (.aload_n 0, 1) := by decide +kernel
theorem dL_law_276 : decode cL_law 276 = .ok (.iload_n 3, 1) := by decide +kernel
theorem dL_law_277 : decode cL_law 277 = .ok (.iconst 3, 1) := by decide +kernel
theorem dL_law_278 : decode cL_law 278 = .ok (.iadd, 1) := by decide +kernel
theorem dL_law_279 : decode cL_law 279 = .ok (.iaload, 1) := by decide +kernel
theorem dL_law_280 : decode cL_law 280 = .ok (.aload_n 0, 1) := by decide +kernel
theorem dL_law_281 : decode cL_law 281 = .ok (.iload_n 3, 1) := by decide +kernel
theorem dL_law_282 : decode cL_law 282 = .ok (.iconst 4, 1) := by decide +kernel
theorem dL_law_283 : decode cL_law 283 = .ok (.iadd, 1) := by decide +kernel
theorem dL_law_284 : decode cL_law 284 = .ok (.iaload, 1) := by decide +kernel
theorem dL_law_285 : decode cL_law 285 = .ok (.aload_n 0, 1) := by decide +kernel
theorem dL_law_286 : decode cL_law 286 = .ok (.iload_n 3, 1) := by decide +kernel
theorem dL_law_287 : decode cL_law 287 = .ok (.iconst 5, 1) := by decide +kernel
theorem dL_law_288 : decode cL_law 288 = .ok (.iadd, 1) := by decide +kernel
theorem dL_law_289 : decode cL_law 289 = .ok (.iaload, 1) := by decide +kernel
theorem dL_law_290 : decode cL_law 290 = .ok (.aload_n 0, 1) := by decide +kernel
theorem dL_law_291 : decode cL_law 291 = .ok (.iload_n 3, 1) := by decide +kernel
theorem dL_law_292 : decode cL_law 292 = .ok (.bipush 6, 2) := by decide +kernel
theorem dL_law_294 : decode cL_law 294 = .ok (.iadd, 1) := by decide +kernel
theorem dL_law_295 : decode cL_law 295 = .ok (.iaload, 1) := by decide +kernel
theorem dL_law_296 : decode cL_law 296 = .ok (.ifCond .eq 7, 3) := by decide +kernel
theorem dL_law_299 : decode cL_law 299 = .ok (.iconst 1, 1) := by decide +kernel
theorem dL_law_300 : decode cL_law 300 = .ok (.goto 4, 3) := by decide +kernel
theorem dL_law_303 : decode cL_law 303 = .ok (.iconst 0, 1) := by decide +kernel
theorem dL_law_304 : decode cL_law 304 = .ok (.invokevirtual 22, 3) := by decide +kernel
theorem dL_law_307 : decode cL_law 307 = .ok (.if_icmp .eq 1284, 3) := by decide +kernel
theorem dL_law_310 : decode cL_law 310 = .ok (.iconst 0, 1) := by decide +kernel
theorem dL_law_311 : decode cL_law 311 = .ok (.ireturn, 1) := by decide +kernel
theorem dL_law_312 : decode cL_law 312 = .ok (.aload_n 1, 1) := by decide +kernel
theorem dL_law_313 : decode cL_law 313 = .ok (.aload_n 0, 1) := by decide +kernel
theorem dL_law_314 : decode cL_law 314 = .ok (.iload_n 3, 1) := by decide +kernel
theorem dL_law_315 : decode cL_law 315 = .ok (.iconst 1, 1) := by decide +kernel
theorem dL_law_316 : decode cL_law 316 = .ok (.iadd, 1) := by decide +kernel
theorem dL_law_317 : decode cL_law 317 = .ok (.iaload, 1) := by decide +kernel
theorem dL_law_318 : decode cL_law 318 = .ok (.aload_n 0, 1) := by decide +kernel
theorem dL_law_319 : decode cL_law 319 = .ok (.iload_n 3, 1) := by decide +kernel
theorem dL_law_320 : decode cL_law 320 = .ok (.iconst 2, 1) := by decide +kernel
theorem dL_law_321 : decode cL_law 321 = .ok (.iadd, 1) := by decide +kernel
theorem dL_law_322 : decode cL_law 322 = .ok (.iaload, 1) := by decide +kernel
theorem dL_law_323 : decode cL_law 323 = .ok (.aload_n 0, 1) := by decide +kernel
theorem dL_law_324 : decode cL_law 324 = .ok (.iload_n 3, 1) := by decide +kernel
theorem dL_law_325 : decode cL_law 325 = .ok (.iconst 3, 1) := by decide +kernel
theorem dL_law_326 : decode cL_law 326 = .ok (.iadd, 1) := by decide +kernel
theorem dL_law_327 : decode cL_law 327 = .ok (.iaload, 1) := by decide +kernel
theorem dL_law_328 : decode cL_law 328 = .ok (.invokevirtual 23, 3) := by decide +kernel
theorem dL_law_331 : decode cL_law 331 = .ok (.aload_n 2, 1) := by decide +kernel
theorem dL_law_332 : decode cL_law 332 = .ok (.aload_n 0, 1) := by decide +kernel
theorem dL_law_333 : decode cL_law 333 = .ok (.iload_n 3, 1) := by decide +kernel
theorem dL_law_334 : decode cL_law 334 = .ok (.iconst 1, 1) := by decide +kernel
theorem dL_law_335 : decode cL_law 335 = .ok (.iadd, 1) := by decide +kernel
theorem dL_law_336 : decode cL_law 336 = .ok (.iaload, 1) := by decide +kernel
theorem dL_law_337 : decode cL_law 337 = .ok (.aload_n 0, 1) := by decide +kernel
theorem dL_law_338 : decode cL_law 338 = .ok (.iload_n 3, 1) := by decide +kernel
theorem dL_law_339 : decode cL_law 339 = .ok (.iconst 2, 1) := by decide +kernel
theorem dL_law_340 : decode cL_law 340 = .ok (.iadd, 1) := by decide +kernel
theorem dL_law_341 : decode cL_law 341 = .ok (.iaload, 1) := by decide +kernel
theorem dL_law_342 : decode cL_law 342 = .ok (.aload_n 0, 1) := by decide +kernel
theorem dL_law_343 : decode cL_law 343 = .ok (.iload_n 3, 1) := by decide +kernel
theorem dL_law_344 : decode cL_law 344 = .ok (.iconst 3, 1) := by decide +kernel
theorem dL_law_345 : decode cL_law 345 = .ok (.iadd, 1) := by decide +kernel
theorem dL_law_346 : decode cL_law 346 = .ok (.iaload, 1) := by decide +kernel
theorem dL_law_347 : decode cL_law 347 = .ok (.invokevirtual 27, 3) := by decide +kernel
theorem dL_law_350 : decode cL_law 350 = .ok (.if_icmp .eq 1241, 3) := by decide +kernel
theorem dL_law_353 : decode cL_law 353 = .ok (.iconst 0, 1) := by decide +kernel
theorem dL_law_354 : decode cL_law 354 = .ok (.ireturn, 1) := by decide +kernel
theorem dL_law_355 : decode cL_law 355 = .ok (.aload_n 1, 1) := by decide +kernel
theorem dL_law_356 : decode cL_law 356 = .ok (.aload_n 0, 1) := by decide +kernel
theorem dL_law_357 : decode cL_law 357 = .ok (.iload_n 3, 1) := by decide +kernel
theorem dL_law_358 : decode cL_law 358 = .ok (.iconst 1, 1) := by decide +kernel
theorem dL_law_359 : decode cL_law 359 = .ok (.iadd, 1) := by decide +kernel
theorem dL_law_360 : decode cL_law 360 = .ok (.iaload, 1) := by decide +kernel
theorem dL_law_361 : decode cL_law 361 = .ok (.aload_n 0, 1) := by decide +kernel
theorem dL_law_362 : decode cL_law 362 = .ok (.iload_n 3, 1) := by decide +kernel
theorem dL_law_363 : decode cL_law 363 = .ok (.iconst 2, 1) := by decide +kernel
theorem dL_law_364 : decode cL_law 364 = .ok (.iadd, 1) := by decide +kernel
theorem dL_law_365 : decode cL_law 365 = .ok (.iaload, 1) := by decide +kernel
theorem dL_law_366 : decode cL_law 366 = .ok (.invokevirtual 28, 3) := by decide +kernel
theorem dL_law_369 : decode cL_law 369 = .ok (.aload_n 2, 1) := by decide +kernel
theorem dL_law_370 : decode cL_law 370 = .ok (.aload_n 0, 1) := by decide +kernel
theorem dL_law_371 : decode cL_law 371 = .ok (.iload_n 3, 1) := by decide +kernel
theorem dL_law_372 : decode cL_law 372 = .ok (.iconst 1, 1) := by decide +kernel
theorem dL_law_373 : decode cL_law 373 = .ok (.iadd, 1) := by decide +kernel
theorem dL_law_374 : decode cL_law 374 = .ok (.iaload, 1) := by decide +kernel
theorem dL_law_375 : decode cL_law 375 = .ok (.aload_n 0, 1) := by decide +kernel
theorem dL_law_376 : decode cL_law 376 = .ok (.iload_n 3, 1) := by decide +kernel
theorem dL_law_377 : decode cL_law 377 = .ok (.iconst 2, 1) := by decide +kernel
theorem dL_law_378 : decode cL_law 378 = .ok (.iadd, 1) := by decide +kernel
theorem dL_law_379 : decode cL_law 379 = .ok (.iaload, 1) := by decide +kernel
theorem dL_law_380 : decode cL_law 380 = .ok (.invokevirtual 31, 3) := by decide +kernel
theorem dL_law_383 : decode cL_law 383 = .ok (.if_icmp .eq 1208, 3) := by decide +kernel
theorem dL_law_386 : decode cL_law 386 = .ok (.iconst 0, 1) := by decide +kernel
theorem dL_law_387 : decode cL_law 387 = .ok (.ireturn, 1) := by decide +kernel
theorem dL_law_388 : decode cL_law 388 = .ok (.aload_n 1, 1) := by decide +kernel
theorem dL_law_389 : decode cL_law 389 = .ok (.aload_n 0, 1) := by decide +kernel
theorem dL_law_390 : decode cL_law 390 = .ok (.iload_n 3, 1) := by decide +kernel
theorem dL_law_391 : decode cL_law 391 = .ok (.iconst 1, 1) := by decide +kernel
theorem dL_law_392 : decode cL_law 392 = .ok (.iadd, 1) := by decide +kernel
theorem dL_law_393 : decode cL_law 393 = .ok (.iaload, 1) := by decide +kernel
theorem dL_law_394 : decode cL_law 394 = .ok (.i2l, 1) := by decide +kernel
theorem dL_law_395 : decode cL_law 395 = .ok (.bipush 32, 2) := by decide +kernel
theorem dL_law_397 : decode cL_law 397 = .ok (.lshl, 1) := by decide +kernel
theorem dL_law_398 : decode cL_law 398 = .ok (.aload_n 0, 1) := by decide +kernel
theorem dL_law_399 : decode cL_law 399 = .ok (.iload_n 3, 1) := by decide +kernel
theorem dL_law_400 : decode cL_law 400 = .ok (.iconst 2, 1) := by decide +kernel
theorem dL_law_401 : decode cL_law 401 = .ok (.iadd, 1) := by decide +kernel
theorem dL_law_402 : decode cL_law 402 = .ok (.iaload, 1) := by decide +kernel
theorem dL_law_403 : decode cL_law 403 = .ok (.i2l, 1) := by decide +kernel
theorem dL_law_404 : decode cL_law 404 = .ok (.ldc2_w 32, 3) := by decide +kernel
theorem dL_law_407 : decode cL_law 407 = .ok (.land, 1) := by decide +kernel
theorem dL_law_408 : decode cL_law 408 = .ok (.lor, 1) := by decide +kernel
theorem dL_law_409 : decode cL_law 409 = .ok (.aload_n 0, 1) := by decide +kernel
theorem dL_law_410 : decode cL_law 410 = .ok (.iload_n 3, 1) := by decide +kernel
theorem dL_law_411 : decode cL_law 411 = .ok (.iconst 3, 1) := by decide +kernel
theorem dL_law_412 : decode cL_law 412 = .ok (.iadd, 1) := by decide +kernel
theorem dL_law_413 : decode cL_law 413 = .ok (.iaload, 1) := by decide +kernel
theorem dL_law_414 : decode cL_law 414 = .ok (.invokevirtual 34, 3) := by decide +kernel
theorem dL_law_417 : decode cL_law 417 = .ok (.aload_n 2, 1) := by decide +kernel
theorem dL_law_418 : decode cL_law 418 = .ok (.aload_n 0, 1) := by decide +kernel
theorem dL_law_419 : decode cL_law 419 = .ok (.iload_n 3, 1) := by decide +kernel
theorem dL_law_420 : decode cL_law 420 = .ok (.iconst 1, 1) := by decide +kernel
theorem dL_law_421 : decode cL_law 421 = .ok (.iadd, 1) := by decide +kernel
theorem dL_law_422 : decode cL_law 422 = .ok (.iaload, 1) := by decide +kernel
theorem dL_law_423 : decode cL_law 423 = .ok (.i2l, 1) := by decide +kernel
theorem dL_law_424 : decode cL_law 424 = .ok (.bipush 32, 2) := by decide +kernel
theorem dL_law_426 : decode cL_law 426 = .ok (.lshl, 1) := by decide +kernel
theorem dL_law_427 : decode cL_law 427 = .ok (.aload_n 0, 1) := by decide +kernel
theorem dL_law_428 : decode cL_law 428 = .ok (.iload_n 3, 1) := by decide +kernel
theorem dL_law_429 : decode cL_law 429 = .ok (.iconst 2, 1) := by decide +kernel
theorem dL_law_430 : decode cL_law 430 = .ok (.iadd, 1) := by decide +kernel
theorem dL_law_431 : decode cL_law 431 = .ok (.iaload, 1) := by decide +kernel
theorem dL_law_432 : decode cL_law 432 = .ok (.i2l, 1) := by decide +kernel
theorem dL_law_433 : decode cL_law 433 = .ok (.ldc2_w 32, 3) := by decide +kernel
theorem dL_law_436 : decode cL_law 436 = .ok (.land, 1) := by decide +kernel
theorem dL_law_437 : decode cL_law 437 = .ok (.lor, 1) := by decide +kernel
theorem dL_law_438 : decode cL_law 438 = .ok (.aload_n 0, 1) := by decide +kernel
theorem dL_law_439 : decode cL_law 439 = .ok (.iload_n 3, 1) := by decide +kernel
theorem dL_law_440 : decode cL_law 440 = .ok (.iconst 3, 1) := by decide +kernel
theorem dL_law_441 : decode cL_law 441 = .ok (.iadd, 1) := by decide +kernel
theorem dL_law_442 : decode cL_law 442 = .ok (.iaload, 1) := by decide +kernel
theorem dL_law_443 : decode cL_law 443 = .ok (.invokevirtual 38, 3) := by decide +kernel
theorem dL_law_446 : decode cL_law 446 = .ok (.if_icmp .eq 1145, 3) := by decide +kernel
theorem dL_law_449 : decode cL_law 449 = .ok (.iconst 0, 1) := by decide +kernel
theorem dL_law_450 : decode cL_law 450 = .ok (.ireturn, 1) := by decide +kernel
theorem dL_law_451 : decode cL_law 451 = .ok (.aload_n 1, 1) := by decide +kernel
theorem dL_law_452 : decode cL_law 452 = .ok (.invokevirtual 39, 3) := by decide +kernel
theorem dL_law_455 : decode cL_law 455 = .ok (.aload_n 2, 1) := by decide +kernel
theorem dL_law_456 : decode cL_law 456 = .ok (.invokevirtual 43, 3) := by decide +kernel
theorem dL_law_459 : decode cL_law 459 = .ok (.if_icmp .eq 1132, 3) := by decide +kernel
theorem dL_law_462 : decode cL_law 462 = .ok (.iconst 0, 1) := by decide +kernel
theorem dL_law_463 : decode cL_law 463 = .ok (.ireturn, 1) := by decide +kernel
theorem dL_law_464 : decode cL_law 464 = .ok (.aload_n 1, 1) := by decide +kernel
theorem dL_law_465 : decode cL_law 465 = .ok (.aload_n 0, 1) := by decide +kernel
theorem dL_law_466 : decode cL_law 466 = .ok (.iload_n 3, 1) := by decide +kernel
theorem dL_law_467 : decode cL_law 467 = .ok (.iconst 1, 1) := by decide +kernel
theorem dL_law_468 : decode cL_law 468 = .ok (.iadd, 1) := by decide +kernel
theorem dL_law_469 : decode cL_law 469 = .ok (.iaload, 1) := by decide +kernel
theorem dL_law_470 : decode cL_law 470 = .ok (.invokevirtual 44, 3) := by decide +kernel
theorem dL_law_473 : decode cL_law 473 = .ok (.aload_n 2, 1) := by decide +kernel
theorem dL_law_474 : decode cL_law 474 = .ok (.aload_n 0, 1) := by decide +kernel
theorem dL_law_475 : decode cL_law 475 = .ok (.iload_n 3, 1) := by decide +kernel
theorem dL_law_476 : decode cL_law 476 = .ok (.iconst 1, 1) := by decide +kernel
theorem dL_law_477 : decode cL_law 477 = .ok (.iadd, 1) := by decide +kernel
theorem dL_law_478 : decode cL_law 478 = .ok (.iaload, 1) := by decide +kernel
theorem dL_law_479 : decode cL_law 479 = .ok (.invokevirtual 48, 3) := by decide +kernel
theorem dL_law_482 : decode cL_law 482 = .ok (.if_icmp .eq 1109, 3) := by decide +kernel
theorem dL_law_485 : decode cL_law 485 = .ok (.iconst 0, 1) := by decide +kernel
theorem dL_law_486 : decode cL_law 486 = .ok (.ireturn, 1) := by decide +kernel
theorem dL_law_487 : decode cL_law 487 = .ok (.aload_n 1, 1) := by decide +kernel
theorem dL_law_488 : decode cL_law 488 = .ok (.aload_n 0, 1) := by decide +kernel
theorem dL_law_489 : decode cL_law 489 = .ok (.iload_n 3, 1) := by decide +kernel
theorem dL_law_490 : decode cL_law 490 = .ok (.iconst 1, 1) := by decide +kernel
theorem dL_law_491 : decode cL_law 491 = .ok (.iadd, 1) := by decide +kernel
theorem dL_law_492 : decode cL_law 492 = .ok (.iaload, 1) := by decide +kernel
theorem dL_law_493 : decode cL_law 493 = .ok (.invokevirtual 49, 3) := by decide +kernel
theorem dL_law_496 : decode cL_law 496 = .ok (.aload_n 2, 1) := by decide +kernel
theorem dL_law_497 : decode cL_law 497 = .ok (.aload_n 0, 1) := by decide +kernel
theorem dL_law_498 : decode cL_law 498 = .ok (.iload_n 3, 1) := by decide +kernel
theorem dL_law_499 : decode cL_law 499 = .ok (.iconst 1, 1) := by decide +kernel
theorem dL_law_500 : decode cL_law 500 = .ok (.iadd, 1) := by decide +kernel
theorem dL_law_501 : decode cL_law 501 = .ok (.iaload, 1) := by decide +kernel
theorem dL_law_502 : decode cL_law 502 = .ok (.invokevirtual 52, 3) := by decide +kernel
theorem dL_law_505 : decode cL_law 505 = .ok (.if_icmp .eq 1086, 3) := by decide +kernel
theorem dL_law_508 : decode cL_law 508 = .ok (.iconst 0, 1) := by decide +kernel
theorem dL_law_509 : decode cL_law 509 = .ok (.ireturn, 1) := by decide +kernel
theorem dL_law_510 : decode cL_law 510 = .ok (.aload_n 1, 1) := by decide +kernel
theorem dL_law_511 : decode cL_law 511 = .ok (.aload_n 0, 1) := by decide +kernel
theorem dL_law_512 : decode cL_law 512 = .ok (.iload_n 3, 1) := by decide +kernel
theorem dL_law_513 : decode cL_law 513 = .ok (.iconst 1, 1) := by decide +kernel
theorem dL_law_514 : decode cL_law 514 = .ok (.iadd, 1) := by decide +kernel
theorem dL_law_515 : decode cL_law 515 = .ok (.iaload, 1) := by decide +kernel
theorem dL_law_516 : decode cL_law 516 = .ok (.invokevirtual 53, 3) := by decide +kernel
theorem dL_law_519 : decode cL_law 519 = .ok (.aload_n 2, 1) := by decide +kernel
theorem dL_law_520 : decode cL_law 520 = .ok (.aload_n 0, 1) := by decide +kernel
theorem dL_law_521 : decode cL_law 521 = .ok (.iload_n 3, 1) := by decide +kernel
theorem dL_law_522 : decode cL_law 522 = .ok (.iconst 1, 1) := by decide +kernel
theorem dL_law_523 : decode cL_law 523 = .ok (.iadd, 1) := by decide +kernel
theorem dL_law_524 : decode cL_law 524 = .ok (.iaload, 1) := by decide +kernel
theorem dL_law_525 : decode cL_law 525 = .ok (.invokevirtual 56, 3) := by decide +kernel
theorem dL_law_528 : decode cL_law 528 = .ok (.if_icmp .eq 1063, 3) := by decide +kernel
theorem dL_law_531 : decode cL_law 531 = .ok (.iconst 0, 1) := by decide +kernel
theorem dL_law_532 : decode cL_law 532 = .ok (.ireturn, 1) := by decide +kernel
theorem dL_law_533 : decode cL_law 533 = .ok (.aload_n 1, 1) := by decide +kernel
theorem dL_law_534 : decode cL_law 534 = .ok (.aload_n 0, 1) := by decide +kernel
theorem dL_law_535 : decode cL_law 535 = .ok (.iload_n 3, 1) := by decide +kernel
theorem dL_law_536 : decode cL_law 536 = .ok (.iconst 1, 1) := by decide +kernel
theorem dL_law_537 : decode cL_law 537 = .ok (.iadd, 1) := by decide +kernel
theorem dL_law_538 : decode cL_law 538 = .ok (.iaload, 1) := by decide +kernel
theorem dL_law_539 : decode cL_law 539 = .ok (.aload_n 0, 1) := by decide +kernel
theorem dL_law_540 : decode cL_law 540 = .ok (.iload_n 3, 1) := by decide +kernel
theorem dL_law_541 : decode cL_law 541 = .ok (.iconst 2, 1) := by decide +kernel
theorem dL_law_542 : decode cL_law 542 = .ok (.iadd, 1) := by decide +kernel
theorem dL_law_543 : decode cL_law 543 = .ok (.iaload, 1) := by decide +kernel
theorem dL_law_544 : decode cL_law 544 = .ok (.invokevirtual 57, 3) := by decide +kernel
theorem dL_law_547 : decode cL_law 547 = .ok (.aload_n 2, 1) := by decide +kernel
theorem dL_law_548 : decode cL_law 548 = .ok (.aload_n 0, 1) := by decide +kernel
theorem dL_law_549 : decode cL_law 549 = .ok (.iload_n 3, 1) := by decide +kernel
theorem dL_law_550 : decode cL_law 550 = .ok (.iconst 1, 1) := by decide +kernel
theorem dL_law_551 : decode cL_law 551 = .ok (.iadd, 1) := by decide +kernel
theorem dL_law_552 : decode cL_law 552 = .ok (.iaload, 1) := by decide +kernel
theorem dL_law_553 : decode cL_law 553 = .ok (.aload_n 0, 1) := by decide +kernel
theorem dL_law_554 : decode cL_law 554 = .ok (.iload_n 3, 1) := by decide +kernel
theorem dL_law_555 : decode cL_law 555 = .ok (.iconst 2, 1) := by decide +kernel
theorem dL_law_556 : decode cL_law 556 = .ok (.iadd, 1) := by decide +kernel
theorem dL_law_557 : decode cL_law 557 = .ok (.iaload, 1) := by decide +kernel
theorem dL_law_558 : decode cL_law 558 = .ok (.invokevirtual 60, 3) := by decide +kernel
theorem dL_law_561 : decode cL_law 561 = .ok (.if_icmp .eq 1030, 3) := by decide +kernel
theorem dL_law_564 : decode cL_law 564 = .ok (.iconst 0, 1) := by decide +kernel
theorem dL_law_565 : decode cL_law 565 = .ok (.ireturn, 1) := by decide +kernel
theorem dL_law_566 : decode cL_law 566 = .ok (.aload_n 1, 1) := by decide +kernel
theorem dL_law_567 : decode cL_law 567 = .ok (.aload_n 0, 1) := by decide +kernel
theorem dL_law_568 : decode cL_law 568 = .ok (.iload_n 3, 1) := by decide +kernel
theorem dL_law_569 : decode cL_law 569 = .ok (.iconst 1, 1) := by decide +kernel
theorem dL_law_570 : decode cL_law 570 = .ok (.iadd, 1) := by decide +kernel
theorem dL_law_571 : decode cL_law 571 = .ok (.iaload, 1) := by decide +kernel
theorem dL_law_572 : decode cL_law 572 = .ok (.aload_n 0, 1) := by decide +kernel
theorem dL_law_573 : decode cL_law 573 = .ok (.iload_n 3, 1) := by decide +kernel
theorem dL_law_574 : decode cL_law 574 = .ok (.iconst 2, 1) := by decide +kernel
theorem dL_law_575 : decode cL_law 575 = .ok (.iadd, 1) := by decide +kernel
theorem dL_law_576 : decode cL_law 576 = .ok (.iaload, 1) := by decide +kernel
theorem dL_law_577 : decode cL_law 577 = .ok (.invokevirtual 61, 3) := by decide +kernel
theorem dL_law_580 : decode cL_law 580 = .ok (.aload_n 2, 1) := by decide +kernel
theorem dL_law_581 : decode cL_law 581 = .ok (.aload_n 0, 1) := by decide +kernel
theorem dL_law_582 : decode cL_law 582 = .ok (.iload_n 3, 1) := by decide +kernel
theorem dL_law_583 : decode cL_law 583 = .ok (.iconst 1, 1) := by decide +kernel
theorem dL_law_584 : decode cL_law 584 = .ok (.iadd, 1) := by decide +kernel
theorem dL_law_585 : decode cL_law 585 = .ok (.iaload, 1) := by decide +kernel
theorem dL_law_586 : decode cL_law 586 = .ok (.aload_n 0, 1) := by decide +kernel
theorem dL_law_587 : decode cL_law 587 = .ok (.iload_n 3, 1) := by decide +kernel
theorem dL_law_588 : decode cL_law 588 = .ok (.iconst 2, 1) := by decide +kernel
theorem dL_law_589 : decode cL_law 589 = .ok (.iadd, 1) := by decide +kernel
theorem dL_law_590 : decode cL_law 590 = .ok (.iaload, 1) := by decide +kernel
theorem dL_law_591 : decode cL_law 591 = .ok (.invokevirtual 64, 3) := by decide +kernel
theorem dL_law_594 : decode cL_law 594 = .ok (.if_icmp .eq 997, 3) := by decide +kernel
theorem dL_law_597 : decode cL_law 597 = .ok (.iconst 0, 1) := by decide +kernel
theorem dL_law_598 : decode cL_law 598 = .ok (.ireturn, 1) := by decide +kernel
theorem dL_law_599 : decode cL_law 599 = .ok (.aload_n 1, 1) := by decide +kernel
theorem dL_law_600 : decode cL_law 600 = .ok (.aload_n 0, 1) := by decide +kernel
theorem dL_law_601 : decode cL_law 601 = .ok (.iload_n 3, 1) := by decide +kernel
theorem dL_law_602 : decode cL_law 602 = .ok (.iconst 1, 1) := by decide +kernel
theorem dL_law_603 : decode cL_law 603 = .ok (.iadd, 1) := by decide +kernel
theorem dL_law_604 : decode cL_law 604 = .ok (.iaload, 1) := by decide +kernel
theorem dL_law_605 : decode cL_law 605 = .ok (.aload_n 0, 1) := by decide +kernel
theorem dL_law_606 : decode cL_law 606 = .ok (.iload_n 3, 1) := by decide +kernel
theorem dL_law_607 : decode cL_law 607 = .ok (.iconst 2, 1) := by decide +kernel
theorem dL_law_608 : decode cL_law 608 = .ok (.iadd, 1) := by decide +kernel
theorem dL_law_609 : decode cL_law 609 = .ok (.iaload, 1) := by decide +kernel
theorem dL_law_610 : decode cL_law 610 = .ok (.invokevirtual 65, 3) := by decide +kernel
theorem dL_law_613 : decode cL_law 613 = .ok (.aload_n 2, 1) := by decide +kernel
theorem dL_law_614 : decode cL_law 614 = .ok (.aload_n 0, 1) := by decide +kernel
theorem dL_law_615 : decode cL_law 615 = .ok (.iload_n 3, 1) := by decide +kernel
theorem dL_law_616 : decode cL_law 616 = .ok (.iconst 1, 1) := by decide +kernel
theorem dL_law_617 : decode cL_law 617 = .ok (.iadd, 1) := by decide +kernel
theorem dL_law_618 : decode cL_law 618 = .ok (.iaload, 1) := by decide +kernel
theorem dL_law_619 : decode cL_law 619 = .ok (.aload_n 0, 1) := by decide +kernel
theorem dL_law_620 : decode cL_law 620 = .ok (.iload_n 3, 1) := by decide +kernel
theorem dL_law_621 : decode cL_law 621 = .ok (.iconst 2, 1) := by decide +kernel
theorem dL_law_622 : decode cL_law 622 = .ok (.iadd, 1) := by decide +kernel
theorem dL_law_623 : decode cL_law 623 = .ok (.iaload, 1) := by decide +kernel
theorem dL_law_624 : decode cL_law 624 = .ok (.invokevirtual 68, 3) := by decide +kernel
theorem dL_law_627 : decode cL_law 627 = .ok (.if_icmp .eq 964, 3) := by decide +kernel
theorem dL_law_630 : decode cL_law 630 = .ok (.iconst 0, 1) := by decide +kernel
theorem dL_law_631 : decode cL_law 631 = .ok (.ireturn, 1) := by decide +kernel
theorem dL_law_632 : decode cL_law 632 = .ok (.aload_n 1, 1) := by decide +kernel
theorem dL_law_633 : decode cL_law 633 = .ok (.aload_n 0, 1) := by decide +kernel
theorem dL_law_634 : decode cL_law 634 = .ok (.iload_n 3, 1) := by decide +kernel
theorem dL_law_635 : decode cL_law 635 = .ok (.iconst 1, 1) := by decide +kernel
theorem dL_law_636 : decode cL_law 636 = .ok (.iadd, 1) := by decide +kernel
theorem dL_law_637 : decode cL_law 637 = .ok (.iaload, 1) := by decide +kernel
theorem dL_law_638 : decode cL_law 638 = .ok (.aload_n 0, 1) := by decide +kernel
theorem dL_law_639 : decode cL_law 639 = .ok (.iload_n 3, 1) := by decide +kernel
theorem dL_law_640 : decode cL_law 640 = .ok (.iconst 2, 1) := by decide +kernel
theorem dL_law_641 : decode cL_law 641 = .ok (.iadd, 1) := by decide +kernel
theorem dL_law_642 : decode cL_law 642 = .ok (.iaload, 1) := by decide +kernel
theorem dL_law_643 : decode cL_law 643 = .ok (.aload_n 0, 1) := by decide +kernel
theorem dL_law_644 : decode cL_law 644 = .ok (.iload_n 3, 1) := by decide +kernel
theorem dL_law_645 : decode cL_law 645 = .ok (.iconst 3, 1) := by decide +kernel
theorem dL_law_646 : decode cL_law 646 = .ok (.iadd, 1) := by decide +kernel
theorem dL_law_647 : decode cL_law 647 = .ok (.iaload, 1) := by decide +kernel
theorem dL_law_648 : decode cL_law 648 = .ok (.aload_n 0, 1) := by decide +kernel
theorem dL_law_649 : decode cL_law 649 = .ok (.iload_n 3, 1) := by decide +kernel
theorem dL_law_650 : decode cL_law 650 = .ok (.iconst 4, 1) := by decide +kernel
theorem dL_law_651 : decode cL_law 651 = .ok (.iadd, 1) := by decide +kernel
theorem dL_law_652 : decode cL_law 652 = .ok (.iaload, 1) := by decide +kernel
theorem dL_law_653 : decode cL_law 653 = .ok (.aload_n 0, 1) := by decide +kernel
theorem dL_law_654 : decode cL_law 654 = .ok (.iload_n 3, 1) := by decide +kernel
theorem dL_law_655 : decode cL_law 655 = .ok (.iconst 5, 1) := by decide +kernel
theorem dL_law_656 : decode cL_law 656 = .ok (.iadd, 1) := by decide +kernel
theorem dL_law_657 : decode cL_law 657 = .ok (.iaload, 1) := by decide +kernel
theorem dL_law_658 : decode cL_law 658 = .ok (.aload_n 0, 1) := by decide +kernel
theorem dL_law_659 : decode cL_law 659 = .ok (.iload_n 3, 1) := by decide +kernel
theorem dL_law_660 : decode cL_law 660 = .ok (.bipush 6, 2) := by decide +kernel
theorem dL_law_662 : decode cL_law 662 = .ok (.iadd, 1) := by decide +kernel
theorem dL_law_663 : decode cL_law 663 = .ok (.iaload, 1) := by decide +kernel
theorem dL_law_664 : decode cL_law 664 = .ok (.aload_n 0, 1) := by decide +kernel
theorem dL_law_665 : decode cL_law 665 = .ok (.iload_n 3, 1) := by decide +kernel
theorem dL_law_666 : decode cL_law 666 = .ok (.bipush 7, 2) := by decide +kernel
theorem dL_law_668 : decode cL_law 668 = .ok (.iadd, 1) := by decide +kernel
theorem dL_law_669 : decode cL_law 669 = .ok (.iaload, 1) := by decide +kernel
theorem dL_law_670 : decode cL_law 670 = .ok (.invokevirtual 69, 3) := by decide +kernel
theorem dL_law_673 : decode cL_law 673 = .ok (.aload_n 2, 1) := by decide +kernel
theorem dL_law_674 : decode cL_law 674 = .ok (.aload_n 0, 1) := by decide +kernel
theorem dL_law_675 : decode cL_law 675 = .ok (.iload_n 3, 1) := by decide +kernel
theorem dL_law_676 : decode cL_law 676 = .ok (.iconst 1, 1) := by decide +kernel
theorem dL_law_677 : decode cL_law 677 = .ok (.iadd, 1) := by decide +kernel
theorem dL_law_678 : decode cL_law 678 = .ok (.iaload, 1) := by decide +kernel
theorem dL_law_679 : decode cL_law 679 = .ok (.aload_n 0, 1) := by decide +kernel
theorem dL_law_680 : decode cL_law 680 = .ok (.iload_n 3, 1) := by decide +kernel
theorem dL_law_681 : decode cL_law 681 = .ok (.iconst 2, 1) := by decide +kernel
theorem dL_law_682 : decode cL_law 682 = .ok (.iadd, 1) := by decide +kernel
theorem dL_law_683 : decode cL_law 683 = .ok (.iaload, 1) := by decide +kernel
theorem dL_law_684 : decode cL_law 684 = .ok (.aload_n 0, 1) := by decide +kernel
theorem dL_law_685 : decode cL_law 685 = .ok (.iload_n 3, 1) := by decide +kernel
theorem dL_law_686 : decode cL_law 686 = .ok (.iconst 3, 1) := by decide +kernel
theorem dL_law_687 : decode cL_law 687 = .ok (.iadd, 1) := by decide +kernel
theorem dL_law_688 : decode cL_law 688 = .ok (.iaload, 1) := by decide +kernel
theorem dL_law_689 : decode cL_law 689 = .ok (.aload_n 0, 1) := by decide +kernel
theorem dL_law_690 : decode cL_law 690 = .ok (.iload_n 3, 1) := by decide +kernel
theorem dL_law_691 : decode cL_law 691 = .ok (.iconst 4, 1) := by decide +kernel
theorem dL_law_692 : decode cL_law 692 = .ok (.iadd, 1) := by decide +kernel
theorem dL_law_693 : decode cL_law 693 = .ok (.iaload, 1) := by decide +kernel
theorem dL_law_694 : decode cL_law 694 = .ok (.aload_n 0, 1) := by decide +kernel
theorem dL_law_695 : decode cL_law 695 = .ok (.iload_n 3, 1) := by decide +kernel
theorem dL_law_696 : decode cL_law 696 = .ok (.iconst 5, 1) := by decide +kernel
theorem dL_law_697 : decode cL_law 697 = .ok (.iadd, 1) := by decide +kernel
theorem dL_law_698 : decode cL_law 698 = .ok (.iaload, 1) := by decide +kernel
theorem dL_law_699 : decode cL_law 699 = .ok (.aload_n 0, 1) := by decide +kernel
theorem dL_law_700 : decode cL_law 700 = .ok (.iload_n 3, 1) := by decide +kernel
theorem dL_law_701 : decode cL_law 701 = .ok (.bipush 6, 2) := by decide +kernel
theorem dL_law_703 : decode cL_law 703 = .ok (.iadd, 1) := by decide +kernel
theorem dL_law_704 : decode cL_law 704 = .ok (.iaload, 1) := by decide +kernel
theorem dL_law_705 : decode cL_law 705 = .ok (.aload_n 0, 1) := by decide +kernel
theorem dL_law_706 : decode cL_law 706 = .ok (.iload_n 3, 1) := by decide +kernel
theorem dL_law_707 : decode cL_law 707 = .ok (.bipush 7, 2) := by decide +kernel
theorem dL_law_709 : decode cL_law 709 = .ok (.iadd, 1) := by decide +kernel
theorem dL_law_710 : decode cL_law 710 = .ok (.iaload, 1) := by decide +kernel
theorem dL_law_711 : decode cL_law 711 = .ok (.invokevirtual 73, 3) := by decide +kernel
theorem dL_law_714 : decode cL_law 714 = .ok (.if_icmp .eq 877, 3) := by decide +kernel
theorem dL_law_717 : decode cL_law 717 = .ok (.iconst 0, 1) := by decide +kernel
theorem dL_law_718 : decode cL_law 718 = .ok (.ireturn, 1) := by decide +kernel
theorem dL_law_719 : decode cL_law 719 = .ok (.aload_n 1, 1) := by decide +kernel
theorem dL_law_720 : decode cL_law 720 = .ok (.aload_n 0, 1) := by decide +kernel
theorem dL_law_721 : decode cL_law 721 = .ok (.iload_n 3, 1) := by decide +kernel
theorem dL_law_722 : decode cL_law 722 = .ok (.iconst 1, 1) := by decide +kernel
theorem dL_law_723 : decode cL_law 723 = .ok (.iadd, 1) := by decide +kernel
theorem dL_law_724 : decode cL_law 724 = .ok (.iaload, 1) := by decide +kernel
theorem dL_law_725 : decode cL_law 725 = .ok (.invokevirtual 74, 3) := by decide +kernel
theorem dL_law_728 : decode cL_law 728 = .ok (.aload_n 2, 1) := by decide +kernel
theorem dL_law_729 : decode cL_law 729 = .ok (.aload_n 0, 1) := by decide +kernel
theorem dL_law_730 : decode cL_law 730 = .ok (.iload_n 3, 1) := by decide +kernel
theorem dL_law_731 : decode cL_law 731 = .ok (.iconst 1, 1) := by decide +kernel
theorem dL_law_732 : decode cL_law 732 = .ok (.iadd, 1) := by decide +kernel
theorem dL_law_733 : decode cL_law 733 = .ok (.iaload, 1) := by decide +kernel
theorem dL_law_734 : decode cL_law 734 = .ok (.invokevirtual 77, 3) := by decide +kernel
theorem dL_law_737 : decode cL_law 737 = .ok (.if_icmp .eq 854, 3) := by decide +kernel
theorem dL_law_740 : decode cL_law 740 = .ok (.iconst 0, 1) := by decide +kernel
theorem dL_law_741 : decode cL_law 741 = .ok (.ireturn, 1) := by decide +kernel
theorem dL_law_742 : decode cL_law 742 = .ok (.aload_n 1, 1) := by decide +kernel
theorem dL_law_743 : decode cL_law 743 = .ok (.aload_n 0, 1) := by decide +kernel
theorem dL_law_744 : decode cL_law 744 = .ok (.iload_n 3, 1) := by decide +kernel
theorem dL_law_745 : decode cL_law 745 = .ok (.iconst 1, 1) := by decide +kernel
theorem dL_law_746 : decode cL_law 746 = .ok (.iadd, 1) := by decide +kernel
theorem dL_law_747 : decode cL_law 747 = .ok (.iaload, 1) := by decide +kernel
theorem dL_law_748 : decode cL_law 748 = .ok (.invokevirtual 78, 3) := by decide +kernel
theorem dL_law_751 : decode cL_law 751 = .ok (.aload_n 2, 1) := by decide +kernel
theorem dL_law_752 : decode cL_law 752 = .ok (.aload_n 0, 1) := by decide +kernel
theorem dL_law_753 : decode cL_law 753 = .ok (.iload_n 3, 1) := by decide +kernel
theorem dL_law_754 : decode cL_law 754 = .ok (.iconst 1, 1) := by decide +kernel
theorem dL_law_755 : decode cL_law 755 = .ok (.iadd, 1) := by decide +kernel
theorem dL_law_756 : decode cL_law 756 = .ok (.iaload, 1) := by decide +kernel
theorem dL_law_757 : decode cL_law 757 = .ok (.invokevirtual 81, 3) := by decide +kernel
theorem dL_law_760 : decode cL_law 760 = .ok (.if_icmp .eq 831, 3) := by decide +kernel
theorem dL_law_763 : decode cL_law 763 = .ok (.iconst 0, 1) := by decide +kernel
theorem dL_law_764 : decode cL_law 764 = .ok (.ireturn, 1) := by decide +kernel
theorem dL_law_765 : decode cL_law 765 = .ok (.aload_n 1, 1) := by decide +kernel
theorem dL_law_766 : decode cL_law 766 = .ok (.aload_n 0, 1) := by decide +kernel
theorem dL_law_767 : decode cL_law 767 = .ok (.iload_n 3, 1) := by decide +kernel
theorem dL_law_768 : decode cL_law 768 = .ok (.iconst 1, 1) := by decide +kernel
theorem dL_law_769 : decode cL_law 769 = .ok (.iadd, 1) := by decide +kernel
theorem dL_law_770 : decode cL_law 770 = .ok (.iaload, 1) := by decide +kernel
theorem dL_law_771 : decode cL_law 771 = .ok (.invokevirtual 82, 3) := by decide +kernel
theorem dL_law_774 : decode cL_law 774 = .ok (.aload_n 2, 1) := by decide +kernel
theorem dL_law_775 : decode cL_law 775 = .ok (.aload_n 0, 1) := by decide +kernel
theorem dL_law_776 : decode cL_law 776 = .ok (.iload_n 3, 1) := by decide +kernel
theorem dL_law_777 : decode cL_law 777 = .ok (.iconst 1, 1) := by decide +kernel
theorem dL_law_778 : decode cL_law 778 = .ok (.iadd, 1) := by decide +kernel
theorem dL_law_779 : decode cL_law 779 = .ok (.iaload, 1) := by decide +kernel
theorem dL_law_780 : decode cL_law 780 = .ok (.invokevirtual 85, 3) := by decide +kernel
theorem dL_law_783 : decode cL_law 783 = .ok (.if_icmp .eq 808, 3) := by decide +kernel
theorem dL_law_786 : decode cL_law 786 = .ok (.iconst 0, 1) := by decide +kernel
theorem dL_law_787 : decode cL_law 787 = .ok (.ireturn, 1) := by decide +kernel
theorem dL_law_788 : decode cL_law 788 = .ok (.aload_n 1, 1) := by decide +kernel
theorem dL_law_789 : decode cL_law 789 = .ok (.aload_n 0, 1) := by decide +kernel
theorem dL_law_790 : decode cL_law 790 = .ok (.iload_n 3, 1) := by decide +kernel
theorem dL_law_791 : decode cL_law 791 = .ok (.iconst 1, 1) := by decide +kernel
theorem dL_law_792 : decode cL_law 792 = .ok (.iadd, 1) := by decide +kernel
theorem dL_law_793 : decode cL_law 793 = .ok (.iaload, 1) := by decide +kernel
theorem dL_law_794 : decode cL_law 794 = .ok (.aload_n 0, 1) := by decide +kernel
theorem dL_law_795 : decode cL_law 795 = .ok (.iload_n 3, 1) := by decide +kernel
theorem dL_law_796 : decode cL_law 796 = .ok (.iconst 2, 1) := by decide +kernel
theorem dL_law_797 : decode cL_law 797 = .ok (.iadd, 1) := by decide +kernel
theorem dL_law_798 : decode cL_law 798 = .ok (.iaload, 1) := by decide +kernel
theorem dL_law_799 : decode cL_law 799 = .ok (.invokevirtual 86, 3) := by decide +kernel
theorem dL_law_802 : decode cL_law 802 = .ok (.aload_n 2, 1) := by decide +kernel
theorem dL_law_803 : decode cL_law 803 = .ok (.aload_n 0, 1) := by decide +kernel
theorem dL_law_804 : decode cL_law 804 = .ok (.iload_n 3, 1) := by decide +kernel
theorem dL_law_805 : decode cL_law 805 = .ok (.iconst 1, 1) := by decide +kernel
theorem dL_law_806 : decode cL_law 806 = .ok (.iadd, 1) := by decide +kernel
theorem dL_law_807 : decode cL_law 807 = .ok (.iaload, 1) := by decide +kernel
theorem dL_law_808 : decode cL_law 808 = .ok (.aload_n 0, 1) := by decide +kernel
theorem dL_law_809 : decode cL_law 809 = .ok (.iload_n 3, 1) := by decide +kernel
theorem dL_law_810 : decode cL_law 810 = .ok (.iconst 2, 1) := by decide +kernel
theorem dL_law_811 : decode cL_law 811 = .ok (.iadd, 1) := by decide +kernel
theorem dL_law_812 : decode cL_law 812 = .ok (.iaload, 1) := by decide +kernel
theorem dL_law_813 : decode cL_law 813 = .ok (.invokevirtual 89, 3) := by decide +kernel
theorem dL_law_816 : decode cL_law 816 = .ok (.if_icmp .eq 775, 3) := by decide +kernel
theorem dL_law_819 : decode cL_law 819 = .ok (.iconst 0, 1) := by decide +kernel
theorem dL_law_820 : decode cL_law 820 = .ok (.ireturn, 1) := by decide +kernel
theorem dL_law_821 : decode cL_law 821 = .ok (.aload_n 1, 1) := by decide +kernel
theorem dL_law_822 : decode cL_law 822 = .ok (.aload_n 0, 1) := by decide +kernel
theorem dL_law_823 : decode cL_law 823 = .ok (.iload_n 3, 1) := by decide +kernel
theorem dL_law_824 : decode cL_law 824 = .ok (.iconst 1, 1) := by decide +kernel
theorem dL_law_825 : decode cL_law 825 = .ok (.iadd, 1) := by decide +kernel
theorem dL_law_826 : decode cL_law 826 = .ok (.iaload, 1) := by decide +kernel
theorem dL_law_827 : decode cL_law 827 = .ok (.invokevirtual 90, 3) := by decide +kernel
theorem dL_law_830 : decode cL_law 830 = .ok (.aload_n 2, 1) := by decide +kernel
theorem dL_law_831 : decode cL_law 831 = .ok (.aload_n 0, 1) := by decide +kernel
theorem dL_law_832 : decode cL_law 832 = .ok (.iload_n 3, 1) := by decide +kernel
theorem dL_law_833 : decode cL_law 833 = .ok (.iconst 1, 1) := by decide +kernel
theorem dL_law_834 : decode cL_law 834 = .ok (.iadd, 1) := by decide +kernel
theorem dL_law_835 : decode cL_law 835 = .ok (.iaload, 1) := by decide +kernel
theorem dL_law_836 : decode cL_law 836 = .ok (.invokevirtual 93, 3) := by decide +kernel
theorem dL_law_839 : decode cL_law 839 = .ok (.if_icmp .eq 752, 3) := by decide +kernel
theorem dL_law_842 : decode cL_law 842 = .ok (.iconst 0, 1) := by decide +kernel
theorem dL_law_843 : decode cL_law 843 = .ok (.ireturn, 1) := by decide +kernel
theorem dL_law_844 : decode cL_law 844 = .ok (.aload_n 1, 1) := by decide +kernel
theorem dL_law_845 : decode cL_law 845 = .ok (.aload_n 0, 1) := by decide +kernel
theorem dL_law_846 : decode cL_law 846 = .ok (.iload_n 3, 1) := by decide +kernel
theorem dL_law_847 : decode cL_law 847 = .ok (.iconst 1, 1) := by decide +kernel
theorem dL_law_848 : decode cL_law 848 = .ok (.iadd, 1) := by decide +kernel
theorem dL_law_849 : decode cL_law 849 = .ok (.iaload, 1) := by decide +kernel
theorem dL_law_850 : decode cL_law 850 = .ok (.aload_n 0, 1) := by decide +kernel
theorem dL_law_851 : decode cL_law 851 = .ok (.iload_n 3, 1) := by decide +kernel
theorem dL_law_852 : decode cL_law 852 = .ok (.iconst 2, 1) := by decide +kernel
theorem dL_law_853 : decode cL_law 853 = .ok (.iadd, 1) := by decide +kernel
theorem dL_law_854 : decode cL_law 854 = .ok (.iaload, 1) := by decide +kernel
theorem dL_law_855 : decode cL_law 855 = .ok (.aload_n 0, 1) := by decide +kernel
theorem dL_law_856 : decode cL_law 856 = .ok (.iload_n 3, 1) := by decide +kernel
theorem dL_law_857 : decode cL_law 857 = .ok (.iconst 3, 1) := by decide +kernel
theorem dL_law_858 : decode cL_law 858 = .ok (.iadd, 1) := by decide +kernel
theorem dL_law_859 : decode cL_law 859 = .ok (.iaload, 1) := by decide +kernel
theorem dL_law_860 : decode cL_law 860 = .ok (.aload_n 0, 1) := by decide +kernel
theorem dL_law_861 : decode cL_law 861 = .ok (.iload_n 3, 1) := by decide +kernel
theorem dL_law_862 : decode cL_law 862 = .ok (.iconst 4, 1) := by decide +kernel
theorem dL_law_863 : decode cL_law 863 = .ok (.iadd, 1) := by decide +kernel
theorem dL_law_864 : decode cL_law 864 = .ok (.iaload, 1) := by decide +kernel
theorem dL_law_865 : decode cL_law 865 = .ok (.invokevirtual 94, 3) := by decide +kernel
theorem dL_law_868 : decode cL_law 868 = .ok (.aload_n 2, 1) := by decide +kernel
theorem dL_law_869 : decode cL_law 869 = .ok (.aload_n 0, 1) := by decide +kernel
theorem dL_law_870 : decode cL_law 870 = .ok (.iload_n 3, 1) := by decide +kernel
theorem dL_law_871 : decode cL_law 871 = .ok (.iconst 1, 1) := by decide +kernel
theorem dL_law_872 : decode cL_law 872 = .ok (.iadd, 1) := by decide +kernel
theorem dL_law_873 : decode cL_law 873 = .ok (.iaload, 1) := by decide +kernel
theorem dL_law_874 : decode cL_law 874 = .ok (.aload_n 0, 1) := by decide +kernel
theorem dL_law_875 : decode cL_law 875 = .ok (.iload_n 3, 1) := by decide +kernel
theorem dL_law_876 : decode cL_law 876 = .ok (.iconst 2, 1) := by decide +kernel
theorem dL_law_877 : decode cL_law 877 = .ok (.iadd, 1) := by decide +kernel
theorem dL_law_878 : decode cL_law 878 = .ok (.iaload, 1) := by decide +kernel
theorem dL_law_879 : decode cL_law 879 = .ok (.aload_n 0, 1) := by decide +kernel
theorem dL_law_880 : decode cL_law 880 = .ok (.iload_n 3, 1) := by decide +kernel
theorem dL_law_881 : decode cL_law 881 = .ok (.iconst 3, 1) := by decide +kernel
theorem dL_law_882 : decode cL_law 882 = .ok (.iadd, 1) := by decide +kernel
theorem dL_law_883 : decode cL_law 883 = .ok (.iaload, 1) := by decide +kernel
theorem dL_law_884 : decode cL_law 884 = .ok (.aload_n 0, 1) := by decide +kernel
theorem dL_law_885 : decode cL_law 885 = .ok (.iload_n 3, 1) := by decide +kernel
theorem dL_law_886 : decode cL_law 886 = .ok (.iconst 4, 1) := by decide +kernel
theorem dL_law_887 : decode cL_law 887 = .ok (.iadd, 1) := by decide +kernel
theorem dL_law_888 : decode cL_law 888 = .ok (.iaload, 1) := by decide +kernel
theorem dL_law_889 : decode cL_law 889 = .ok (.invokevirtual 98, 3) := by decide +kernel
theorem dL_law_892 : decode cL_law 892 = .ok (.if_icmp .eq 699, 3) := by decide +kernel
theorem dL_law_895 : decode cL_law 895 = .ok (.iconst 0, 1) := by decide +kernel
theorem dL_law_896 : decode cL_law 896 = .ok (.ireturn, 1) := by decide +kernel
theorem dL_law_897 : decode cL_law 897 = .ok (.aload_n 1, 1) := by decide +kernel
theorem dL_law_898 : decode cL_law 898 = .ok (.aload_n 0, 1) := by decide +kernel
theorem dL_law_899 : decode cL_law 899 = .ok (.iload_n 3, 1) := by decide +kernel
theorem dL_law_900 : decode cL_law 900 = .ok (.iconst 1, 1) := by decide +kernel
theorem dL_law_901 : decode cL_law 901 = .ok (.iadd, 1) := by decide +kernel
theorem dL_law_902 : decode cL_law 902 = .ok (.iaload, 1) := by decide +kernel
theorem dL_law_903 : decode cL_law 903 = .ok (.aload_n 0, 1) := by decide +kernel
theorem dL_law_904 : decode cL_law 904 = .ok (.iload_n 3, 1) := by decide +kernel
theorem dL_law_905 : decode cL_law 905 = .ok (.iconst 2, 1) := by decide +kernel
theorem dL_law_906 : decode cL_law 906 = .ok (.iadd, 1) := by decide +kernel
theorem dL_law_907 : decode cL_law 907 = .ok (.iaload, 1) := by decide +kernel
theorem dL_law_908 : decode cL_law 908 = .ok (.invokevirtual 99, 3) := by decide +kernel
theorem dL_law_911 : decode cL_law 911 = .ok (.aload_n 2, 1) := by decide +kernel
theorem dL_law_912 : decode cL_law 912 = .ok (.aload_n 0, 1) := by decide +kernel
theorem dL_law_913 : decode cL_law 913 = .ok (.iload_n 3, 1) := by decide +kernel
theorem dL_law_914 : decode cL_law 914 = .ok (.iconst 1, 1) := by decide +kernel
theorem dL_law_915 : decode cL_law 915 = .ok (.iadd, 1) := by decide +kernel
theorem dL_law_916 : decode cL_law 916 = .ok (.iaload, 1) := by decide +kernel
theorem dL_law_917 : decode cL_law 917 = .ok (.aload_n 0, 1) := by decide +kernel
theorem dL_law_918 : decode cL_law 918 = .ok (.iload_n 3, 1) := by decide +kernel
theorem dL_law_919 : decode cL_law 919 = .ok (.iconst 2, 1) := by decide +kernel
theorem dL_law_920 : decode cL_law 920 = .ok (.iadd, 1) := by decide +kernel
theorem dL_law_921 : decode cL_law 921 = .ok (.iaload, 1) := by decide +kernel
theorem dL_law_922 : decode cL_law 922 = .ok (.invokevirtual 102, 3) := by decide +kernel
theorem dL_law_925 : decode cL_law 925 = .ok (.if_icmp .eq 666, 3) := by decide +kernel
theorem dL_law_928 : decode cL_law 928 = .ok (.iconst 0, 1) := by decide +kernel
theorem dL_law_929 : decode cL_law 929 = .ok (.ireturn, 1) := by decide +kernel
theorem dL_law_930 : decode cL_law 930 = .ok (.aload_n 1, 1) := by decide +kernel
theorem dL_law_931 : decode cL_law 931 = .ok (.aload_n 0, 1) := by decide +kernel
theorem dL_law_932 : decode cL_law 932 = .ok (.iload_n 3, 1) := by decide +kernel
theorem dL_law_933 : decode cL_law 933 = .ok (.iconst 1, 1) := by decide +kernel
theorem dL_law_934 : decode cL_law 934 = .ok (.iadd, 1) := by decide +kernel
theorem dL_law_935 : decode cL_law 935 = .ok (.iaload, 1) := by decide +kernel
theorem dL_law_936 : decode cL_law 936 = .ok (.aload_n 0, 1) := by decide +kernel
theorem dL_law_937 : decode cL_law 937 = .ok (.iload_n 3, 1) := by decide +kernel
theorem dL_law_938 : decode cL_law 938 = .ok (.iconst 2, 1) := by decide +kernel
theorem dL_law_939 : decode cL_law 939 = .ok (.iadd, 1) := by decide +kernel
theorem dL_law_940 : decode cL_law 940 = .ok (.iaload, 1) := by decide +kernel
theorem dL_law_941 : decode cL_law 941 = .ok (.aload_n 0, 1) := by decide +kernel
theorem dL_law_942 : decode cL_law 942 = .ok (.iload_n 3, 1) := by decide +kernel
theorem dL_law_943 : decode cL_law 943 = .ok (.iconst 3, 1) := by decide +kernel
theorem dL_law_944 : decode cL_law 944 = .ok (.iadd, 1) := by decide +kernel
theorem dL_law_945 : decode cL_law 945 = .ok (.iaload, 1) := by decide +kernel
theorem dL_law_946 : decode cL_law 946 = .ok (.invokevirtual 103, 3) := by decide +kernel
theorem dL_law_949 : decode cL_law 949 = .ok (.aload_n 2, 1) := by decide +kernel
theorem dL_law_950 : decode cL_law 950 = .ok (.aload_n 0, 1) := by decide +kernel
theorem dL_law_951 : decode cL_law 951 = .ok (.iload_n 3, 1) := by decide +kernel
theorem dL_law_952 : decode cL_law 952 = .ok (.iconst 1, 1) := by decide +kernel
theorem dL_law_953 : decode cL_law 953 = .ok (.iadd, 1) := by decide +kernel
theorem dL_law_954 : decode cL_law 954 = .ok (.iaload, 1) := by decide +kernel
theorem dL_law_955 : decode cL_law 955 = .ok (.aload_n 0, 1) := by decide +kernel
theorem dL_law_956 : decode cL_law 956 = .ok (.iload_n 3, 1) := by decide +kernel
theorem dL_law_957 : decode cL_law 957 = .ok (.iconst 2, 1) := by decide +kernel
theorem dL_law_958 : decode cL_law 958 = .ok (.iadd, 1) := by decide +kernel
theorem dL_law_959 : decode cL_law 959 = .ok (.iaload, 1) := by decide +kernel
theorem dL_law_960 : decode cL_law 960 = .ok (.aload_n 0, 1) := by decide +kernel
theorem dL_law_961 : decode cL_law 961 = .ok (.iload_n 3, 1) := by decide +kernel
theorem dL_law_962 : decode cL_law 962 = .ok (.iconst 3, 1) := by decide +kernel
theorem dL_law_963 : decode cL_law 963 = .ok (.iadd, 1) := by decide +kernel
theorem dL_law_964 : decode cL_law 964 = .ok (.iaload, 1) := by decide +kernel
theorem dL_law_965 : decode cL_law 965 = .ok (.invokevirtual 106, 3) := by decide +kernel
theorem dL_law_968 : decode cL_law 968 = .ok (.if_icmp .eq 623, 3) := by decide +kernel
theorem dL_law_971 : decode cL_law 971 = .ok (.iconst 0, 1) := by decide +kernel
theorem dL_law_972 : decode cL_law 972 = .ok (.ireturn, 1) := by decide +kernel
theorem dL_law_973 : decode cL_law 973 = .ok (.aload_n 1, 1) := by decide +kernel
theorem dL_law_974 : decode cL_law 974 = .ok (.aload_n 0, 1) := by decide +kernel
theorem dL_law_975 : decode cL_law 975 = .ok (.iload_n 3, 1) := by decide +kernel
theorem dL_law_976 : decode cL_law 976 = .ok (.iconst 1, 1) := by decide +kernel
theorem dL_law_977 : decode cL_law 977 = .ok (.iadd, 1) := by decide +kernel
theorem dL_law_978 : decode cL_law 978 = .ok (.iaload, 1) := by decide +kernel
theorem dL_law_979 : decode cL_law 979 = .ok (.aload_n 0, 1) := by decide +kernel
theorem dL_law_980 : decode cL_law 980 = .ok (.iload_n 3, 1) := by decide +kernel
theorem dL_law_981 : decode cL_law 981 = .ok (.iconst 2, 1) := by decide +kernel
theorem dL_law_982 : decode cL_law 982 = .ok (.iadd, 1) := by decide +kernel
theorem dL_law_983 : decode cL_law 983 = .ok (.iaload, 1) := by decide +kernel
theorem dL_law_984 : decode cL_law 984 = .ok (.aload_n 0, 1) := by decide +kernel
theorem dL_law_985 : decode cL_law 985 = .ok (.iload_n 3, 1) := by decide +kernel
theorem dL_law_986 : decode cL_law 986 = .ok (.iconst 3, 1) := by decide +kernel
theorem dL_law_987 : decode cL_law 987 = .ok (.iadd, 1) := by decide +kernel
theorem dL_law_988 : decode cL_law 988 = .ok (.iaload, 1) := by decide +kernel
theorem dL_law_989 : decode cL_law 989 = .ok (.aload_n 0, 1) := by decide +kernel
theorem dL_law_990 : decode cL_law 990 = .ok (.iload_n 3, 1) := by decide +kernel
theorem dL_law_991 : decode cL_law 991 = .ok (.iconst 4, 1) := by decide +kernel
theorem dL_law_992 : decode cL_law 992 = .ok (.iadd, 1) := by decide +kernel
theorem dL_law_993 : decode cL_law 993 = .ok (.iaload, 1) := by decide +kernel
theorem dL_law_994 : decode cL_law 994 = .ok (.aload_n 0, 1) := by decide +kernel
theorem dL_law_995 : decode cL_law 995 = .ok (.iload_n 3, 1) := by decide +kernel
theorem dL_law_996 : decode cL_law 996 = .ok (.iconst 5, 1) := by decide +kernel
theorem dL_law_997 : decode cL_law 997 = .ok (.iadd, 1) := by decide +kernel
theorem dL_law_998 : decode cL_law 998 = .ok (.iaload, 1) := by decide +kernel
theorem dL_law_999 : decode cL_law 999 = .ok (.invokevirtual 107, 3) := by decide +kernel
theorem dL_law_1002 : decode cL_law 1002 = .ok (.aload_n 2, 1) := by decide +kernel
theorem dL_law_1003 : decode cL_law 1003 = .ok (.aload_n 0, 1) := by decide +kernel
theorem dL_law_1004 : decode cL_law 1004 = .ok (.iload_n 3, 1) := by decide +kernel
theorem dL_law_1005 : decode cL_law 1005 = .ok (.iconst 1, 1) := by decide +kernel
theorem dL_law_1006 : decode cL_law 1006 = .ok (.iadd, 1) := by decide +kernel
theorem dL_law_1007 : decode cL_law 1007 = .ok (.iaload, 1) := by decide +kernel
theorem dL_law_1008 : decode cL_law 1008 = .ok (.aload_n 0, 1) := by decide +kernel
theorem dL_law_1009 : decode cL_law 1009 = .ok (.iload_n 3, 1) := by decide +kernel
theorem dL_law_1010 : decode cL_law 1010 = .ok (.iconst 2, 1) := by decide +kernel
theorem dL_law_1011 : decode cL_law 1011 = .ok (.iadd, 1) := by decide +kernel
theorem dL_law_1012 : decode cL_law 1012 = .ok (.iaload, 1) := by decide +kernel
theorem dL_law_1013 : decode cL_law 1013 = .ok (.aload_n 0, 1) := by decide +kernel
theorem dL_law_1014 : decode cL_law 1014 = .ok (.iload_n 3, 1) := by decide +kernel
theorem dL_law_1015 : decode cL_law 1015 = .ok (.iconst 3, 1) := by decide +kernel
theorem dL_law_1016 : decode cL_law 1016 = .ok (.iadd, 1) := by decide +kernel
theorem dL_law_1017 : decode cL_law 1017 = .ok (.iaload, 1) := by decide +kernel
theorem dL_law_1018 : decode cL_law 1018 = .ok (.aload_n 0, 1) := by decide +kernel
theorem dL_law_1019 : decode cL_law 1019 = .ok (.iload_n 3, 1) := by decide +kernel
theorem dL_law_1020 : decode cL_law 1020 = .ok (.iconst 4, 1) := by decide +kernel
theorem dL_law_1021 : decode cL_law 1021 = .ok (.iadd, 1) := by decide +kernel
theorem dL_law_1022 : decode cL_law 1022 = .ok (.iaload, 1) := by decide +kernel
theorem dL_law_1023 : decode cL_law 1023 = .ok (.aload_n 0, 1) := by decide +kernel
theorem dL_law_1024 : decode cL_law 1024 = .ok (.iload_n 3, 1) := by decide +kernel
theorem dL_law_1025 : decode cL_law 1025 = .ok (.iconst 5, 1) := by decide +kernel
theorem dL_law_1026 : decode cL_law 1026 = .ok (.iadd, 1) := by decide +kernel
theorem dL_law_1027 : decode cL_law 1027 = .ok (.iaload, 1) := by decide +kernel
theorem dL_law_1028 : decode cL_law 1028 = .ok (.invokevirtual 111, 3) := by decide +kernel
theorem dL_law_1031 : decode cL_law 1031 = .ok (.if_icmp .eq 560, 3) := by decide +kernel
theorem dL_law_1034 : decode cL_law 1034 = .ok (.iconst 0, 1) := by decide +kernel
theorem dL_law_1035 : decode cL_law 1035 = .ok (.ireturn, 1) := by decide +kernel
theorem dL_law_1036 : decode cL_law 1036 = .ok (.aload_n 1, 1) := by decide +kernel
theorem dL_law_1037 : decode cL_law 1037 = .ok (.aload_n 0, 1) := by decide +kernel
theorem dL_law_1038 : decode cL_law 1038 = .ok (.iload_n 3, 1) := by decide +kernel
theorem dL_law_1039 : decode cL_law 1039 = .ok (.iconst 1, 1) := by decide +kernel
theorem dL_law_1040 : decode cL_law 1040 = .ok (.iadd, 1) := by decide +kernel
theorem dL_law_1041 : decode cL_law 1041 = .ok (.iaload, 1) := by decide +kernel
theorem dL_law_1042 : decode cL_law 1042 = .ok (.aload_n 0, 1) := by decide +kernel
theorem dL_law_1043 : decode cL_law 1043 = .ok (.iload_n 3, 1) := by decide +kernel
theorem dL_law_1044 : decode cL_law 1044 = .ok (.iconst 2, 1) := by decide +kernel
theorem dL_law_1045 : decode cL_law 1045 = .ok (.iadd, 1) := by decide +kernel
theorem dL_law_1046 : decode cL_law 1046 = .ok (.iaload, 1) := by decide +kernel
theorem dL_law_1047 : decode cL_law 1047 = .ok (.aload_n 0, 1) := by decide +kernel
theorem dL_law_1048 : decode cL_law 1048 = .ok (.iload_n 3, 1) := by decide +kernel
theorem dL_law_1049 : decode cL_law 1049 = .ok (.iconst 3, 1) := by decide +kernel
theorem dL_law_1050 : decode cL_law 1050 = .ok (.iadd, 1) := by decide +kernel
theorem dL_law_1051 : decode cL_law 1051 = .ok (.iaload, 1) := by decide +kernel
theorem dL_law_1052 : decode cL_law 1052 = .ok (.aload_n 0, 1) := by decide +kernel
theorem dL_law_1053 : decode cL_law 1053 = .ok (.iload_n 3, 1) := by decide +kernel
theorem dL_law_1054 : decode cL_law 1054 = .ok (.iconst 4, 1) := by decide +kernel
theorem dL_law_1055 : decode cL_law 1055 = .ok (.iadd, 1) := by decide +kernel
theorem dL_law_1056 : decode cL_law 1056 = .ok (.iaload, 1) := by decide +kernel
theorem dL_law_1057 : decode cL_law 1057 = .ok (.aload_n 0, 1) := by decide +kernel
theorem dL_law_1058 : decode cL_law 1058 = .ok (.iload_n 3, 1) := by decide +kernel
theorem dL_law_1059 : decode cL_law 1059 = .ok (.iconst 5, 1) := by decide +kernel
theorem dL_law_1060 : decode cL_law 1060 = .ok (.iadd, 1) := by decide +kernel
theorem dL_law_1061 : decode cL_law 1061 = .ok (.iaload, 1) := by decide +kernel
theorem dL_law_1062 : decode cL_law 1062 = .ok (.aload_n 0, 1) := by decide +kernel
theorem dL_law_1063 : decode cL_law 1063 = .ok (.iload_n 3, 1) := by decide +kernel
theorem dL_law_1064 : decode cL_law 1064 = .ok (.bipush 6, 2) := by decide +kernel
theorem dL_law_1066 : decode cL_law 1066 = .ok (.iadd, 1) := by decide +kernel
theorem dL_law_1067 : decode cL_law 1067 = .ok (.iaload, 1) := by decide +kernel
theorem dL_law_1068 : decode cL_law 1068 = .ok (.invokevirtual 112, 3) := by decide +kernel
theorem dL_law_1071 : decode cL_law 1071 = .ok (.aload_n 2, 1) := by decide +kernel
theorem dL_law_1072 : decode cL_law 1072 = .ok (.aload_n 0, 1) := by decide +kernel
theorem dL_law_1073 : decode cL_law 1073 = .ok (.iload_n 3, 1) := by decide +kernel
theorem dL_law_1074 : decode cL_law 1074 = .ok (.iconst 1, 1) := by decide +kernel
theorem dL_law_1075 : decode cL_law 1075 = .ok (.iadd, 1) := by decide +kernel
theorem dL_law_1076 : decode cL_law 1076 = .ok (.iaload, 1) := by decide +kernel
theorem dL_law_1077 : decode cL_law 1077 = .ok (.aload_n 0, 1) := by decide +kernel
theorem dL_law_1078 : decode cL_law 1078 = .ok (.iload_n 3, 1) := by decide +kernel
theorem dL_law_1079 : decode cL_law 1079 = .ok (.iconst 2, 1) := by decide +kernel
theorem dL_law_1080 : decode cL_law 1080 = .ok (.iadd, 1) := by decide +kernel
theorem dL_law_1081 : decode cL_law 1081 = .ok (.iaload, 1) := by decide +kernel
theorem dL_law_1082 : decode cL_law 1082 = .ok (.aload_n 0, 1) := by decide +kernel
theorem dL_law_1083 : decode cL_law 1083 = .ok (.iload_n 3, 1) := by decide +kernel
theorem dL_law_1084 : decode cL_law 1084 = .ok (.iconst 3, 1) := by decide +kernel
theorem dL_law_1085 : decode cL_law 1085 = .ok (.iadd, 1) := by decide +kernel
theorem dL_law_1086 : decode cL_law 1086 = .ok (.iaload, 1) := by decide +kernel
theorem dL_law_1087 : decode cL_law 1087 = .ok (.aload_n 0, 1) := by decide +kernel
theorem dL_law_1088 : decode cL_law 1088 = .ok (.iload_n 3, 1) := by decide +kernel
theorem dL_law_1089 : decode cL_law 1089 = .ok (.iconst 4, 1) := by decide +kernel
theorem dL_law_1090 : decode cL_law 1090 = .ok (.iadd, 1) := by decide +kernel
theorem dL_law_1091 : decode cL_law 1091 = .ok (.iaload, 1) := by decide +kernel
theorem dL_law_1092 : decode cL_law 1092 = .ok (.aload_n 0, 1) := by decide +kernel
theorem dL_law_1093 : decode cL_law 1093 = .ok (.iload_n 3, 1) := by decide +kernel
theorem dL_law_1094 : decode cL_law 1094 = .ok (.iconst 5, 1) := by decide +kernel
theorem dL_law_1095 : decode cL_law 1095 = .ok (.iadd, 1) := by decide +kernel
theorem dL_law_1096 : decode cL_law 1096 = .ok (.iaload, 1) := by decide +kernel
theorem dL_law_1097 : decode cL_law 1097 = .ok (.aload_n 0, 1) := by decide +kernel
theorem dL_law_1098 : decode cL_law 1098 = .ok (.iload_n 3, 1) := by decide +kernel
theorem dL_law_1099 : decode cL_law 1099 = .ok (.bipush 6, 2) := by decide +kernel
theorem dL_law_1101 : decode cL_law 1101 = .ok (.iadd, 1) := by decide +kernel
theorem dL_law_1102 : decode cL_law 1102 = .ok (.iaload, 1) := by decide +kernel
theorem dL_law_1103 : decode cL_law 1103 = .ok (.invokevirtual 116, 3) := by decide +kernel
theorem dL_law_1106 : decode cL_law 1106 = .ok (.if_icmp .eq 485, 3) := by decide +kernel
theorem dL_law_1109 : decode cL_law 1109 = .ok (.iconst 0, 1) := by decide +kernel
theorem dL_law_1110 : decode cL_law 1110 = .ok (.ireturn, 1) := by decide +kernel
theorem dL_law_1111 : decode cL_law 1111 = .ok (.aload_n 1, 1) := by decide +kernel
theorem dL_law_1112 : decode cL_law 1112 = .ok (.aload_n 0, 1) := by decide +kernel
theorem dL_law_1113 : decode cL_law 1113 = .ok (.iload_n 3, 1) := by decide +kernel
theorem dL_law_1114 : decode cL_law 1114 = .ok (.iconst 1, 1) := by decide +kernel
theorem dL_law_1115 : decode cL_law 1115 = .ok (.iadd, 1) := by decide +kernel
theorem dL_law_1116 : decode cL_law 1116 = .ok (.iaload, 1) := by decide +kernel
theorem dL_law_1117 : decode cL_law 1117 = .ok (.aload_n 0, 1) := by decide +kernel
theorem dL_law_1118 : decode cL_law 1118 = .ok (.iload_n 3, 1) := by decide +kernel
theorem dL_law_1119 : decode cL_law 1119 = .ok (.iconst 2, 1) := by decide +kernel
theorem dL_law_1120 : decode cL_law 1120 = .ok (.iadd, 1) := by decide +kernel
theorem dL_law_1121 : decode cL_law 1121 = .ok (.iaload, 1) := by decide +kernel
theorem dL_law_1122 : decode cL_law 1122 = .ok (.aload_n 0, 1) := by decide +kernel
theorem dL_law_1123 : decode cL_law 1123 = .ok (.iload_n 3, 1) := by decide +kernel
theorem dL_law_1124 : decode cL_law 1124 = .ok (.iconst 3, 1) := by decide +kernel
theorem dL_law_1125 : decode cL_law 1125 = .ok (.iadd, 1) := by decide +kernel
theorem dL_law_1126 : decode cL_law 1126 = .ok (.iaload, 1) := by decide +kernel
theorem dL_law_1127 : decode cL_law 1127 = .ok (.aload_n 0, 1) := by decide +kernel
theorem dL_law_1128 : decode cL_law 1128 = .ok (.iload_n 3, 1) := by decide +kernel
theorem dL_law_1129 : decode cL_law 1129 = .ok (.iconst 4, 1) := by decide +kernel
theorem dL_law_1130 : decode cL_law 1130 = .ok (.iadd, 1) := by decide +kernel
theorem dL_law_1131 : decode cL_law 1131 = .ok (.iaload, 1) := by decide +kernel
theorem dL_law_1132 : decode cL_law 1132 = .ok (.invokevirtual 117, 3) := by decide +kernel
theorem dL_law_1135 : decode cL_law 1135 = .ok (.aload_n 2, 1) := by decide +kernel
theorem dL_law_1136 : decode cL_law 1136 = .ok (.aload_n 0, 1) := by decide +kernel
theorem dL_law_1137 : decode cL_law 1137 = .ok (.iload_n 3, 1) := by decide +kernel
theorem dL_law_1138 : decode cL_law 1138 = .ok (.iconst 1, 1) := by decide +kernel
theorem dL_law_1139 : decode cL_law 1139 = .ok (.iadd, 1) := by decide +kernel
theorem dL_law_1140 : decode cL_law 1140 = .ok (.iaload, 1) := by decide +kernel
theorem dL_law_1141 : decode cL_law 1141 = .ok (.aload_n 0, 1) := by decide +kernel
theorem dL_law_1142 : decode cL_law 1142 = .ok (.iload_n 3, 1) := by decide +kernel
theorem dL_law_1143 : decode cL_law 1143 = .ok (.iconst 2, 1) := by decide +kernel
theorem dL_law_1144 : decode cL_law 1144 = .ok (.iadd, 1) := by decide +kernel
theorem dL_law_1145 : decode cL_law 1145 = .ok (.iaload, 1) := by decide +kernel
theorem dL_law_1146 : decode cL_law 1146 = .ok (.aload_n 0, 1) := by decide +kernel
theorem dL_law_1147 : decode cL_law 1147 = .ok (.iload_n 3, 1) := by decide +kernel
theorem dL_law_1148 : decode cL_law 1148 = .ok (.iconst 3, 1) := by decide +kernel
theorem dL_law_1149 : decode cL_law 1149 = .ok (.iadd, 1) := by decide +kernel
theorem dL_law_1150 : decode cL_law 1150 = .ok (.iaload, 1) := by decide +kernel
theorem dL_law_1151 : decode cL_law 1151 = .ok (.aload_n 0, 1) := by decide +kernel
theorem dL_law_1152 : decode cL_law 1152 = .ok (.iload_n 3, 1) := by decide +kernel
theorem dL_law_1153 : decode cL_law 1153 = .ok (.iconst 4, 1) := by decide +kernel
theorem dL_law_1154 : decode cL_law 1154 = .ok (.iadd, 1) := by decide +kernel
theorem dL_law_1155 : decode cL_law 1155 = .ok (.iaload, 1) := by decide +kernel
theorem dL_law_1156 : decode cL_law 1156 = .ok (.invokevirtual 120, 3) := by decide +kernel
theorem dL_law_1159 : decode cL_law 1159 = .ok (.if_icmp .eq 432, 3) := by decide +kernel
theorem dL_law_1162 : decode cL_law 1162 = .ok (.iconst 0, 1) := by decide +kernel
theorem dL_law_1163 : decode cL_law 1163 = .ok (.ireturn, 1) := by decide +kernel
theorem dL_law_1164 : decode cL_law 1164 = .ok (.aload_n 1, 1) := by decide +kernel
theorem dL_law_1165 : decode cL_law 1165 = .ok (.aload_n 0, 1) := by decide +kernel
theorem dL_law_1166 : decode cL_law 1166 = .ok (.iload_n 3, 1) := by decide +kernel
theorem dL_law_1167 : decode cL_law 1167 = .ok (.iconst 1, 1) := by decide +kernel
theorem dL_law_1168 : decode cL_law 1168 = .ok (.iadd, 1) := by decide +kernel
theorem dL_law_1169 : decode cL_law 1169 = .ok (.iaload, 1) := by decide +kernel
theorem dL_law_1170 : decode cL_law 1170 = .ok (.aload_n 0, 1) := by decide +kernel
theorem dL_law_1171 : decode cL_law 1171 = .ok (.iload_n 3, 1) := by decide +kernel
theorem dL_law_1172 : decode cL_law 1172 = .ok (.iconst 2, 1) := by decide +kernel
theorem dL_law_1173 : decode cL_law 1173 = .ok (.iadd, 1) := by decide +kernel
theorem dL_law_1174 : decode cL_law 1174 = .ok (.iaload, 1) := by decide +kernel
theorem dL_law_1175 : decode cL_law 1175 = .ok (.invokevirtual 121, 3) := by decide +kernel
theorem dL_law_1178 : decode cL_law 1178 = .ok (.aload_n 2, 1) := by decide +kernel
theorem dL_law_1179 : decode cL_law 1179 = .ok (.aload_n 0, 1) := by decide +kernel
theorem dL_law_1180 : decode cL_law 1180 = .ok (.iload_n 3, 1) := by decide +kernel
theorem dL_law_1181 : decode cL_law 1181 = .ok (.iconst 1, 1) := by decide +kernel
theorem dL_law_1182 : decode cL_law 1182 = .ok (.iadd, 1) := by decide +kernel
theorem dL_law_1183 : decode cL_law 1183 = .ok (.iaload, 1) := by decide +kernel
theorem dL_law_1184 : decode cL_law 1184 = .ok (.aload_n 0, 1) := by decide +kernel
theorem dL_law_1185 : decode cL_law 1185 = .ok (.iload_n 3, 1) := by decide +kernel
theorem dL_law_1186 : decode cL_law 1186 = .ok (.iconst 2, 1) := by decide +kernel
theorem dL_law_1187 : decode cL_law 1187 = .ok (.iadd, 1) := by decide +kernel
theorem dL_law_1188 : decode cL_law 1188 = .ok (.iaload, 1) := by decide +kernel
theorem dL_law_1189 : decode cL_law 1189 = .ok (.invokevirtual 124, 3) := by decide +kernel
theorem dL_law_1192 : decode cL_law 1192 = .ok (.if_icmp .eq 399, 3) := by decide +kernel
theorem dL_law_1195 : decode cL_law 1195 = .ok (.iconst 0, 1) := by decide +kernel
theorem dL_law_1196 : decode cL_law 1196 = .ok (.ireturn, 1) := by decide +kernel
theorem dL_law_1197 : decode cL_law 1197 = .ok (.aload_n 1, 1) := by decide +kernel
theorem dL_law_1198 : decode cL_law 1198 = .ok (.aload_n 0, 1) := by decide +kernel
theorem dL_law_1199 : decode cL_law 1199 = .ok (.iload_n 3, 1) := by decide +kernel
theorem dL_law_1200 : decode cL_law 1200 = .ok (.iconst 1, 1) := by decide +kernel
theorem dL_law_1201 : decode cL_law 1201 = .ok (.iadd, 1) := by decide +kernel
theorem dL_law_1202 : decode cL_law 1202 = .ok (.iaload, 1) := by decide +kernel
theorem dL_law_1203 : decode cL_law 1203 = .ok (.aload_n 0, 1) := by decide +kernel
theorem dL_law_1204 : decode cL_law 1204 = .ok (.iload_n 3, 1) := by decide +kernel
theorem dL_law_1205 : decode cL_law 1205 = .ok (.iconst 2, 1) := by decide +kernel
theorem dL_law_1206 : decode cL_law 1206 = .ok (.iadd, 1) := by decide +kernel
theorem dL_law_1207 : decode cL_law 1207 = .ok (.iaload, 1) := by decide +kernel
theorem dL_law_1208 : decode cL_law 1208 = .ok (.invokevirtual 125, 3) := by decide +kernel
theorem dL_law_1211 : decode cL_law 1211 = .ok (.aload_n 2, 1) := by decide +kernel
theorem dL_law_1212 : decode cL_law 1212 = .ok (.aload_n 0, 1) := by decide +kernel
theorem dL_law_1213 : decode cL_law 1213 = .ok (.iload_n 3, 1) := by decide +kernel
theorem dL_law_1214 : decode cL_law 1214 = .ok (.iconst 1, 1) := by decide +kernel
theorem dL_law_1215 : decode cL_law 1215 = .ok (.iadd, 1) := by decide +kernel
theorem dL_law_1216 : decode cL_law 1216 = .ok (.iaload, 1) := by decide +kernel
theorem dL_law_1217 : decode cL_law 1217 = .ok (.aload_n 0, 1) := by decide +kernel
theorem dL_law_1218 : decode cL_law 1218 = .ok (.iload_n 3, 1) := by decide +kernel
theorem dL_law_1219 : decode cL_law 1219 = .ok (.iconst 2, 1) := by decide +kernel
theorem dL_law_1220 : decode cL_law 1220 = .ok (.iadd, 1) := by decide +kernel
theorem dL_law_1221 : decode cL_law 1221 = .ok (.iaload, 1) := by decide +kernel
theorem dL_law_1222 : decode cL_law 1222 = .ok (.invokevirtual 128, 3) := by decide +kernel
theorem dL_law_1225 : decode cL_law 1225 = .ok (.if_icmp .eq 366, 3) := by decide +kernel
theorem dL_law_1228 : decode cL_law 1228 = .ok (.iconst 0, 1) := by decide +kernel
theorem dL_law_1229 : decode cL_law 1229 = .ok (.ireturn, 1) := by decide +kernel
theorem dL_law_1230 : decode cL_law 1230 = .ok (.aload_n 1, 1) := by decide +kernel
theorem dL_law_1231 : decode cL_law 1231 = .ok (.aload_n 0, 1) := by decide +kernel
theorem dL_law_1232 : decode cL_law 1232 = .ok (.iload_n 3, 1) := by decide +kernel
theorem dL_law_1233 : decode cL_law 1233 = .ok (.iconst 1, 1) := by decide +kernel
theorem dL_law_1234 : decode cL_law 1234 = .ok (.iadd, 1) := by decide +kernel
theorem dL_law_1235 : decode cL_law 1235 = .ok (.iaload, 1) := by decide +kernel
theorem dL_law_1236 : decode cL_law 1236 = .ok (.aload_n 0, 1) := by decide +kernel
theorem dL_law_1237 : decode cL_law 1237 = .ok (.iload_n 3, 1) := by decide +kernel
theorem dL_law_1238 : decode cL_law 1238 = .ok (.iconst 2, 1) := by decide +kernel
theorem dL_law_1239 : decode cL_law 1239 = .ok (.iadd, 1) := by decide +kernel
theorem dL_law_1240 : decode cL_law 1240 = .ok (.iaload, 1) := by decide +kernel
theorem dL_law_1241 : decode cL_law 1241 = .ok (.aload_n 0, 1) := by decide +kernel
theorem dL_law_1242 : decode cL_law 1242 = .ok (.iload_n 3, 1) := by decide +kernel
theorem dL_law_1243 : decode cL_law 1243 = .ok (.iconst 3, 1) := by decide +kernel
theorem dL_law_1244 : decode cL_law 1244 = .ok (.iadd, 1) := by decide +kernel
theorem dL_law_1245 : decode cL_law 1245 = .ok (.iaload, 1) := by decide +kernel
theorem dL_law_1246 : decode cL_law 1246 = .ok (.aload_n 0, 1) := by decide +kernel
theorem dL_law_1247 : decode cL_law 1247 = .ok (.iload_n 3, 1) := by decide +kernel
theorem dL_law_1248 : decode cL_law 1248 = .ok (.iconst 4, 1) := by decide +kernel
theorem dL_law_1249 : decode cL_law 1249 = .ok (.iadd, 1) := by decide +kernel
theorem dL_law_1250 : decode cL_law 1250 = .ok (.iaload, 1) := by decide +kernel
theorem dL_law_1251 : decode cL_law 1251 = .ok (.aload_n 0, 1) := by decide +kernel
theorem dL_law_1252 : decode cL_law 1252 = .ok (.iload_n 3, 1) := by decide +kernel
theorem dL_law_1253 : decode cL_law 1253 = .ok (.iconst 5, 1) := by decide +kernel
theorem dL_law_1254 : decode cL_law 1254 = .ok (.iadd, 1) := by decide +kernel
theorem dL_law_1255 : decode cL_law 1255 = .ok (.iaload, 1) := by decide +kernel
theorem dL_law_1256 : decode cL_law 1256 = .ok (.aload_n 0, 1) := by decide +kernel
theorem dL_law_1257 : decode cL_law 1257 = .ok (.iload_n 3, 1) := by decide +kernel
theorem dL_law_1258 : decode cL_law 1258 = .ok (.bipush 6, 2) := by decide +kernel
theorem dL_law_1260 : decode cL_law 1260 = .ok (.iadd, 1) := by decide +kernel
theorem dL_law_1261 : decode cL_law 1261 = .ok (.iaload, 1) := by decide +kernel
theorem dL_law_1262 : decode cL_law 1262 = .ok (.aload_n 0, 1) := by decide +kernel
theorem dL_law_1263 : decode cL_law 1263 = .ok (.iload_n 3, 1) := by decide +kernel
theorem dL_law_1264 : decode cL_law 1264 = .ok (.bipush 7, 2) := by decide +kernel
theorem dL_law_1266 : decode cL_law 1266 = .ok (.iadd, 1) := by decide +kernel
theorem dL_law_1267 : decode cL_law 1267 = .ok (.iaload, 1) := by decide +kernel
theorem dL_law_1268 : decode cL_law 1268 = .ok (.invokevirtual 129, 3) := by decide +kernel
theorem dL_law_1271 : decode cL_law 1271 = .ok (.aload_n 2, 1) := by decide +kernel
theorem dL_law_1272 : decode cL_law 1272 = .ok (.aload_n 0, 1) := by decide +kernel
theorem dL_law_1273 : decode cL_law 1273 = .ok (.iload_n 3, 1) := by decide +kernel
theorem dL_law_1274 : decode cL_law 1274 = .ok (.iconst 1, 1) := by decide +kernel
theorem dL_law_1275 : decode cL_law 1275 = .ok (.iadd, 1) := by decide +kernel
theorem dL_law_1276 : decode cL_law 1276 = .ok (.iaload, 1) := by decide +kernel
theorem dL_law_1277 : decode cL_law 1277 = .ok (.aload_n 0, 1) := by decide +kernel
theorem dL_law_1278 : decode cL_law 1278 = .ok (.iload_n 3, 1) := by decide +kernel
theorem dL_law_1279 : decode cL_law 1279 = .ok (.iconst 2, 1) := by decide +kernel
theorem dL_law_1280 : decode cL_law 1280 = .ok (.iadd, 1) := by decide +kernel
theorem dL_law_1281 : decode cL_law 1281 = .ok (.iaload, 1) := by decide +kernel
theorem dL_law_1282 : decode cL_law 1282 = .ok (.aload_n 0, 1) := by decide +kernel
theorem dL_law_1283 : decode cL_law 1283 = .ok (.iload_n 3, 1) := by decide +kernel
theorem dL_law_1284 : decode cL_law 1284 = .ok (.iconst 3, 1) := by decide +kernel
theorem dL_law_1285 : decode cL_law 1285 = .ok (.iadd, 1) := by decide +kernel
theorem dL_law_1286 : decode cL_law 1286 = .ok (.iaload, 1) := by decide +kernel
theorem dL_law_1287 : decode cL_law 1287 = .ok (.aload_n 0, 1) := by decide +kernel
theorem dL_law_1288 : decode cL_law 1288 = .ok (.iload_n 3, 1) := by decide +kernel
theorem dL_law_1289 : decode cL_law 1289 = .ok (.iconst 4, 1) := by decide +kernel
theorem dL_law_1290 : decode cL_law 1290 = .ok (.iadd, 1) := by decide +kernel
theorem dL_law_1291 : decode cL_law 1291 = .ok (.iaload, 1) := by decide +kernel
theorem dL_law_1292 : decode cL_law 1292 = .ok (.aload_n 0, 1) := by decide +kernel
theorem dL_law_1293 : decode cL_law 1293 = .ok (.iload_n 3, 1) := by decide +kernel
theorem dL_law_1294 : decode cL_law 1294 = .ok (.iconst 5, 1) := by decide +kernel
theorem dL_law_1295 : decode cL_law 1295 = .ok (.iadd, 1) := by decide +kernel
theorem dL_law_1296 : decode cL_law 1296 = .ok (.iaload, 1) := by decide +kernel
theorem dL_law_1297 : decode cL_law 1297 = .ok (.aload_n 0, 1) := by decide +kernel
theorem dL_law_1298 : decode cL_law 1298 = .ok (.iload_n 3, 1) := by decide +kernel
theorem dL_law_1299 : decode cL_law 1299 = .ok (.bipush 6, 2) := by decide +kernel
theorem dL_law_1301 : decode cL_law 1301 = .ok (.iadd, 1) := by decide +kernel
theorem dL_law_1302 : decode cL_law 1302 = .ok (.iaload, 1) := by decide +kernel
theorem dL_law_1303 : decode cL_law 1303 = .ok (.aload_n 0, 1) := by decide +kernel
theorem dL_law_1304 : decode cL_law 1304 = .ok (.iload_n 3, 1) := by decide +kernel
theorem dL_law_1305 : decode cL_law 1305 = .ok (.bipush 7, 2) := by decide +kernel
theorem dL_law_1307 : decode cL_law 1307 = .ok (.iadd, 1) := by decide +kernel
theorem dL_law_1308 : decode cL_law 1308 = .ok (.iaload, 1) := by decide +kernel
theorem dL_law_1309 : decode cL_law 1309 = .ok (.invokevirtual 132, 3) := by decide +kernel
theorem dL_law_1312 : decode cL_law 1312 = .ok (.if_icmp .eq 279, 3) := by decide +kernel
theorem dL_law_1315 : decode cL_law 1315 = .ok (.iconst 0, 1) := by decide +kernel
theorem dL_law_1316 : decode cL_law 1316 = .ok (.ireturn, 1) := by decide +kernel
theorem dL_law_1317 : decode cL_law 1317 = .ok (.aload_n 1, 1) := by decide +kernel
theorem dL_law_1318 : decode cL_law 1318 = .ok (.aload_n 0, 1) := by decide +kernel
theorem dL_law_1319 : decode cL_law 1319 = .ok (.iload_n 3, 1) := by decide +kernel
theorem dL_law_1320 : decode cL_law 1320 = .ok (.iconst 1, 1) := by decide +kernel
theorem dL_law_1321 : decode cL_law 1321 = .ok (.iadd, 1) := by decide +kernel
theorem dL_law_1322 : decode cL_law 1322 = .ok (.iaload, 1) := by decide +kernel
theorem dL_law_1323 : decode cL_law 1323 = .ok (.aload_n 0, 1) := by decide +kernel
theorem dL_law_1324 : decode cL_law 1324 = .ok (.iload_n 3, 1) := by decide +kernel
theorem dL_law_1325 : decode cL_law 1325 = .ok (.iconst 2, 1) := by decide +kernel
theorem dL_law_1326 : decode cL_law 1326 = .ok (.iadd, 1) := by decide +kernel
theorem dL_law_1327 : decode cL_law 1327 = .ok (.iaload, 1) := by decide +kernel
theorem dL_law_1328 : decode cL_law 1328 = .ok (.aload_n 0, 1) := by decide +kernel
theorem dL_law_1329 : decode cL_law 1329 = .ok (.iload_n 3, 1) := by decide +kernel
theorem dL_law_1330 : decode cL_law 1330 = .ok (.iconst 3, 1) := by decide +kernel
theorem dL_law_1331 : decode cL_law 1331 = .ok (.iadd, 1) := by decide +kernel
theorem dL_law_1332 : decode cL_law 1332 = .ok (.iaload, 1) := by decide +kernel
theorem dL_law_1333 : decode cL_law 1333 = .ok (.invokevirtual 133, 3) := by decide +kernel
theorem dL_law_1336 : decode cL_law 1336 = .ok (.aload_n 2, 1) := by decide +kernel
theorem dL_law_1337 : decode cL_law 1337 = .ok (.aload_n 0, 1) := by decide +kernel
theorem dL_law_1338 : decode cL_law 1338 = .ok (.iload_n 3, 1) := by decide +kernel
theorem dL_law_1339 : decode cL_law 1339 = .ok (.iconst 1, 1) := by decide +kernel
theorem dL_law_1340 : decode cL_law 1340 = .ok (.iadd, 1) := by decide +kernel
theorem dL_law_1341 : decode cL_law 1341 = .ok (.iaload, 1) := by decide +kernel
theorem dL_law_1342 : decode cL_law 1342 = .ok (.aload_n 0, 1) := by decide +kernel
theorem dL_law_1343 : decode cL_law 1343 = .ok (.iload_n 3, 1) := by decide +kernel
theorem dL_law_1344 : decode cL_law 1344 = .ok (.iconst 2, 1) := by decide +kernel
theorem dL_law_1345 : decode cL_law 1345 = .ok (.iadd, 1) := by decide +kernel
theorem dL_law_1346 : decode cL_law 1346 = .ok (.iaload, 1) := by decide +kernel
theorem dL_law_1347 : decode cL_law 1347 = .ok (.aload_n 0, 1) := by decide +kernel
theorem dL_law_1348 : decode cL_law 1348 = .ok (.iload_n 3, 1) := by decide +kernel
theorem dL_law_1349 : decode cL_law 1349 = .ok (.iconst 3, 1) := by decide +kernel
theorem dL_law_1350 : decode cL_law 1350 = .ok (.iadd, 1) := by decide +kernel
theorem dL_law_1351 : decode cL_law 1351 = .ok (.iaload, 1) := by decide +kernel
theorem dL_law_1352 : decode cL_law 1352 = .ok (.invokevirtual 136, 3) := by decide +kernel
theorem dL_law_1355 : decode cL_law 1355 = .ok (.if_icmp .eq 236, 3) := by decide +kernel
theorem dL_law_1358 : decode cL_law 1358 = .ok (.iconst 0, 1) := by decide +kernel
theorem dL_law_1359 : decode cL_law 1359 = .ok (.ireturn, 1) := by decide +kernel
theorem dL_law_1360 : decode cL_law 1360 = .ok (.aload_n 1, 1) := by decide +kernel
theorem dL_law_1361 : decode cL_law 1361 = .ok (.aload_n 0, 1) := by decide +kernel
theorem dL_law_1362 : decode cL_law 1362 = .ok (.iload_n 3, 1) := by decide +kernel
theorem dL_law_1363 : decode cL_law 1363 = .ok (.iconst 1, 1) := by decide +kernel
theorem dL_law_1364 : decode cL_law 1364 = .ok (.iadd, 1) := by decide +kernel
theorem dL_law_1365 : decode cL_law 1365 = .ok (.iaload, 1) := by decide +kernel
theorem dL_law_1366 : decode cL_law 1366 = .ok (.invokevirtual 137, 3) := by decide +kernel
theorem dL_law_1369 : decode cL_law 1369 = .ok (.aload_n 2, 1) := by decide +kernel
theorem dL_law_1370 : decode cL_law 1370 = .ok (.aload_n 0, 1) := by decide +kernel
theorem dL_law_1371 : decode cL_law 1371 = .ok (.iload_n 3, 1) := by decide +kernel
theorem dL_law_1372 : decode cL_law 1372 = .ok (.iconst 1, 1) := by decide +kernel
theorem dL_law_1373 : decode cL_law 1373 = .ok (.iadd, 1) := by decide +kernel
theorem dL_law_1374 : decode cL_law 1374 = .ok (.iaload, 1) := by decide +kernel
theorem dL_law_1375 : decode cL_law 1375 = .ok (.invokevirtual 140, 3) := by decide +kernel
theorem dL_law_1378 : decode cL_law 1378 = .ok (.if_icmp .eq 213, 3) := by decide +kernel
theorem dL_law_1381 : decode cL_law 1381 = .ok (.iconst 0, 1) := by decide +kernel
theorem dL_law_1382 : decode cL_law 1382 = .ok (.ireturn, 1) := by decide +kernel
theorem dL_law_1383 : decode cL_law 1383 = .ok (.aload_n 1, 1) := by decide +kernel
theorem dL_law_1384 : decode cL_law 1384 = .ok (.aload_n 0, 1) := by decide +kernel
theorem dL_law_1385 : decode cL_law 1385 = .ok (.iload_n 3, 1) := by decide +kernel
theorem dL_law_1386 : decode cL_law 1386 = .ok (.iconst 1, 1) := by decide +kernel
theorem dL_law_1387 : decode cL_law 1387 = .ok (.iadd, 1) := by decide +kernel
theorem dL_law_1388 : decode cL_law 1388 = .ok (.iaload, 1) := by decide +kernel
theorem dL_law_1389 : decode cL_law 1389 = .ok (.aload_n 0, 1) := by decide +kernel
theorem dL_law_1390 : decode cL_law 1390 = .ok (.iload_n 3, 1) := by decide +kernel
theorem dL_law_1391 : decode cL_law 1391 = .ok (.iconst 2, 1) := by decide +kernel
theorem dL_law_1392 : decode cL_law 1392 = .ok (.iadd, 1) := by decide +kernel
theorem dL_law_1393 : decode cL_law 1393 = .ok (.iaload, 1) := by decide +kernel
theorem dL_law_1394 : decode cL_law 1394 = .ok (.aload_n 0, 1) := by decide +kernel
theorem dL_law_1395 : decode cL_law 1395 = .ok (.iload_n 3, 1) := by decide +kernel
theorem dL_law_1396 : decode cL_law 1396 = .ok (.iconst 3, 1) := by decide +kernel
theorem dL_law_1397 : decode cL_law 1397 = .ok (.iadd, 1) := by decide +kernel
theorem dL_law_1398 : decode cL_law 1398 = .ok (.iaload, 1) := by decide +kernel
theorem dL_law_1399 : decode cL_law 1399 = .ok (.invokevirtual 141, 3) := by decide +kernel
theorem dL_law_1402 : decode cL_law 1402 = .ok (.aload_n 2, 1) := by decide +kernel
theorem dL_law_1403 : decode cL_law 1403 = .ok (.aload_n 0, 1) := by decide +kernel
theorem dL_law_1404 : decode cL_law 1404 = .ok (.iload_n 3, 1) := by decide +kernel
theorem dL_law_1405 : decode cL_law 1405 = .ok (.iconst 1, 1) := by decide +kernel
theorem dL_law_1406 : decode cL_law 1406 = .ok (.iadd, 1) := by decide +kernel
theorem dL_law_1407 : decode cL_law 1407 = .ok (.iaload, 1) := by decide +kernel
theorem dL_law_1408 : decode cL_law 1408 = .ok (.aload_n 0, 1) := by decide +kernel
theorem dL_law_1409 : decode cL_law 1409 = .ok (.iload_n 3, 1) := by decide +kernel
theorem dL_law_1410 : decode cL_law 1410 = .ok (.iconst 2, 1) := by decide +kernel
theorem dL_law_1411 : decode cL_law 1411 = .ok (.iadd, 1) := by decide +kernel
theorem dL_law_1412 : decode cL_law 1412 = .ok (.iaload, 1) := by decide +kernel
theorem dL_law_1413 : decode cL_law 1413 = .ok (.aload_n 0, 1) := by decide +kernel
theorem dL_law_1414 : decode cL_law 1414 = .ok (.iload_n 3, 1) := by decide +kernel
theorem dL_law_1415 : decode cL_law 1415 = .ok (.iconst 3, 1) := by decide +kernel
theorem dL_law_1416 : decode cL_law 1416 = .ok (.iadd, 1) := by decide +kernel
theorem dL_law_1417 : decode cL_law 1417 = .ok (.iaload, 1) := by decide +kernel
theorem dL_law_1418 : decode cL_law 1418 = .ok (.invokevirtual 144, 3) := by decide +kernel
theorem dL_law_1421 : decode cL_law 1421 = .ok (.if_icmp .eq 170, 3) := by decide +kernel
theorem dL_law_1424 : decode cL_law 1424 = .ok (.iconst 0, 1) := by decide +kernel
theorem dL_law_1425 : decode cL_law 1425 = .ok (.ireturn, 1) := by decide +kernel
theorem dL_law_1426 : decode cL_law 1426 = .ok (.aload_n 1, 1) := by decide +kernel
theorem dL_law_1427 : decode cL_law 1427 = .ok (.aload_n 0, 1) := by decide +kernel
theorem dL_law_1428 : decode cL_law 1428 = .ok (.iload_n 3, 1) := by decide +kernel
theorem dL_law_1429 : decode cL_law 1429 = .ok (.iconst 1, 1) := by decide +kernel
theorem dL_law_1430 : decode cL_law 1430 = .ok (.iadd, 1) := by decide +kernel
theorem dL_law_1431 : decode cL_law 1431 = .ok (.iaload, 1) := by decide +kernel
theorem dL_law_1432 : decode cL_law 1432 = .ok (.aload_n 0, 1) := by decide +kernel
theorem dL_law_1433 : decode cL_law 1433 = .ok (.iload_n 3, 1) := by decide +kernel
theorem dL_law_1434 : decode cL_law 1434 = .ok (.iconst 2, 1) := by decide +kernel
theorem dL_law_1435 : decode cL_law 1435 = .ok (.iadd, 1) := by decide +kernel
theorem dL_law_1436 : decode cL_law 1436 = .ok (.iaload, 1) := by decide +kernel
theorem dL_law_1437 : decode cL_law 1437 = .ok (.aload_n 0, 1) := by decide +kernel
theorem dL_law_1438 : decode cL_law 1438 = .ok (.iload_n 3, 1) := by decide +kernel
theorem dL_law_1439 : decode cL_law 1439 = .ok (.iconst 3, 1) := by decide +kernel
theorem dL_law_1440 : decode cL_law 1440 = .ok (.iadd, 1) := by decide +kernel
theorem dL_law_1441 : decode cL_law 1441 = .ok (.iaload, 1) := by decide +kernel
theorem dL_law_1442 : decode cL_law 1442 = .ok (.aload_n 0, 1) := by decide +kernel
theorem dL_law_1443 : decode cL_law 1443 = .ok (.iload_n 3, 1) := by decide +kernel
theorem dL_law_1444 : decode cL_law 1444 = .ok (.iconst 4, 1) := by decide +kernel
theorem dL_law_1445 : decode cL_law 1445 = .ok (.iadd, 1) := by decide +kernel
theorem dL_law_1446 : decode cL_law 1446 = .ok (.iaload, 1) := by decide +kernel
theorem dL_law_1447 : decode cL_law 1447 = .ok (.invokevirtual 145, 3) := by decide +kernel
theorem dL_law_1450 : decode cL_law 1450 = .ok (.aload_n 2, 1) := by decide +kernel
theorem dL_law_1451 : decode cL_law 1451 = .ok (.aload_n 0, 1) := by decide +kernel
theorem dL_law_1452 : decode cL_law 1452 = .ok (.iload_n 3, 1) := by decide +kernel
theorem dL_law_1453 : decode cL_law 1453 = .ok (.iconst 1, 1) := by decide +kernel
theorem dL_law_1454 : decode cL_law 1454 = .ok (.iadd, 1) := by decide +kernel
theorem dL_law_1455 : decode cL_law 1455 = .ok (.iaload, 1) := by decide +kernel
theorem dL_law_1456 : decode cL_law 1456 = .ok (.aload_n 0, 1) := by decide +kernel
theorem dL_law_1457 : decode cL_law 1457 = .ok (.iload_n 3, 1) := by decide +kernel
theorem dL_law_1458 : decode cL_law 1458 = .ok (.iconst 2, 1) := by decide +kernel
theorem dL_law_1459 : decode cL_law 1459 = .ok (.iadd, 1) := by decide +kernel
theorem dL_law_1460 : decode cL_law 1460 = .ok (.iaload, 1) := by decide +kernel
theorem dL_law_1461 : decode cL_law 1461 = .ok (.aload_n 0, 1) := by decide +kernel
theorem dL_law_1462 : decode cL_law 1462 = .ok (.iload_n 3, 1) := by decide +kernel
theorem dL_law_1463 : decode cL_law 1463 = .ok (.iconst 3, 1) := by decide +kernel
theorem dL_law_1464 : decode cL_law 1464 = .ok (.iadd, 1) := by decide +kernel
theorem dL_law_1465 : decode cL_law 1465 = .ok (.iaload, 1) := by decide +kernel
theorem dL_law_1466 : decode cL_law 1466 = .ok (.aload_n 0, 1) := by decide +kernel
theorem dL_law_1467 : decode cL_law 1467 = .ok (.iload_n 3, 1) := by decide +kernel
theorem dL_law_1468 : decode cL_law 1468 = .ok (.iconst 4, 1) := by decide +kernel
theorem dL_law_1469 : decode cL_law 1469 = .ok (.iadd, 1) := by decide +kernel
theorem dL_law_1470 : decode cL_law 1470 = .ok (.iaload, 1) := by decide +kernel
theorem dL_law_1471 : decode cL_law 1471 = .ok (.invokevirtual 148, 3) := by decide +kernel
theorem dL_law_1474 : decode cL_law 1474 = .ok (.if_icmp .eq 117, 3) := by decide +kernel
theorem dL_law_1477 : decode cL_law 1477 = .ok (.iconst 0, 1) := by decide +kernel
theorem dL_law_1478 : decode cL_law 1478 = .ok (.ireturn, 1) := by decide +kernel
theorem dL_law_1479 : decode cL_law 1479 = .ok (.aload_n 1, 1) := by decide +kernel
theorem dL_law_1480 : decode cL_law 1480 = .ok (.aload_n 0, 1) := by decide +kernel
theorem dL_law_1481 : decode cL_law 1481 = .ok (.iload_n 3, 1) := by decide +kernel
theorem dL_law_1482 : decode cL_law 1482 = .ok (.iconst 1, 1) := by decide +kernel
theorem dL_law_1483 : decode cL_law 1483 = .ok (.iadd, 1) := by decide +kernel
theorem dL_law_1484 : decode cL_law 1484 = .ok (.iaload, 1) := by decide +kernel
theorem dL_law_1485 : decode cL_law 1485 = .ok (.aload_n 0, 1) := by decide +kernel
theorem dL_law_1486 : decode cL_law 1486 = .ok (.iload_n 3, 1) := by decide +kernel
theorem dL_law_1487 : decode cL_law 1487 = .ok (.iconst 2, 1) := by decide +kernel
theorem dL_law_1488 : decode cL_law 1488 = .ok (.iadd, 1) := by decide +kernel
theorem dL_law_1489 : decode cL_law 1489 = .ok (.iaload, 1) := by decide +kernel
theorem dL_law_1490 : decode cL_law 1490 = .ok (.invokevirtual 149, 3) := by decide +kernel
theorem dL_law_1493 : decode cL_law 1493 = .ok (.aload_n 2, 1) := by decide +kernel
theorem dL_law_1494 : decode cL_law 1494 = .ok (.aload_n 0, 1) := by decide +kernel
theorem dL_law_1495 : decode cL_law 1495 = .ok (.iload_n 3, 1) := by decide +kernel
theorem dL_law_1496 : decode cL_law 1496 = .ok (.iconst 1, 1) := by decide +kernel
theorem dL_law_1497 : decode cL_law 1497 = .ok (.iadd, 1) := by decide +kernel
theorem dL_law_1498 : decode cL_law 1498 = .ok (.iaload, 1) := by decide +kernel
theorem dL_law_1499 : decode cL_law 1499 = .ok (.aload_n 0, 1) := by decide +kernel
theorem dL_law_1500 : decode cL_law 1500 = .ok (.iload_n 3, 1) := by decide +kernel
theorem dL_law_1501 : decode cL_law 1501 = .ok (.iconst 2, 1) := by decide +kernel
theorem dL_law_1502 : decode cL_law 1502 = .ok (.iadd, 1) := by decide +kernel
theorem dL_law_1503 : decode cL_law 1503 = .ok (.iaload, 1) := by decide +kernel
theorem dL_law_1504 : decode cL_law 1504 = .ok (.invokevirtual 152, 3) := by decide +kernel
theorem dL_law_1507 : decode cL_law 1507 = .ok (.if_icmp .eq 84, 3) := by decide +kernel
theorem dL_law_1510 : decode cL_law 1510 = .ok (.iconst 0, 1) := by decide +kernel
theorem dL_law_1511 : decode cL_law 1511 = .ok (.ireturn, 1) := by decide +kernel
theorem dL_law_1512 : decode cL_law 1512 = .ok (.aload_n 1, 1) := by decide +kernel
theorem dL_law_1513 : decode cL_law 1513 = .ok (.invokevirtual 153, 3) := by decide +kernel
theorem dL_law_1516 : decode cL_law 1516 = .ok (.aload_n 2, 1) := by decide +kernel
theorem dL_law_1517 : decode cL_law 1517 = .ok (.invokevirtual 156, 3) := by decide +kernel
theorem dL_law_1520 : decode cL_law 1520 = .ok (.if_icmp .eq 71, 3) := by decide +kernel
theorem dL_law_1523 : decode cL_law 1523 = .ok (.iconst 0, 1) := by decide +kernel
theorem dL_law_1524 : decode cL_law 1524 = .ok (.ireturn, 1) := by decide +kernel
theorem dL_law_1525 : decode cL_law 1525 = .ok (.aload_n 1, 1) := by decide +kernel
theorem dL_law_1526 : decode cL_law 1526 = .ok (.aload_n 0, 1) := by decide +kernel
theorem dL_law_1527 : decode cL_law 1527 = .ok (.iload_n 3, 1) := by decide +kernel
theorem dL_law_1528 : decode cL_law 1528 = .ok (.iconst 1, 1) := by decide +kernel
theorem dL_law_1529 : decode cL_law 1529 = .ok (.iadd, 1) := by decide +kernel
theorem dL_law_1530 : decode cL_law 1530 = .ok (.iaload, 1) := by decide +kernel
theorem dL_law_1531 : decode cL_law 1531 = .ok (.aload_n 0, 1) := by decide +kernel
theorem dL_law_1532 : decode cL_law 1532 = .ok (.iload_n 3, 1) := by decide +kernel
theorem dL_law_1533 : decode cL_law 1533 = .ok (.iconst 2, 1) := by decide +kernel
theorem dL_law_1534 : decode cL_law 1534 = .ok (.iadd, 1) := by decide +kernel
theorem dL_law_1535 : decode cL_law 1535 = .ok (.iaload, 1) := by decide +kernel
theorem dL_law_1536 : decode cL_law 1536 = .ok (.aload_n 0, 1) := by decide +kernel
theorem dL_law_1537 : decode cL_law 1537 = .ok (.iload_n 3, 1) := by decide +kernel
theorem dL_law_1538 : decode cL_law 1538 = .ok (.iconst 3, 1) := by decide +kernel
theorem dL_law_1539 : decode cL_law 1539 = .ok (.iadd, 1) := by decide +kernel
theorem dL_law_1540 : decode cL_law 1540 = .ok (.iaload, 1) := by decide +kernel
theorem dL_law_1541 : decode cL_law 1541 = .ok (.invokevirtual 157, 3) := by decide +kernel
theorem dL_law_1544 : decode cL_law 1544 = .ok (.aload_n 2, 1) := by decide +kernel
theorem dL_law_1545 : decode cL_law 1545 = .ok (.aload_n 0, 1) := by decide +kernel
theorem dL_law_1546 : decode cL_law 1546 = .ok (.iload_n 3, 1) := by decide +kernel
theorem dL_law_1547 : decode cL_law 1547 = .ok (.iconst 1, 1) := by decide +kernel
theorem dL_law_1548 : decode cL_law 1548 = .ok (.iadd, 1) := by decide +kernel
theorem dL_law_1549 : decode cL_law 1549 = .ok (.iaload, 1) := by decide +kernel
theorem dL_law_1550 : decode cL_law 1550 = .ok (.aload_n 0, 1) := by decide +kernel
theorem dL_law_1551 : decode cL_law 1551 = .ok (.iload_n 3, 1) := by decide +kernel
theorem dL_law_1552 : decode cL_law 1552 = .ok (.iconst 2, 1) := by decide +kernel
theorem dL_law_1553 : decode cL_law 1553 = .ok (.iadd, 1) := by decide +kernel
theorem dL_law_1554 : decode cL_law 1554 = .ok (.iaload, 1) := by decide +kernel
theorem dL_law_1555 : decode cL_law 1555 = .ok (.aload_n 0, 1) := by decide +kernel
theorem dL_law_1556 : decode cL_law 1556 = .ok (.iload_n 3, 1) := by decide +kernel
theorem dL_law_1557 : decode cL_law 1557 = .ok (.iconst 3, 1) := by decide +kernel
theorem dL_law_1558 : decode cL_law 1558 = .ok (.iadd, 1) := by decide +kernel
theorem dL_law_1559 : decode cL_law 1559 = .ok (.iaload, 1) := by decide +kernel
theorem dL_law_1560 : decode cL_law 1560 = .ok (.invokevirtual 160, 3) := by decide +kernel
theorem dL_law_1563 : decode cL_law 1563 = .ok (.if_icmp .eq 28, 3) := by decide +kernel
theorem dL_law_1566 : decode cL_law 1566 = .ok (.iconst 0, 1) := by decide +kernel
theorem dL_law_1567 : decode cL_law 1567 = .ok (.ireturn, 1) := by decide +kernel
theorem dL_law_1568 : decode cL_law 1568 = .ok (.aload_n 1, 1) := by decide +kernel
theorem dL_law_1569 : decode cL_law 1569 = .ok (.aload_n 0, 1) := by decide +kernel
theorem dL_law_1570 : decode cL_law 1570 = .ok (.iload_n 3, 1) := by decide +kernel
theorem dL_law_1571 : decode cL_law 1571 = .ok (.iconst 1, 1) := by decide +kernel
theorem dL_law_1572 : decode cL_law 1572 = .ok (.iadd, 1) := by decide +kernel
theorem dL_law_1573 : decode cL_law 1573 = .ok (.iaload, 1) := by decide +kernel
theorem dL_law_1574 : decode cL_law 1574 = .ok (.invokevirtual 161, 3) := by decide +kernel
theorem dL_law_1577 : decode cL_law 1577 = .ok (.aload_n 2, 1) := by decide +kernel
theorem dL_law_1578 : decode cL_law 1578 = .ok (.aload_n 0, 1) := by decide +kernel
theorem dL_law_1579 : decode cL_law 1579 = .ok (.iload_n 3, 1) := by decide +kernel
theorem dL_law_1580 : decode cL_law 1580 = .ok (.iconst 1, 1) := by decide +kernel
theorem dL_law_1581 : decode cL_law 1581 = .ok (.iadd, 1) := by decide +kernel
theorem dL_law_1582 : decode cL_law 1582 = .ok (.iaload, 1) := by decide +kernel
theorem dL_law_1583 : decode cL_law 1583 = .ok (.invokevirtual 164, 3) := by decide +kernel
theorem dL_law_1586 : decode cL_law 1586 = .ok (.if_icmp .eq 5, 3) := by decide +kernel
theorem dL_law_1589 : decode cL_law 1589 = .ok (.iconst 0, 1) := by decide +kernel
theorem dL_law_1590 : decode cL_law 1590 = .ok (.ireturn, 1) := by decide +kernel
theorem dL_law_1591 : decode cL_law 1591 = .ok (.iinc 3 8, 3) := by decide +kernel
theorem dL_law_1594 : decode cL_law 1594 = .ok (.goto (-1576), 3) := by decide +kernel
theorem dL_law_1597 : decode cL_law 1597 = .ok (.iconst 1, 1) := by decide +kernel
theorem dL_law_1598 : decode cL_law 1598 = .ok (.ireturn, 1) := by decide +kernel
end
section
def kdL : List (Nat × Nat) := [(9, 11), (8, 8), (11, 8), (11, 16), (11, 16), (11, 16), (11, 16), (11, 16), (12, 16), (11, 3), (1, 8), (11, 24), (11, 24), (11, 24), (11, 24), (11, 24), (1, 8), (11, 10), (11, 10), (11, 10), (11, 10), (11, 10), (4, 4), (11, 6), (11, 10), (13, 6), (0, 5), (11, 8), (11, 8), (11, 8), (0, 5), (11, 8), (11, 8), (11, 8), (0, 5), (11, 8), (11, 8), (11, 8), (0, 5), (11, 8), (11, 8), (11, 8), (0, 5), (11, 8), (11, 8), (11, 8), (0, 5), (11, 8), (11, 8), (11, 8), (14, 2), (3, 5), (11, 6), (11, 6), (11, 6), (11, 6), (3, 5), (11, 6), (11, 6), (11, 6), (11, 6), (7, 8), (11, 160), (11, 8), (11, 8), (11, 8), (6, 3), (11, 4), (11, 4), (2, 10), (11, 10), (11, 10), (11, 10), (11, 10), (11, 6), (11, 40), (5, 4), (11, 12), (11, 12), (11, 12), (10, 48), (11, 8), (11, 16), (11, 16), (11, 16), (11, 16), (11, 16), (12, 16), (11, 6), (11, 160), (11, 7), (11, 56), (11, 56), (11, 56), (11, 18), (11, 3), (11, 34), (11, 34), (11, 34), (11, 34), (11, 34), (11, 34), (11, 34), (11, 10), (11, 10), (11, 12), (11, 12), (11, 12), (11, 2), (11, 4), (11, 4), (11, 4), (11, 4), (11, 12), (11, 12), (11, 12), (11, 12)]
def rtL : List (List (Option Nat)) := [[some 1, some 25, some 61, some 9, some 10, some 16, some 50, some 66, some 22, some 69, some 76], [some 2, some 3, some 4, some 5, some 6, some 7, some 8, none], [], [], [], [], [], [], [], [], [some 11, some 12, some 13, some 14, some 15, some 9, none, none], [], [], [], [], [], [some 17, some 18, some 19, some 20, some 21, some 9, none, none], [], [], [], [], [], [some 1, some 10, some 23, some 24], [], [], [some 26, some 30, some 34, some 38, some 42, some 46], [some 27, some 28, some 29, none, none], [], [], [], [some 31, some 32, some 33, none, none], [], [], [], [some 35, some 36, some 37, none, none], [], [], [], [some 39, some 40, some 41, none, none], [], [], [], [some 43, some 44, some 45, none, none], [], [], [], [some 47, some 48, some 49, none, none], [], [], [], [some 51, some 56], [some 52, some 53, some 54, some 55, none], [], [], [], [], [some 57, some 58, some 59, some 60, none], [], [], [], [], [some 62, some 63, some 64, some 65, none, none, none, none], [], [], [], [], [some 67, some 68, none], [], [], [some 1, some 22, some 16, some 70, some 71, some 72, some 73, some 74, some 75, none], [], [], [], [], [], [], [some 77, some 78, some 79, none], [], [], [], [some 81, some 82, some 83, some 84, some 85, some 86, some 87, none, some 88, some 89, none, some 90, some 91, some 92, some 93, some 94, none, some 95, some 96, some 97, some 98, some 99, some 100, some 101, some 102, none, none, some 103, some 104, some 105, some 106, some 107, some 108, some 109, some 110, some 111, some 112, none, some 113, some 114, some 115, some 116, none, none, none, none, none, none], [], [], [], [], [], [], [], [], [], [], [], [], [], [], [], [], [], [], [], [], [], [], [], [], [], [], [], [], [], [], [], [], [], [], [], []]
def kd (k : Nat) : Nat := (kdL.getD k (99, 0)).1
def ln (k : Nat) : Nat := (kdL.getD k (99, 0)).2
def rt (k j : Nat) : Option Nat := (rtL.getD k []).getD j none
abbrev NT : Nat := 117
end
section
/-! THE CALCULUS. After the two constructors the heap's shape is fixed (part 04: 117 cells, kinds, lengths, references); what changes is ints. A memory A : cell -> place -> Int32. 'Ev' says of a method's frame at pc, with locals ls, operand stack st and memory A (references by their cells' numbers, 1000000 and on for what is foreign: texts, constants), that the machine comes from there to a return with (value, memory) in Q; 'Ct' is a method's contract in these words. -/
abbrev Mem : Type := Nat → Nat → Int32
def updR (A : Mem) (k : Nat) (f : Nat → Int32) : Mem := fun q => if q = k then f else A q
def isNest : Cond → Bool
  | .fieldLinkNest _ _ _ _ _ _ => true
  | .methodLinkNest _ _ _ _ => true
  | _ => false
def lw_good : List Cond := lw_tbl.filter goodWord
def lw_nest : List Cond := lw_tbl.filter isNest
theorem good_in {w : Cond} (h : w ∈ lw_tbl) (g : goodWord w = true) : w ∈ lw_good := List.mem_filter.mpr ⟨h, g⟩
theorem nest_in {w : Cond} (h : w ∈ lw_tbl) (g : isNest w = true) : w ∈ lw_nest := List.mem_filter.mpr ⟨h, g⟩
/-- a value by its cell's number, as the machine has it -/
def cv (ad : Nat → Nat) : Value → Value
  | .ref k => .ref (ad k)
  | v => v
theorem cv_cat (ad : Nat → Nat) (v : Value) : (cv ad v).category = v.category := by cases v <;> rfl
/-- a field's value -/
def fv (ad : Nat → Nat) (A : Mem) (k j : Nat) : Value := match rt k j with
  | some r => .ref (ad r)
  | none => .int (A k j)
/-- a cell -/
def ce (ad : Nat → Nat) (cy : Nat → ClassId) (A : Mem) (k : Nat) : va_E :=
  if kd k < 11 then .inr (kd k, (List.range (ln k)).map (fv ad A k))
  else if kd k < 13 then .inl (cy (kd k), ln k, .inl (A k))
  else .inl (cy (kd k), ln k, .inr (.inr (.inr (.inr (fun j => (rt k j).map ad)))))
def wl (ad : Nat → Nat) (cy : Nat → ClassId) (A : Mem) : va_W := (List.range NT).map (fun k => (ad k, ce ad cy A k))
def tyl (cy : Nat → ClassId) : List (ClassId × FieldType) := [(cy 11, .int), (cy 12, .boolean), (cy 13, .object RX0), (cy 14, .object RX3)]
theorem wl_at (ad : Nat → Nat) (cy : Nat → ClassId) (A : Mem) {k : Nat} (h : k < NT) : (wl ad cy A)[k]? = some (ad k, ce ad cy A k) := by
  unfold wl
  rw [List.getElem?_map, List.getElem?_range h]
  rfl
theorem wl_of {ad : Nat → Nat} {cy : Nat → ClassId} {A : Mem} {k : Nat} {q : Nat × va_E} (h : (wl ad cy A)[k]? = some q) : k < NT ∧ q = (ad k, ce ad cy A k) := by
  have hk : k < NT := by
    have h1 := (List.getElem?_eq_some_iff.mp h).1
    unfold wl at h1
    rw [List.length_map, List.length_range] at h1
    exact h1
  refine ⟨hk, ?_⟩
  rw [wl_at ad cy A hk] at h
  exact (Option.some.inj h).symm
theorem ce_obj {ad : Nat → Nat} {cy : Nat → ClassId} {A : Mem} {k ci : Nat} (h : kd k = ci) (hc : ci < 11) : ce ad cy A k = .inr (ci, (List.range (ln k)).map (fv ad A k)) := by
  unfold ce
  rw [h, if_pos hc]
theorem ce_arr {ad : Nat → Nat} {cy : Nat → ClassId} {A : Mem} {k ci : Nat} (h : kd k = ci) (hc : ¬ ci < 11) (hc2 : ci < 13) : ce ad cy A k = .inl (cy ci, ln k, .inl (A k)) := by
  unfold ce
  rw [h, if_neg hc, if_pos hc2]
theorem ce_refs {ad : Nat → Nat} {cy : Nat → ClassId} {A : Mem} {k ci : Nat} (h : kd k = ci) (hc2 : ¬ ci < 13) : ce ad cy A k = .inl (cy ci, ln k, .inr (.inr (.inr (.inr (fun j => (rt k j).map ad))))) := by
  unfold ce
  rw [h, if_neg (by omega), if_neg hc2]
theorem updR_self (A : Mem) (k : Nat) (f : Nat → Int32) : updR A k f k = f := by unfold updR; rw [if_pos rfl]
theorem updR_ne (A : Mem) {k q : Nat} (f : Nat → Int32) (h : q ≠ k) : updR A k f q = A q := by unfold updR; rw [if_neg h]
theorem ce_ne {ad : Nat → Nat} {cy : Nat → ClassId} {A : Mem} {k q : Nat} {f : Nat → Int32} (h : q ≠ k) : ce ad cy (updR A k f) q = ce ad cy A q := by
  unfold ce
  have e : fv ad (updR A k f) q = fv ad A q := by
    funext j
    unfold fv
    rw [updR_ne A f h]
  rw [e, updR_ne A f h]
theorem wl_set {ad : Nat → Nat} {cy : Nat → ClassId} {A : Mem} {k : Nat} {f : Nat → Int32} {x : va_E} (h : k < NT) (hx : x = ce ad cy (updR A k f) k) : (wl ad cy A).set k (ad k, x) = wl ad cy (updR A k f) := by
  apply List.ext_getElem?
  intro i
  by_cases hi : i < NT
  · by_cases e : i = k
    · subst e
      rw [List.getElem?_set_self (by unfold wl; rw [List.length_map, List.length_range]; exact hi), wl_at _ _ _ hi, hx]
    · rw [List.getElem?_set_ne (Ne.symm e), wl_at _ _ _ hi, wl_at _ _ _ hi, ce_ne e]
  · rw [List.getElem?_eq_none (by rw [List.length_set]; unfold wl; rw [List.length_map, List.length_range]; omega), List.getElem?_eq_none (by unfold wl; rw [List.length_map, List.length_range]; omega)]
theorem fv_set {ad : Nat → Nat} {A : Mem} {k j : Nat} {v : Int32} (hr : rt k j = none) (hj : j < ln k) : ((List.range (ln k)).map (fv ad A k)).set j (.int v) = (List.range (ln k)).map (fv ad (updR A k (upd (A k) j v)) k) := by
  apply List.ext_getElem?
  intro i
  by_cases hi : i < ln k
  · by_cases e : i = j
    · subst e
      rw [List.getElem?_set_self (by rw [List.length_map, List.length_range]; exact hi), List.getElem?_map, List.getElem?_range hi]
      simp only [Option.map_some, fv, hr, updR_self, upd, if_true]
    · rw [List.getElem?_set_ne (Ne.symm e), List.getElem?_map, List.getElem?_map, List.getElem?_range hi]
      simp only [Option.map_some, fv, updR_self, upd, if_neg e]
  · rw [List.getElem?_eq_none (by rw [List.length_set, List.length_map, List.length_range]; omega), List.getElem?_eq_none (by rw [List.length_map, List.length_range]; omega)]
/-- the region that a method may write: the cells, and what is new -/
def AR (ad : Nat → Nat) (sz : Nat) : Nat → Prop := fun q => (∃ k, k < NT ∧ q = ad k) ∨ sz ≤ q
def lenS : List Nat := [2, 4, 2, 5, 5, 5, 4, 5, 4, 1]
def bytS : List (List Int32) := [[97, 116], [102, 114, 111, 109], [116, 111], [98, 101, 103, 105, 110], [114, 105, 103, 104, 116], [119, 114, 111, 110, 103], [108, 97, 116, 101], [97, 108, 105, 107, 101], [110, 101, 101, 100], [59]]
def cpS : List Nat := [55, 61, 63, 69, 71, 73, 75, 77, 79, 49]
def txS : List String := ["at", "from", "to", "begin", "right", "wrong", "late", "alike", "need", ";"]
def ptab : Nat → Int32 := fun j => ([50, 10, 30, 0, 0, 40] : List Int32).getD j 0
/-- what a state has beside the heap's own cells: classes, nest words, the cells' addresses apart, the texts, the constants -/
def GX (D : va_G) (cy : Nat → ClassId) (ad : Nat → Nat) (B : Nat → Prop) (U : State) (H : Heap) : Prop :=
  va_K D vwCl (tyl cy) U ∧ (∀ w ∈ lw_nest, va_Nw w U) ∧ (∀ i, i < NT → ∀ j, j < NT → ad i = ad j → i = j) ∧ (∀ k, k < NT → B (ad k)) ∧
  vk_S 10 lenS bytS (fun i => ad (1000000 + i)) (fun i => ad (1000100 + i)) B U H ∧ (∀ i, i < 10 → vk_R RX7 (cpS.getD i 0) (txS.getD i "") (ad (1000000 + i)) U) ∧
  va_Z RX9 "PLAIN_TABLE" "[I" (.ref (ad 1000201)) B U H ∧ va_T .int (ad 1000201) 6 (fun j => .int (ptab j)) B U H ∧
  va_Z RJ0 "COMPACT_STRINGS" "Z" (.int 1) B U H ∧ va_Zq RJ3 "SIOOBE_FORMATTER" "Ljava/util/function/BiFunction;" B U H
theorem nest_warm {w : Cond} (hw : w ∈ lw_nest) {s U : State} (hW : s.WarmedH U.vm) (h : va_Nw w s) : va_Nw w U := by
  have g := (List.mem_filter.mp hw).2
  cases w <;> first | exact va_Nw.warmF hW h | exact va_Nw.warmM hW h | (exfalso; revert g; unfold isNest; decide) | (exfalso; simp [isNest] at g)
theorem nest_same {w : Cond} (hw : w ∈ lw_nest) {s U : State} (hv : s.vm = U.vm) (h : va_Nw w s) : va_Nw w U := by
  have g := (List.mem_filter.mp hw).2
  cases w <;> first | exact va_Nw.same rfl hv h | (exfalso; revert g; unfold isNest; decide) | (exfalso; simp [isNest] at g)
theorem GX.go {D : va_G} {cy : Nat → ClassId} {ad : Nat → Nat} {B B' : Nat → Prop} {s U : State} {H H1 : Heap} (h : GX D cy ad B s H) (hW : s.WarmedH U.vm) (hq : ∀ a : Nat, a < H.size → ¬ B a → H1[a]? = H[a]?) (hB : ∀ q, B' q → B q) (hB2 : ∀ k, k < NT → B' (ad k)) : GX D cy ad B' U H1 := by
  obtain ⟨h1, h2, h3, h4, h5, h6, h7, h8, h9, h10⟩ := h
  exact ⟨h1.moved hW.alike, fun w hw => nest_warm hw hW (h2 w hw), h3, hB2, ((h5.kept hq).moved hW.alike).narrow hB, fun i hi => (h6 i hi).warm hW, ((h7.kept hq).moved hW.alike).narrow hB, ((h8.kept hq).moved hW.alike).narrow hB, ((h9.kept hq).moved hW.alike).narrow hB, ((h10.kept hq).moved hW.alike).narrow hB⟩
theorem GX.same {D : va_G} {cy : Nat → ClassId} {ad : Nat → Nat} {B : Nat → Prop} {s U : State} {H : Heap} (h : GX D cy ad B s H) (hv : s.vm = U.vm) : GX D cy ad B U H := by
  obtain ⟨h1, h2, h3, h4, h5, h6, h7, h8, h9, h10⟩ := h
  have ha : s.vm.Alike U.vm := by rw [hv]; exact Vm.Alike.refl U.vm
  exact ⟨h1.moved ha, fun w hw => nest_same hw hv (h2 w hw), h3, h4, h5.moved ha, fun i hi => (h6 i hi).same hv.symm, h7.moved ha, h8.moved ha, h9.moved ha, h10.moved ha⟩
/-- a frame's fixed things -/
def Cx (cc : ByteArray) (nL : Nat) (own : String) (d : Nat) (scr : Option (Nat × (Nat → Int32))) (p : Program) (R : Room) (s : State) (m : MethodId) (args : Array Value) (c : Code) (D : va_G) (cy : Nat → ClassId) (ad : Nat → Nat) (B : Nat → Prop) (cells slots : Nat) : Prop :=
  p.tables.exec = Jvm.exec ∧ c.code = cc ∧ c.maxLocals = nL ∧ s.vm.findClass own = some m.cls ∧ (∀ w ∈ lw_good, w.before args s = true) ∧ GX D cy ad B s s.heap ∧ (∀ q, s.heap.size ≤ q → B q) ∧ d ≤ R.frames ∧ 40 * d ≤ R.locals ∧ cells ≤ R.cells ∧ slots ≤ R.slots ∧
  (∀ q, scr = some q → va_X (ad 1000300) q.1 q.2 s s.heap ∧ ad 1000300 < s.heap.size ∧ ¬ B (ad 1000300))
/-- the return at which a method ends -/
def Rt (cc : ByteArray) (rty : Option FieldType) (pc : Nat) (v : Option Value) : Prop :=
  (decode cc pc = .ok (.ireturn, 1) ∧ ∃ (x : Int32) (ty : FieldType), v = some (.int x) ∧ rty = some ty ∧ narrow ty (.int x) = .int x) ∨ (decode cc pc = .ok (.return_, 1) ∧ v = none ∧ rty = none) ∨ (decode cc pc = .ok (.areturn, 1) ∧ ∃ (a : Nat) (n : String), v = some (.ref a) ∧ rty = some (.object n))
def cl (ad : Nat → Nat) (ls : List (Nat × Value)) : List (Nat × Value) := ls.map (fun q => (q.1, cv ad q.2))
def Ev (cc : ByteArray) (nL : Nat) (own : String) (rty : Option FieldType) (d : Nat) (scr : Option (Nat × (Nat → Int32))) (pc : Nat) (ls : List (Nat × Value)) (st : List Value) (A : Mem) (Q : Option Value → Mem → Prop) : Prop :=
  ∀ (p : Program) (l : Launch) (e : Env) (R : Room) (s : State) (m : MethodId) (args : Array Value) (below : List Frame) (meth : Method) (c : Code) (D : va_G) (cy : Nat → ClassId) (ad : Nat → Nat) (B : Nat → Prop) (cells slots : Nat) (Qw : State → Prop) (H : Heap) (locs : List Loc) (lsC : Array Slot),
    Cx cc nL own d scr p R s m args c D cy ad B cells slots → va_P D vwCl (wl ad cy A) H → va_S B s.heap H locs → lv_has lsC nL (cl ad ls) →
    (∀ (pc' : Nat) (v : Option Value) (A' : Mem) (H' : Heap) (locs' : List Loc) (ls' : Array Slot), Rt cc rty pc' v → Q v A' → va_P D vwCl (wl ad cy A') H' → va_S B s.heap H' locs' → W p l e R s m args below meth c H' locs' cells slots Qw (F0 m pc' ls' (v.toList.map (cv ad)))) →
    W p l e R s m args below meth c H locs cells slots Qw (F0 m pc lsC (st.map (cv ad)))
/-- a method's contract: from memory A and these arguments it returns, with (value, memory) in Q -/
def Ct (y : MethodName) (cc : ByteArray) (nL : Nat) (rty : Option FieldType) (d : Nat) (av : List Value) (A : Mem) (Q : Option Value → Mem → Prop) : Prop :=
  ∀ (l : Launch) (D : va_G) (cy : Nat → ClassId) (ad : Nat → Nat) (sz : Nat),
    Met l y (.code y cc nL rty :: lw_good) { frames := d, cells := 0, slots := 0, locals := 40 * d } (va_Pc (av.map (cv ad)) (fun U => U.heap.size = sz ∧ GX D cy ad (AR ad sz) U U.heap ∧ va_P D vwCl (wl ad cy A) U.heap))
      (fun _ st oc t => (∃ (v : Option Value) (A' : Mem), oc = .returned (v.map (cv ad)) ∧ Q v A' ∧ va_P D vwCl (wl ad cy A') t.heap) ∧ va_F (AR ad sz) st t) 0 0 (AR ad sz)
end
section
section RULES
variable {cc : ByteArray} {nL : Nat} {own : String} {rty : Option FieldType} {d : Nat} {scr : Option (Nat × (Nat → Int32))} {pc : Nat} {ls : List (Nat × Value)} {st : List Value} {A : Mem} {Q : Option Value → Mem → Prop}
theorem ev_lift {pc' : Nat} {st' : List Value} (h : ∀ (p : Program) (l : Launch) (e : Env) (R : Room) (s : State) (m : MethodId) (args : Array Value) (below : List Frame) (meth : Method) (c : Code) (cells slots : Nat) (Qw : State → Prop) (H : Heap) (locs : List Loc) (lsC : Array Slot) (ad : Nat → Nat), p.tables.exec = Jvm.exec → c.code = cc → s.vm.findClass own = some m.cls → (∀ w ∈ lw_good, w.before args s = true) → lv_has lsC nL (cl ad ls) →
      W p l e R s m args below meth c H locs cells slots Qw (F0 m pc' lsC (st'.map (cv ad))) → W p l e R s m args below meth c H locs cells slots Qw (F0 m pc lsC (st.map (cv ad))))
    (k : Ev cc nL own rty d scr pc' ls st' A Q) : Ev cc nL own rty d scr pc ls st A Q := by
  intro p l e R s m args below meth c D cy ad B cells slots Qw H locs lsC X hP hS hl hQ
  exact h p l e R s m args below meth c cells slots Qw H locs lsC ad X.1 X.2.1 X.2.2.2.1 X.2.2.2.2.1 hl (k p l e R s m args below meth c D cy ad B cells slots Qw H locs lsC X hP hS hl hQ)
theorem ev_lift2 {pc1 pc2 : Nat} {st1 st2 : List Value} {P1 P2 : Prop} (h : ∀ (p : Program) (l : Launch) (e : Env) (R : Room) (s : State) (m : MethodId) (args : Array Value) (below : List Frame) (meth : Method) (c : Code) (cells slots : Nat) (Qw : State → Prop) (H : Heap) (locs : List Loc) (lsC : Array Slot) (ad : Nat → Nat), p.tables.exec = Jvm.exec → c.code = cc →
      (P1 → W p l e R s m args below meth c H locs cells slots Qw (F0 m pc1 lsC (st1.map (cv ad)))) → (P2 → W p l e R s m args below meth c H locs cells slots Qw (F0 m pc2 lsC (st2.map (cv ad)))) → W p l e R s m args below meth c H locs cells slots Qw (F0 m pc lsC (st.map (cv ad))))
    (k1 : P1 → Ev cc nL own rty d scr pc1 ls st1 A Q) (k2 : P2 → Ev cc nL own rty d scr pc2 ls st2 A Q) : Ev cc nL own rty d scr pc ls st A Q := by
  intro p l e R s m args below meth c D cy ad B cells slots Qw H locs lsC X hP hS hl hQ
  exact h p l e R s m args below meth c cells slots Qw H locs lsC ad X.1 X.2.1 (fun h1 => k1 h1 p l e R s m args below meth c D cy ad B cells slots Qw H locs lsC X hP hS hl hQ) (fun h1 => k2 h1 p l e R s m args below meth c D cy ad B cells slots Qw H locs lsC X hP hS hl hQ)
theorem cl_at {ad : Nat → Nat} {k i : Nat} {v : Value} (h : ls[k]? = some (i, v)) : (cl ad ls)[k]? = some (i, cv ad v) := by
  unfold cl
  rw [List.getElem?_map, h]
  rfl
def stf (i : Nat) (ls : List (Nat × Value)) : List (Nat × Value) := ls.filter (fun q => !(q.1 == i) && !(q.1 + 1 == i && q.2.category == 2))
theorem stf_cl (ad : Nat → Nat) (i : Nat) (ls : List (Nat × Value)) : (cl ad ls).filter (fun q => !(q.1 == i) && !(q.1 + 1 == i && q.2.category == 2)) = cl ad (stf i ls) := by
  unfold cl stf
  rw [List.filter_map]
  congr 1
  apply List.filter_congr
  intro q _
  simp only [Function.comp, cv_cat]
/-- other names for the locals: some of them, in another order -/
theorem ev_pick (ks : List Nat) {ls' : List (Nat × Value)} (h : ks.filterMap (fun k => ls[k]?) = ls') (k : Ev cc nL own rty d scr pc ls' st A Q) : Ev cc nL own rty d scr pc ls st A Q := by
  intro p l e R s m args below meth c D cy ad B cells slots Qw H locs lsC X hP hS hl hQ
  refine k p l e R s m args below meth c D cy ad B cells slots Qw H locs lsC X hP hS ⟨hl.1, hl.2.1, fun q hq => ?_⟩ hQ
  subst h
  unfold cl at hq
  obtain ⟨q0, h0, rfl⟩ := List.mem_map.mp hq
  obtain ⟨i, -, hi⟩ := List.mem_filterMap.mp h0
  exact hl.2.2 _ (List.mem_map.mpr ⟨q0, List.mem_of_getElem? hi, rfl⟩)
theorem ev_mono {Q' : Option Value → Mem → Prop} (h : ∀ v A, Q' v A → Q v A) (k : Ev cc nL own rty d scr pc ls st A Q') : Ev cc nL own rty d scr pc ls st A Q := by
  intro p l e R s m args below meth c D cy ad B cells slots Qw H locs lsC X hP hS hl hQ
  exact k p l e R s m args below meth c D cy ad B cells slots Qw H locs lsC X hP hS hl (fun pc' v A' H' locs' ls' a b => hQ pc' v A' H' locs' ls' a (h v A' b))
theorem ev_top {v w : Value} (h : v = w) (k : Ev cc nL own rty d scr pc ls (w :: st) A Q) : Ev cc nL own rty d scr pc ls (v :: st) A Q := h ▸ k
theorem ev_iconst {n : Int} {v : Int32} (hd : decode cc pc = .ok (.iconst n, 1)) (hv : Int32.ofInt n = v) (k : Ev cc nL own rty d scr (pc + 1) ls (.int v :: st) A Q) : Ev cc nL own rty d scr pc ls (st) A Q := ev_lift (st := st) (st' := .int v :: st) (fun p l e R s m args below meth c cells slots Qw H locs lsC ad hx hb ho ht hl w => lv_iconst hx hb hd hv w) k
theorem ev_bipush {n : Int} {v : Int32} (hd : decode cc pc = .ok (.bipush n, 2)) (hv : (Int8.ofInt n).toInt32 = v) (k : Ev cc nL own rty d scr (pc + 2) ls (.int v :: st) A Q) : Ev cc nL own rty d scr pc ls (st) A Q := ev_lift (st := st) (st' := .int v :: st) (fun p l e R s m args below meth c cells slots Qw H locs lsC ad hx hb ho ht hl w => lv_bipush hx hb hd hv w) k
theorem ev_sipush {n : Int} {v : Int32} (hd : decode cc pc = .ok (.sipush n, 3)) (hv : (Int16.ofInt n).toInt32 = v) (k : Ev cc nL own rty d scr (pc + 3) ls (.int v :: st) A Q) : Ev cc nL own rty d scr pc ls (st) A Q := ev_lift (st := st) (st' := .int v :: st) (fun p l e R s m args below meth c cells slots Qw H locs lsC ad hx hb ho ht hl w => lv_sipush hx hb hd hv w) k
theorem ev_lconst {n : Fin 2} {v : Int64} (hd : decode cc pc = .ok (.lconst n, 1)) (hv : Int64.ofNat (n : Nat) = v) (k : Ev cc nL own rty d scr (pc + 1) ls (.long v :: st) A Q) : Ev cc nL own rty d scr pc ls (st) A Q := ev_lift (st := st) (st' := .long v :: st) (fun p l e R s m args below meth c cells slots Qw H locs lsC ad hx hb ho ht hl w => lv_lconst hx hb hd hv w) k
theorem ev_ldc {i : Nat} {v : Int32} (hd : decode cc pc = .ok (.ldc i, 2)) (hw : Cond.constant own i v ∈ lw_good) (k : Ev cc nL own rty d scr (pc + 2) ls (.int v :: st) A Q) : Ev cc nL own rty d scr pc ls (st) A Q := ev_lift (st := st) (st' := .int v :: st) (fun p l e R s m args below meth c cells slots Qw H locs lsC ad hx hb ho ht hl w => lv_ldc hx hb ho (ht _ hw) hd w) k
theorem ev_ldcw {i : Nat} {v : Int32} (hd : decode cc pc = .ok (.ldc_w i, 3)) (hw : Cond.constant own i v ∈ lw_good) (k : Ev cc nL own rty d scr (pc + 3) ls (.int v :: st) A Q) : Ev cc nL own rty d scr pc ls (st) A Q := ev_lift (st := st) (st' := .int v :: st) (fun p l e R s m args below meth c cells slots Qw H locs lsC ad hx hb ho ht hl w => lv_ldcw hx hb ho (ht _ hw) hd w) k
theorem ev_ldc2 {i : Nat} {v : Int64} (hd : decode cc pc = .ok (.ldc2_w i, 3)) (hw : Cond.constantLong own i v ∈ lw_good) (k : Ev cc nL own rty d scr (pc + 3) ls (.long v :: st) A Q) : Ev cc nL own rty d scr pc ls (st) A Q := ev_lift (st := st) (st' := .long v :: st) (fun p l e R s m args below meth c cells slots Qw H locs lsC ad hx hb ho ht hl w => lv_ldc2 hx hb ho (ht _ hw) hd w) k
theorem ev_iload_n {x : Int32} {n : Fin 4} {i : Nat} (q : Nat) (hd : decode cc pc = .ok (.iload_n n, 1)) (hi : (n : Nat) = i) (hq : ls[q]? = some (i, .int x)) (k : Ev cc nL own rty d scr (pc + 1) ls (.int x :: st) A Q) : Ev cc nL own rty d scr pc ls (st) A Q := ev_lift (st := st) (st' := .int x :: st) (fun p l e R s m args below meth c cells slots Qw H locs lsC ad hx hb ho ht hl w => lv_iload_n hx hb hd hi (lv_at hl q (cl_at hq)) w) k
theorem ev_iload {x : Int32} {i : Nat} (q : Nat) (hd : decode cc pc = .ok (.iload i, 2)) (hq : ls[q]? = some (i, .int x)) (k : Ev cc nL own rty d scr (pc + 2) ls (.int x :: st) A Q) : Ev cc nL own rty d scr pc ls (st) A Q := ev_lift (st := st) (st' := .int x :: st) (fun p l e R s m args below meth c cells slots Qw H locs lsC ad hx hb ho ht hl w => lv_iload hx hb hd (lv_at hl q (cl_at hq)) w) k
theorem ev_lload_n {x : Int64} {n : Fin 4} {i : Nat} (q : Nat) (hd : decode cc pc = .ok (.lload_n n, 1)) (hi : (n : Nat) = i) (hq : ls[q]? = some (i, .long x)) (k : Ev cc nL own rty d scr (pc + 1) ls (.long x :: st) A Q) : Ev cc nL own rty d scr pc ls (st) A Q := ev_lift (st := st) (st' := .long x :: st) (fun p l e R s m args below meth c cells slots Qw H locs lsC ad hx hb ho ht hl w => lv_lload_n hx hb hd hi (lv_at hl q (cl_at hq)) w) k
theorem ev_lload {x : Int64} {i : Nat} (q : Nat) (hd : decode cc pc = .ok (.lload i, 2)) (hq : ls[q]? = some (i, .long x)) (k : Ev cc nL own rty d scr (pc + 2) ls (.long x :: st) A Q) : Ev cc nL own rty d scr pc ls (st) A Q := ev_lift (st := st) (st' := .long x :: st) (fun p l e R s m args below meth c cells slots Qw H locs lsC ad hx hb ho ht hl w => lv_lload hx hb hd (lv_at hl q (cl_at hq)) w) k
theorem ev_aload_n {x : Nat} {n : Fin 4} {i : Nat} (q : Nat) (hd : decode cc pc = .ok (.aload_n n, 1)) (hi : (n : Nat) = i) (hq : ls[q]? = some (i, .ref x)) (k : Ev cc nL own rty d scr (pc + 1) ls (.ref x :: st) A Q) : Ev cc nL own rty d scr pc ls (st) A Q := ev_lift (st := st) (st' := .ref x :: st) (fun p l e R s m args below meth c cells slots Qw H locs lsC ad hx hb ho ht hl w => lv_aload_n hx hb hd hi (lv_at hl q (cl_at hq)) w) k
theorem ev_aload {x : Nat} {i : Nat} (q : Nat) (hd : decode cc pc = .ok (.aload i, 2)) (hq : ls[q]? = some (i, .ref x)) (k : Ev cc nL own rty d scr (pc + 2) ls (.ref x :: st) A Q) : Ev cc nL own rty d scr pc ls (st) A Q := ev_lift (st := st) (st' := .ref x :: st) (fun p l e R s m args below meth c cells slots Qw H locs lsC ad hx hb ho ht hl w => lv_aload hx hb hd (lv_at hl q (cl_at hq)) w) k
theorem ev_istore_n {x : Int32} {n : Fin 4} {i : Nat} {ls' : List (Nat × Value)} (hd : decode cc pc = .ok (.istore_n n, 1)) (hi : (n : Nat) = i) (hn : i < nL) (hs : (i, .int x) :: stf i ls = ls') (k : Ev cc nL own rty d scr (pc + 1) ls' st A Q) : Ev cc nL own rty d scr pc ls (.int x :: st) A Q := by
  intro p l e R s m args below meth c D cy ad B cells slots Qw H locs lsC X hP hS hl hQ
  subst hs
  exact lv_istore_n X.1 X.2.1 hd hi hl hn (by rw [stf_cl]; rfl) (fun ls2 h2 => k p l e R s m args below meth c D cy ad B cells slots Qw H locs ls2 X hP hS h2 hQ)
theorem ev_istore {x : Int32} {i : Nat} {ls' : List (Nat × Value)} (hd : decode cc pc = .ok (.istore i, 2)) (hn : i < nL) (hs : (i, .int x) :: stf i ls = ls') (k : Ev cc nL own rty d scr (pc + 2) ls' st A Q) : Ev cc nL own rty d scr pc ls (.int x :: st) A Q := by
  intro p l e R s m args below meth c D cy ad B cells slots Qw H locs lsC X hP hS hl hQ
  subst hs
  exact lv_istore X.1 X.2.1 hd hl hn (by rw [stf_cl]; rfl) (fun ls2 h2 => k p l e R s m args below meth c D cy ad B cells slots Qw H locs ls2 X hP hS h2 hQ)
theorem ev_astore_n {x : Nat} {n : Fin 4} {i : Nat} {ls' : List (Nat × Value)} (hd : decode cc pc = .ok (.astore_n n, 1)) (hi : (n : Nat) = i) (hn : i < nL) (hs : (i, .ref x) :: stf i ls = ls') (k : Ev cc nL own rty d scr (pc + 1) ls' st A Q) : Ev cc nL own rty d scr pc ls (.ref x :: st) A Q := by
  intro p l e R s m args below meth c D cy ad B cells slots Qw H locs lsC X hP hS hl hQ
  subst hs
  exact lv_astore_n X.1 X.2.1 hd hi hl hn (by rw [stf_cl]; rfl) (fun ls2 h2 => k p l e R s m args below meth c D cy ad B cells slots Qw H locs ls2 X hP hS h2 hQ)
theorem ev_astore {x : Nat} {i : Nat} {ls' : List (Nat × Value)} (hd : decode cc pc = .ok (.astore i, 2)) (hn : i < nL) (hs : (i, .ref x) :: stf i ls = ls') (k : Ev cc nL own rty d scr (pc + 2) ls' st A Q) : Ev cc nL own rty d scr pc ls (.ref x :: st) A Q := by
  intro p l e R s m args below meth c D cy ad B cells slots Qw H locs lsC X hP hS hl hQ
  subst hs
  exact lv_astore X.1 X.2.1 hd hl hn (by rw [stf_cl]; rfl) (fun ls2 h2 => k p l e R s m args below meth c D cy ad B cells slots Qw H locs ls2 X hP hS h2 hQ)
theorem ev_iinc {x v : Int32} {i : Nat} {n : Int} {ls' : List (Nat × Value)} (q : Nat) (hd : decode cc pc = .ok (.iinc i n, 3)) (hq : ls[q]? = some (i, .int x)) (hv : x + Int32.ofInt n = v) (hn : i < nL) (hs : (i, .int v) :: stf i ls = ls') (k : Ev cc nL own rty d scr (pc + 3) ls' st A Q) : Ev cc nL own rty d scr pc ls st A Q := by
  intro p l e R s m args below meth c D cy ad B cells slots Qw H locs lsC X hP hS hl hQ
  subst hs
  exact lv_iinc (k := q) X.1 X.2.1 hd hl (cl_at hq) hv hn (by rw [stf_cl]; rfl) (fun ls2 h2 => k p l e R s m args below meth c D cy ad B cells slots Qw H locs ls2 X hP hS h2 hQ)
theorem ev_iadd {x y : Int32} (hd : decode cc pc = .ok (.iadd, 1)) (k : Ev cc nL own rty d scr (pc + 1) ls (.int (x + y) :: st) A Q) : Ev cc nL own rty d scr pc ls (.int y :: .int x :: st) A Q := ev_lift (st := .int y :: .int x :: st) (st' := .int (x + y) :: st) (fun p l e R s m args below meth c cells slots Qw H locs lsC ad hx hb ho ht hl w => lv_iadd hx hb hd w) k
theorem ev_isub {x y : Int32} (hd : decode cc pc = .ok (.isub, 1)) (k : Ev cc nL own rty d scr (pc + 1) ls (.int (x - y) :: st) A Q) : Ev cc nL own rty d scr pc ls (.int y :: .int x :: st) A Q := ev_lift (st := .int y :: .int x :: st) (st' := .int (x - y) :: st) (fun p l e R s m args below meth c cells slots Qw H locs lsC ad hx hb ho ht hl w => lv_isub hx hb hd w) k
theorem ev_imul {x y : Int32} (hd : decode cc pc = .ok (.imul, 1)) (k : Ev cc nL own rty d scr (pc + 1) ls (.int (x * y) :: st) A Q) : Ev cc nL own rty d scr pc ls (.int y :: .int x :: st) A Q := ev_lift (st := .int y :: .int x :: st) (st' := .int (x * y) :: st) (fun p l e R s m args below meth c cells slots Qw H locs lsC ad hx hb ho ht hl w => lv_imul hx hb hd w) k
theorem ev_iand {x y : Int32} (hd : decode cc pc = .ok (.iand, 1)) (k : Ev cc nL own rty d scr (pc + 1) ls (.int (x &&& y) :: st) A Q) : Ev cc nL own rty d scr pc ls (.int y :: .int x :: st) A Q := ev_lift (st := .int y :: .int x :: st) (st' := .int (x &&& y) :: st) (fun p l e R s m args below meth c cells slots Qw H locs lsC ad hx hb ho ht hl w => lv_iand hx hb hd w) k
theorem ev_ior {x y : Int32} (hd : decode cc pc = .ok (.ior, 1)) (k : Ev cc nL own rty d scr (pc + 1) ls (.int (x ||| y) :: st) A Q) : Ev cc nL own rty d scr pc ls (.int y :: .int x :: st) A Q := ev_lift (st := .int y :: .int x :: st) (st' := .int (x ||| y) :: st) (fun p l e R s m args below meth c cells slots Qw H locs lsC ad hx hb ho ht hl w => lv_ior hx hb hd w) k
theorem ev_ixor {x y : Int32} (hd : decode cc pc = .ok (.ixor, 1)) (k : Ev cc nL own rty d scr (pc + 1) ls (.int (x ^^^ y) :: st) A Q) : Ev cc nL own rty d scr pc ls (.int y :: .int x :: st) A Q := ev_lift (st := .int y :: .int x :: st) (st' := .int (x ^^^ y) :: st) (fun p l e R s m args below meth c cells slots Qw H locs lsC ad hx hb ho ht hl w => lv_ixor hx hb hd w) k
theorem ev_ishl {x y : Int32} (hd : decode cc pc = .ok (.ishl, 1)) (k : Ev cc nL own rty d scr (pc + 1) ls (.int (x <<< (y &&& 31)) :: st) A Q) : Ev cc nL own rty d scr pc ls (.int y :: .int x :: st) A Q := ev_lift (st := .int y :: .int x :: st) (st' := .int (x <<< (y &&& 31)) :: st) (fun p l e R s m args below meth c cells slots Qw H locs lsC ad hx hb ho ht hl w => lv_ishl hx hb hd w) k
theorem ev_ishr {x y : Int32} (hd : decode cc pc = .ok (.ishr, 1)) (k : Ev cc nL own rty d scr (pc + 1) ls (.int (x >>> (y &&& 31)) :: st) A Q) : Ev cc nL own rty d scr pc ls (.int y :: .int x :: st) A Q := ev_lift (st := .int y :: .int x :: st) (st' := .int (x >>> (y &&& 31)) :: st) (fun p l e R s m args below meth c cells slots Qw H locs lsC ad hx hb ho ht hl w => lv_ishr hx hb hd w) k
theorem ev_idiv {x y : Int32} (hd : decode cc pc = .ok (.idiv, 1)) (hne : ¬ y = 0) (k : Ev cc nL own rty d scr (pc + 1) ls (.int (x / y) :: st) A Q) : Ev cc nL own rty d scr pc ls (.int y :: .int x :: st) A Q := ev_lift (st := .int y :: .int x :: st) (st' := .int (x / y) :: st) (fun p l e R s m args below meth c cells slots Qw H locs lsC ad hx hb ho ht hl w => lv_idiv hx hb hd hne w) k
theorem ev_irem {x y : Int32} (hd : decode cc pc = .ok (.irem, 1)) (hne : ¬ y = 0) (k : Ev cc nL own rty d scr (pc + 1) ls (.int (x - x / y * y) :: st) A Q) : Ev cc nL own rty d scr pc ls (.int y :: .int x :: st) A Q := ev_lift (st := .int y :: .int x :: st) (st' := .int (x - x / y * y) :: st) (fun p l e R s m args below meth c cells slots Qw H locs lsC ad hx hb ho ht hl w => lv_irem hx hb hd hne w) k
theorem ev_ineg {x : Int32} (hd : decode cc pc = .ok (.ineg, 1)) (k : Ev cc nL own rty d scr (pc + 1) ls (.int (-x) :: st) A Q) : Ev cc nL own rty d scr pc ls (.int x :: st) A Q := ev_lift (st := .int x :: st) (st' := .int (-x) :: st) (fun p l e R s m args below meth c cells slots Qw H locs lsC ad hx hb ho ht hl w => lv_ineg hx hb hd w) k
theorem ev_iushr {x y v : Int32} (hd : decode cc pc = .ok (.iushr, 1)) (hv : (x.toUInt32 >>> (y.toUInt32 &&& Int32.toUInt32 31)).toInt32 = v) (k : Ev cc nL own rty d scr (pc + 1) ls (.int v :: st) A Q) : Ev cc nL own rty d scr pc ls (.int y :: .int x :: st) A Q := ev_lift (st := .int y :: .int x :: st) (st' := .int v :: st) (fun p l e R s m args below meth c cells slots Qw H locs lsC ad hx hb ho ht hl w => lv_iushr hx hb hd hv w) k
theorem ev_i2l {x : Int32} (hd : decode cc pc = .ok (.i2l, 1)) (k : Ev cc nL own rty d scr (pc + 1) ls (.long x.toInt64 :: st) A Q) : Ev cc nL own rty d scr pc ls (.int x :: st) A Q := ev_lift (st := .int x :: st) (st' := .long x.toInt64 :: st) (fun p l e R s m args below meth c cells slots Qw H locs lsC ad hx hb ho ht hl w => lv_i2l hx hb hd rfl w) k
theorem ev_l2i {x : Int64} (hd : decode cc pc = .ok (.l2i, 1)) (k : Ev cc nL own rty d scr (pc + 1) ls (.int x.toInt32 :: st) A Q) : Ev cc nL own rty d scr pc ls (.long x :: st) A Q := ev_lift (st := .long x :: st) (st' := .int x.toInt32 :: st) (fun p l e R s m args below meth c cells slots Qw H locs lsC ad hx hb ho ht hl w => lv_l2i hx hb hd rfl w) k
theorem ev_i2c {x : Int32} (hd : decode cc pc = .ok (.i2c, 1)) (k : Ev cc nL own rty d scr (pc + 1) ls (.int (x.toUInt32 % 65536).toInt32 :: st) A Q) : Ev cc nL own rty d scr pc ls (.int x :: st) A Q := ev_lift (st := .int x :: st) (st' := .int (x.toUInt32 % 65536).toInt32 :: st) (fun p l e R s m args below meth c cells slots Qw H locs lsC ad hx hb ho ht hl w => lv_i2c hx hb hd rfl w) k
theorem ev_land {x y : Int64} (hd : decode cc pc = .ok (.land, 1)) (k : Ev cc nL own rty d scr (pc + 1) ls (.long (x &&& y) :: st) A Q) : Ev cc nL own rty d scr pc ls (.long y :: .long x :: st) A Q := ev_lift (st := .long y :: .long x :: st) (st' := .long (x &&& y) :: st) (fun p l e R s m args below meth c cells slots Qw H locs lsC ad hx hb ho ht hl w => lv_land hx hb hd w) k
theorem ev_lor {x y : Int64} (hd : decode cc pc = .ok (.lor, 1)) (k : Ev cc nL own rty d scr (pc + 1) ls (.long (x ||| y) :: st) A Q) : Ev cc nL own rty d scr pc ls (.long y :: .long x :: st) A Q := ev_lift (st := .long y :: .long x :: st) (st' := .long (x ||| y) :: st) (fun p l e R s m args below meth c cells slots Qw H locs lsC ad hx hb ho ht hl w => lv_lor hx hb hd w) k
theorem ev_lshr {x : Int64} {y : Int32} (hd : decode cc pc = .ok (.lshr, 1)) (k : Ev cc nL own rty d scr (pc + 1) ls (.long (x >>> (y.toInt64 &&& 63)) :: st) A Q) : Ev cc nL own rty d scr pc ls (.int y :: .long x :: st) A Q := ev_lift (st := .int y :: .long x :: st) (st' := .long (x >>> (y.toInt64 &&& 63)) :: st) (fun p l e R s m args below meth c cells slots Qw H locs lsC ad hx hb ho ht hl w => lv_lshr hx hb hd rfl w) k
theorem ev_lshl {x : Int64} {y : Int32} (hd : decode cc pc = .ok (.lshl, 1)) (k : Ev cc nL own rty d scr (pc + 1) ls (.long (x <<< (y.toInt64 &&& 63)) :: st) A Q) : Ev cc nL own rty d scr pc ls (.int y :: .long x :: st) A Q := ev_lift (st := .int y :: .long x :: st) (st' := .long (x <<< (y.toInt64 &&& 63)) :: st) (fun p l e R s m args below meth c cells slots Qw H locs lsC ad hx hb ho ht hl w => lv_lshl hx hb hd rfl w) k
theorem ev_lcmp {x y : Int64} (hd : decode cc pc = .ok (.lcmp, 1)) (k : Ev cc nL own rty d scr (pc + 1) ls (.int (lg_cmp x y) :: st) A Q) : Ev cc nL own rty d scr pc ls (.long y :: .long x :: st) A Q := ev_lift (st := .long y :: .long x :: st) (st' := .int (lg_cmp x y) :: st) (fun p l e R s m args below meth c cells slots Qw H locs lsC ad hx hb ho ht hl w => W.lcmp hx hb hd w) k
theorem ev_dup {v : Value} (hd : decode cc pc = .ok (.dup, 1)) (hc : v.category = 1) (k : Ev cc nL own rty d scr (pc + 1) ls (v :: v :: st) A Q) : Ev cc nL own rty d scr pc ls (v :: st) A Q := ev_lift (st := v :: st) (st' := v :: v :: st) (fun p l e R s m args below meth c cells slots Qw H locs lsC ad hx hb ho ht hl w => lv_dup hx hb hd ((cv_cat ad v).trans hc) w) k
theorem ev_pop {v : Value} (hd : decode cc pc = .ok (.pop, 1)) (hc : v.category = 1) (k : Ev cc nL own rty d scr (pc + 1) ls (st) A Q) : Ev cc nL own rty d scr pc ls (v :: st) A Q := ev_lift (st := v :: st) (st' := st) (fun p l e R s m args below meth c cells slots Qw H locs lsC ad hx hb ho ht hl w => lv_pop hx hb hd ((cv_cat ad v).trans hc) w) k
theorem ev_dup2 {v u : Value} (hd : decode cc pc = .ok (.dup2, 1)) (hc : v.category = 1) (hu : u.category = 1) (k : Ev cc nL own rty d scr (pc + 1) ls (v :: u :: v :: u :: st) A Q) : Ev cc nL own rty d scr pc ls (v :: u :: st) A Q := ev_lift (st := v :: u :: st) (st' := v :: u :: v :: u :: st) (fun p l e R s m args below meth c cells slots Qw H locs lsC ad hx hb ho ht hl w => lv_dup2_11 hx hb hd ((cv_cat ad v).trans hc) ((cv_cat ad u).trans hu) w) k
theorem ev_if_eq {x : Int32} {off : Int} {tgt : Nat} (hd : decode cc pc = .ok (.ifCond .eq off, 3)) (ht : (pc : Int) + off = (tgt : Int)) (kt : x = 0 → Ev cc nL own rty d scr tgt ls st A Q) (kf : ¬ x = 0 → Ev cc nL own rty d scr (pc + 3) ls st A Q) : Ev cc nL own rty d scr pc ls (.int x :: st) A Q := ev_lift2 (st := .int x :: st) (st1 := st) (st2 := st) (fun p l e R s m args below meth c cells slots Qw H locs lsC ad hx hb w1 w2 => lv_if_eq hx hb hd ht w1 w2) kt kf
theorem ev_icmp_eq {x y : Int32} {off : Int} {tgt : Nat} (hd : decode cc pc = .ok (.if_icmp .eq off, 3)) (ht : (pc : Int) + off = (tgt : Int)) (kt : x = y → Ev cc nL own rty d scr tgt ls st A Q) (kf : ¬ x = y → Ev cc nL own rty d scr (pc + 3) ls st A Q) : Ev cc nL own rty d scr pc ls (.int y :: .int x :: st) A Q := ev_lift2 (st := .int y :: .int x :: st) (st1 := st) (st2 := st) (fun p l e R s m args below meth c cells slots Qw H locs lsC ad hx hb w1 w2 => lv_icmp_eq hx hb hd ht w1 w2) kt kf
theorem ev_if_ne {x : Int32} {off : Int} {tgt : Nat} (hd : decode cc pc = .ok (.ifCond .ne off, 3)) (ht : (pc : Int) + off = (tgt : Int)) (kt : ¬ x = 0 → Ev cc nL own rty d scr tgt ls st A Q) (kf : x = 0 → Ev cc nL own rty d scr (pc + 3) ls st A Q) : Ev cc nL own rty d scr pc ls (.int x :: st) A Q := ev_lift2 (st := .int x :: st) (st1 := st) (st2 := st) (fun p l e R s m args below meth c cells slots Qw H locs lsC ad hx hb w1 w2 => lv_if_ne hx hb hd ht w1 w2) kt kf
theorem ev_icmp_ne {x y : Int32} {off : Int} {tgt : Nat} (hd : decode cc pc = .ok (.if_icmp .ne off, 3)) (ht : (pc : Int) + off = (tgt : Int)) (kt : ¬ x = y → Ev cc nL own rty d scr tgt ls st A Q) (kf : x = y → Ev cc nL own rty d scr (pc + 3) ls st A Q) : Ev cc nL own rty d scr pc ls (.int y :: .int x :: st) A Q := ev_lift2 (st := .int y :: .int x :: st) (st1 := st) (st2 := st) (fun p l e R s m args below meth c cells slots Qw H locs lsC ad hx hb w1 w2 => lv_icmp_ne hx hb hd ht w1 w2) kt kf
theorem ev_if_lt {x : Int32} {off : Int} {tgt : Nat} (hd : decode cc pc = .ok (.ifCond .lt off, 3)) (ht : (pc : Int) + off = (tgt : Int)) (kt : x < 0 → Ev cc nL own rty d scr tgt ls st A Q) (kf : ¬ x < 0 → Ev cc nL own rty d scr (pc + 3) ls st A Q) : Ev cc nL own rty d scr pc ls (.int x :: st) A Q := ev_lift2 (st := .int x :: st) (st1 := st) (st2 := st) (fun p l e R s m args below meth c cells slots Qw H locs lsC ad hx hb w1 w2 => lv_if_lt hx hb hd ht w1 w2) kt kf
theorem ev_icmp_lt {x y : Int32} {off : Int} {tgt : Nat} (hd : decode cc pc = .ok (.if_icmp .lt off, 3)) (ht : (pc : Int) + off = (tgt : Int)) (kt : x < y → Ev cc nL own rty d scr tgt ls st A Q) (kf : ¬ x < y → Ev cc nL own rty d scr (pc + 3) ls st A Q) : Ev cc nL own rty d scr pc ls (.int y :: .int x :: st) A Q := ev_lift2 (st := .int y :: .int x :: st) (st1 := st) (st2 := st) (fun p l e R s m args below meth c cells slots Qw H locs lsC ad hx hb w1 w2 => lv_icmp_lt hx hb hd ht w1 w2) kt kf
theorem ev_if_ge {x : Int32} {off : Int} {tgt : Nat} (hd : decode cc pc = .ok (.ifCond .ge off, 3)) (ht : (pc : Int) + off = (tgt : Int)) (kt : 0 ≤ x → Ev cc nL own rty d scr tgt ls st A Q) (kf : ¬ 0 ≤ x → Ev cc nL own rty d scr (pc + 3) ls st A Q) : Ev cc nL own rty d scr pc ls (.int x :: st) A Q := ev_lift2 (st := .int x :: st) (st1 := st) (st2 := st) (fun p l e R s m args below meth c cells slots Qw H locs lsC ad hx hb w1 w2 => lv_if_ge hx hb hd ht w1 w2) kt kf
theorem ev_icmp_ge {x y : Int32} {off : Int} {tgt : Nat} (hd : decode cc pc = .ok (.if_icmp .ge off, 3)) (ht : (pc : Int) + off = (tgt : Int)) (kt : y ≤ x → Ev cc nL own rty d scr tgt ls st A Q) (kf : ¬ y ≤ x → Ev cc nL own rty d scr (pc + 3) ls st A Q) : Ev cc nL own rty d scr pc ls (.int y :: .int x :: st) A Q := ev_lift2 (st := .int y :: .int x :: st) (st1 := st) (st2 := st) (fun p l e R s m args below meth c cells slots Qw H locs lsC ad hx hb w1 w2 => lv_icmp_ge hx hb hd ht w1 w2) kt kf
theorem ev_if_gt {x : Int32} {off : Int} {tgt : Nat} (hd : decode cc pc = .ok (.ifCond .gt off, 3)) (ht : (pc : Int) + off = (tgt : Int)) (kt : 0 < x → Ev cc nL own rty d scr tgt ls st A Q) (kf : ¬ 0 < x → Ev cc nL own rty d scr (pc + 3) ls st A Q) : Ev cc nL own rty d scr pc ls (.int x :: st) A Q := ev_lift2 (st := .int x :: st) (st1 := st) (st2 := st) (fun p l e R s m args below meth c cells slots Qw H locs lsC ad hx hb w1 w2 => lv_if_gt hx hb hd ht w1 w2) kt kf
theorem ev_icmp_gt {x y : Int32} {off : Int} {tgt : Nat} (hd : decode cc pc = .ok (.if_icmp .gt off, 3)) (ht : (pc : Int) + off = (tgt : Int)) (kt : y < x → Ev cc nL own rty d scr tgt ls st A Q) (kf : ¬ y < x → Ev cc nL own rty d scr (pc + 3) ls st A Q) : Ev cc nL own rty d scr pc ls (.int y :: .int x :: st) A Q := ev_lift2 (st := .int y :: .int x :: st) (st1 := st) (st2 := st) (fun p l e R s m args below meth c cells slots Qw H locs lsC ad hx hb w1 w2 => lv_icmp_gt hx hb hd ht w1 w2) kt kf
theorem ev_if_le {x : Int32} {off : Int} {tgt : Nat} (hd : decode cc pc = .ok (.ifCond .le off, 3)) (ht : (pc : Int) + off = (tgt : Int)) (kt : x ≤ 0 → Ev cc nL own rty d scr tgt ls st A Q) (kf : ¬ x ≤ 0 → Ev cc nL own rty d scr (pc + 3) ls st A Q) : Ev cc nL own rty d scr pc ls (.int x :: st) A Q := ev_lift2 (st := .int x :: st) (st1 := st) (st2 := st) (fun p l e R s m args below meth c cells slots Qw H locs lsC ad hx hb w1 w2 => lv_if_le hx hb hd ht w1 w2) kt kf
theorem ev_icmp_le {x y : Int32} {off : Int} {tgt : Nat} (hd : decode cc pc = .ok (.if_icmp .le off, 3)) (ht : (pc : Int) + off = (tgt : Int)) (kt : x ≤ y → Ev cc nL own rty d scr tgt ls st A Q) (kf : ¬ x ≤ y → Ev cc nL own rty d scr (pc + 3) ls st A Q) : Ev cc nL own rty d scr pc ls (.int y :: .int x :: st) A Q := ev_lift2 (st := .int y :: .int x :: st) (st1 := st) (st2 := st) (fun p l e R s m args below meth c cells slots Qw H locs lsC ad hx hb w1 w2 => lv_icmp_le hx hb hd ht w1 w2) kt kf
theorem ev_goto {off : Int} {tgt : Nat} (hd : decode cc pc = .ok (.goto off, 3)) (ht : (pc : Int) + off = (tgt : Int)) (k : Ev cc nL own rty d scr tgt ls st A Q) : Ev cc nL own rty d scr pc ls st A Q := ev_lift (st := st) (st' := st) (fun p l e R s m args below meth c cells slots Qw H locs lsC ad hx hb _ _ _ w => lv_goto hx hb hd ht w) k
theorem ev_tableIn {dflt lo hi : Int} {offs : Array Int} {len : Nat} {x : Int32} {off : Int} {tgt : Nat} (hd : decode cc pc = .ok (.tableswitch dflt lo hi offs, len)) (h1 : ¬ x.toInt < lo) (h2 : ¬ hi < x.toInt) (ho : offs[(x.toInt - lo).toNat]? = some off) (ht : (pc : Int) + off = (tgt : Int)) (k : Ev cc nL own rty d scr tgt ls st A Q) : Ev cc nL own rty d scr pc ls (.int x :: st) A Q := ev_lift (st := .int x :: st) (st' := st) (fun p l e R s m args below meth c cells slots Qw H locs lsC ad hx hb _ _ _ w => lv_tableIn hx hb hd h1 h2 ho ht w) k
theorem ev_tableOut {dflt lo hi : Int} {offs : Array Int} {len : Nat} {x : Int32} {tgt : Nat} (hd : decode cc pc = .ok (.tableswitch dflt lo hi offs, len)) (h : x.toInt < lo ∨ hi < x.toInt) (ht : (pc : Int) + dflt = (tgt : Int)) (k : Ev cc nL own rty d scr tgt ls st A Q) : Ev cc nL own rty d scr pc ls (.int x :: st) A Q := ev_lift (st := .int x :: st) (st' := st) (fun p l e R s m args below meth c cells slots Qw H locs lsC ad hx hb _ _ _ w => lv_tableOut hx hb hd h ht w) k
-- returns
theorem ev_iret {v : Int32} {ty : FieldType} (hd : decode cc pc = .ok (.ireturn, 1)) (hr : rty = some ty) (hn : narrow ty (.int v) = .int v) (hq : Q (some (.int v)) A) : Ev cc nL own rty d scr pc ls [.int v] A Q := by
  intro p l e R s m args below meth c D cy ad B cells slots Qw H locs lsC X hP hS hl hQ
  exact hQ pc (some (.int v)) A H locs lsC (Or.inl ⟨hd, v, ty, rfl, hr, hn⟩) hq hP hS
theorem ev_vret (hd : decode cc pc = .ok (.return_, 1)) (hr : rty = none) (hq : Q none A) : Ev cc nL own rty d scr pc ls [] A Q := by
  intro p l e R s m args below meth c D cy ad B cells slots Qw H locs lsC X hP hS hl hQ
  exact hQ pc none A H locs lsC (Or.inr (Or.inl ⟨hd, rfl, hr⟩)) hq hP hS
theorem ev_aret {a : Nat} {n : String} (hd : decode cc pc = .ok (.areturn, 1)) (hr : rty = some (.object n)) (hq : Q (some (.ref a)) A) : Ev cc nL own rty d scr pc ls [.ref a] A Q := by
  intro p l e R s m args below meth c D cy ad B cells slots Qw H locs lsC X hP hS hl hQ
  exact hQ pc (some (.ref a)) A H locs lsC (Or.inr (Or.inr ⟨hd, a, n, rfl, hr⟩)) hq hP hS
-- fields
/-- entry idx of own's pool is field j of the class ci -/
def fk_ok (own : String) (idx ci j : Nat) : Prop := ∃ (C : String) (T : u_T) (N : Nat), vwCl[ci]? = some (C, T, N) ∧ j < N ∧ (T j).1 = C ∧ (∀ w ∈ u_ws C T N, w ∈ lw_good) ∧
  (Cond.fieldLink own idx C (T j).2.1 (T j).2.2.1 ∈ lw_good ∨ ∃ host : String, Cond.fieldLinkNest own idx C (T j).2.1 (T j).2.2.1 host ∈ lw_nest)
/-- field j of the class ci is an int that is written -/
def pk_ok (ci j : Nat) : Prop := ∃ (C : String) (T : u_T) (N : Nat) (ty0 : Nat → FieldType), vwCl[ci]? = some (C, T, N) ∧ (T j).2.2.2 = false ∧ (T j).2.2.1 = "I" ∧ (∀ k, k < N → parseFieldDescriptor (T k).2.2.1 = some (ty0 k)) ∧ (∀ a, a < N → ∀ b, b < N → a ≠ b → (T a).2.1 ≠ (T b).2.1)
theorem wl_D {D : va_G} {cy : Nat → ClassId} {ad : Nat → Nat} {B : Nat → Prop} {s : State} {H : Heap} (h : GX D cy ad B s H) (A : Mem) : va_D B (wl ad cy A) := by
  refine ⟨fun i j x y hi hj e => ?_, fun k q hk => ?_⟩
  · obtain ⟨h1, rfl⟩ := wl_of hi
    obtain ⟨h2, rfl⟩ := wl_of hj
    exact h.2.2.1 i h1 j h2 e
  · obtain ⟨h1, rfl⟩ := wl_of hk
    exact h.2.2.2.1 k h1
theorem ev_get {idx k ci j : Nat} (v : Value) (hd : decode cc pc = .ok (.getfield idx, 3)) (hf : fk_ok own idx ci j) (hk : k < NT) (hc : kd k = ci) (hj : j < ln k) (hc2 : ci < 11) (hv : ∀ ad : Nat → Nat, fv ad A k j = cv ad v) (kk : Ev cc nL own rty d scr (pc + 3) ls (v :: st) A Q) : Ev cc nL own rty d scr pc ls (.ref k :: st) A Q := by
  intro p l e R s m args below meth c D cy ad B cells slots Qw H locs lsC X hP hS hl hQ
  obtain ⟨C, T, N, h1, h2, h3, h4, h5⟩ := hf
  have he : (wl ad cy A)[k]? = some (ad k, .inr (ci, (List.range (ln k)).map (fv ad A k))) := by rw [wl_at ad cy A hk, ce_obj hc hc2]
  have hv2 : ((List.range (ln k)).map (fv ad A k))[j]? = some (cv ad v) := by rw [List.getElem?_map, List.getElem?_range hj]; exact congrArg some (hv ad)
  have w := kk p l e R s m args below meth c D cy ad B cells slots Qw H locs lsC X hP hS hl hQ
  rcases h5 with h5 | ⟨host, h5⟩
  · exact va_get (D := D) X.1 X.2.1 X.2.2.2.2.1 h4 X.2.2.2.1 X.2.2.2.2.2.1.1 hP k he h1 j h2 (X.2.2.2.2.1 _ h5) (fun x hx => by rw [h3] at hx; exact hx) hv2 hd w
  · exact va_getN (D := D) X.1 X.2.1 X.2.2.2.2.1 h4 X.2.2.2.1 X.2.2.2.2.2.1.1 hP k he h1 j h2 (va_Nw.use rfl (X.2.2.2.2.2.1.2.1 _ h5)) (fun x hx => by rw [h3] at hx; exact hx) hv2 hd w
theorem ev_getI {idx k ci j : Nat} (hd : decode cc pc = .ok (.getfield idx, 3)) (hf : fk_ok own idx ci j) (hk : k < NT) (hc : kd k = ci) (hj : j < ln k) (hc2 : ci < 11) (hr : rt k j = none) (kk : Ev cc nL own rty d scr (pc + 3) ls (.int (A k j) :: st) A Q) : Ev cc nL own rty d scr pc ls (.ref k :: st) A Q :=
  ev_get (.int (A k j)) hd hf hk hc hj hc2 (fun ad => by unfold fv; rw [hr]; rfl) kk
theorem ev_getR {idx k ci j r : Nat} (hd : decode cc pc = .ok (.getfield idx, 3)) (hf : fk_ok own idx ci j) (hk : k < NT) (hc : kd k = ci) (hj : j < ln k) (hc2 : ci < 11) (hr : rt k j = some r) (kk : Ev cc nL own rty d scr (pc + 3) ls (.ref r :: st) A Q) : Ev cc nL own rty d scr pc ls (.ref k :: st) A Q :=
  ev_get (.ref r) hd hf hk hc hj hc2 (fun ad => by unfold fv; rw [hr]; rfl) kk
theorem ev_put {idx k ci j : Nat} {x : Int32} (hd : decode cc pc = .ok (.putfield idx, 3)) (hf : fk_ok own idx ci j) (hp : pk_ok ci j) (hk : k < NT) (hc : kd k = ci) (hj : j < ln k) (hc2 : ci < 11) (hr : rt k j = none) (kk : Ev cc nL own rty d scr (pc + 3) ls st (updR A k (upd (A k) j x)) Q) : Ev cc nL own rty d scr pc ls (.int x :: .ref k :: st) A Q := by
  intro p l e R s m args below meth c D cy ad B cells slots Qw H locs lsC X hP hS hl hQ
  obtain ⟨C, T, N, h1, h2, h3, h4, h5⟩ := hf
  obtain ⟨C', T', N', ty0, g1, g2, g3, g4, g5⟩ := hp
  rw [h1] at g1
  cases g1
  have he : (wl ad cy A)[k]? = some (ad k, .inr (ci, (List.range (ln k)).map (fv ad A k))) := by rw [wl_at ad cy A hk, ce_obj hc hc2]
  have hset : (wl ad cy A).set k (ad k, .inr (ci, ((List.range (ln k)).map (fv ad A k)).set j (.int x))) = wl ad cy (updR A k (upd (A k) j x)) := wl_set hk (by rw [ce_obj hc hc2, fv_set hr hj])
  have w := fun H1 locs1 a b => kk p l e R s m args below meth c D cy ad B cells slots Qw H1 locs1 lsC X a b hl hQ
  have hd2 : parseFieldDescriptor (T j).2.2.1 = some .int := by rw [g3]; decide +kernel
  rcases h5 with h5 | ⟨host, h5⟩
  · exact va_put (D := D) X.1 X.2.1 X.2.2.2.2.1 h4 ty0 g4 g5 X.2.2.2.1 X.2.2.2.2.2.1.1 hP (wl_D X.2.2.2.2.2.1 A) hS k he h1 j h2 (X.2.2.2.2.1 _ h5) (fun x hx => by rw [h3] at hx; exact hx) g2 hd2 rfl rfl (by rw [List.length_map, List.length_range]; exact hj) hd (fun H1 locs1 a _ b => w H1 locs1 (by rw [← hset]; exact a) b)
  · exact va_putN (D := D) X.1 X.2.1 X.2.2.2.2.1 h4 ty0 g4 g5 X.2.2.2.1 X.2.2.2.2.2.1.1 hP (wl_D X.2.2.2.2.2.1 A) hS k he h1 j h2 (va_Nw.use rfl (X.2.2.2.2.2.1.2.1 _ h5)) (fun x hx => by rw [h3] at hx; exact hx) g2 hd2 rfl rfl (by rw [List.length_map, List.length_range]; exact hj) hd (fun H1 locs1 a _ b => w H1 locs1 (by rw [← hset]; exact a) b)
-- rows
theorem ev_iald {k j : Nat} {i : Int32} (hd : decode cc pc = .ok (.iaload, 1)) (hk : k < NT) (hc : kd k = 11) (hi : i = nI j) (hj : j < ln k) (hln : ln k < 1000) (kk : Ev cc nL own rty d scr (pc + 1) ls (.int (A k j) :: st) A Q) : Ev cc nL own rty d scr pc ls (.int i :: .ref k :: st) A Q := by
  intro p l e R s m args below meth c D cy ad B cells slots Qw H locs lsC X hP hS hl hQ
  subst hi
  have w := kk p l e R s m args below meth c D cy ad B cells slots Qw H locs lsC X hP hS hl hQ
  have he : (wl ad cy A)[k]? = some (ad k, .inl (cy 11, ln k, .inl (A k))) := by rw [wl_at ad cy A hk, ce_arr hc (by omega) (by omega)]
  exact va_iald (D := D) X.1 X.2.1 X.2.2.2.2.2.1.1 hP k 0 he rfl (vp_in_nI hj (by omega)) hd (by rw [nI_clamp (by omega)]; exact w)
theorem ev_zald {k j : Nat} {i : Int32} (hd : decode cc pc = .ok (.baload, 1)) (hk : k < NT) (hc : kd k = 12) (hi : i = nI j) (hj : j < ln k) (hln : ln k < 1000) (kk : Ev cc nL own rty d scr (pc + 1) ls (.int (A k j) :: st) A Q) : Ev cc nL own rty d scr pc ls (.int i :: .ref k :: st) A Q := by
  intro p l e R s m args below meth c D cy ad B cells slots Qw H locs lsC X hP hS hl hQ
  subst hi
  have w := kk p l e R s m args below meth c D cy ad B cells slots Qw H locs lsC X hP hS hl hQ
  have he : (wl ad cy A)[k]? = some (ad k, .inl (cy 12, ln k, .inl (A k))) := by rw [wl_at ad cy A hk, ce_arr hc (by omega) (by omega)]
  exact va_zald (D := D) X.1 X.2.1 X.2.2.2.2.2.1.1 hP k 1 he rfl (vp_in_nI hj (by omega)) hd (by rw [nI_clamp (by omega)]; exact w)
theorem ev_aald {k j r ci : Nat} {i : Int32} (hd : decode cc pc = .ok (.aaload, 1)) (hk : k < NT) (hc : kd k = ci) (hc2 : ci = 13 ∨ ci = 14) (hi : i = nI j) (hj : j < ln k) (hln : ln k < 1000) (hr : rt k j = some r) (kk : Ev cc nL own rty d scr (pc + 1) ls (.ref r :: st) A Q) : Ev cc nL own rty d scr pc ls (.int i :: .ref k :: st) A Q := by
  intro p l e R s m args below meth c D cy ad B cells slots Qw H locs lsC X hP hS hl hQ
  subst hi
  have w := kk p l e R s m args below meth c D cy ad B cells slots Qw H locs lsC X hP hS hl hQ
  have he : (wl ad cy A)[k]? = some (ad k, .inl (cy ci, ln k, .inr (.inr (.inr (.inr (fun j => (rt k j).map ad)))))) := by rw [wl_at ad cy A hk, ce_refs hc (by omega)]
  rcases hc2 with h | h
  · subst h
    exact va_aldq (D := D) X.1 X.2.1 X.2.2.2.2.2.1.1 hP k 2 he rfl (vp_in_nI hj (by omega)) hd (by rw [nI_clamp (by omega), hr]; exact w)
  · subst h
    exact va_aldq (D := D) X.1 X.2.1 X.2.2.2.2.2.1.1 hP k 3 he rfl (vp_in_nI hj (by omega)) hd (by rw [nI_clamp (by omega), hr]; exact w)
theorem ev_iast {k j : Nat} {i x : Int32} (hd : decode cc pc = .ok (.iastore, 1)) (hk : k < NT) (hc : kd k = 11) (hi : i = nI j) (hj : j < ln k) (hln : ln k < 1000) (kk : Ev cc nL own rty d scr (pc + 1) ls st (updR A k (upd (A k) j x)) Q) : Ev cc nL own rty d scr pc ls (.int x :: .int i :: .ref k :: st) A Q := by
  intro p l e R s m args below meth c D cy ad B cells slots Qw H locs lsC X hP hS hl hQ
  subst hi
  have w := fun H1 locs1 a b => kk p l e R s m args below meth c D cy ad B cells slots Qw H1 locs1 lsC X a b hl hQ
  have he : (wl ad cy A)[k]? = some (ad k, .inl (cy 11, ln k, .inl (A k))) := by rw [wl_at ad cy A hk, ce_arr hc (by omega) (by omega)]
  have hset : (wl ad cy A).set k (ad k, .inl (cy 11, ln k, .inl (upd (A k) j x))) = wl ad cy (updR A k (upd (A k) j x)) := wl_set hk (by rw [ce_arr hc (by omega) (by omega), updR_self])
  refine va_iast (D := D) X.1 X.2.1 X.2.2.2.2.2.1.1 hP (wl_D X.2.2.2.2.2.1 A) hS k 0 he rfl (vp_in_nI hj (by omega)) hd (fun H1 locs1 a _ b => w H1 locs1 ?_ b)
  rw [nI_clamp (by omega), hset] at a
  exact a
theorem ev_zast {k j : Nat} {i x : Int32} (hd : decode cc pc = .ok (.bastore, 1)) (hk : k < NT) (hc : kd k = 12) (hi : i = nI j) (hj : j < ln k) (hln : ln k < 1000) (kk : Ev cc nL own rty d scr (pc + 1) ls st (updR A k (upd (A k) j (vp_nar .boolean x))) Q) : Ev cc nL own rty d scr pc ls (.int x :: .int i :: .ref k :: st) A Q := by
  intro p l e R s m args below meth c D cy ad B cells slots Qw H locs lsC X hP hS hl hQ
  subst hi
  have w := fun H1 locs1 a b => kk p l e R s m args below meth c D cy ad B cells slots Qw H1 locs1 lsC X a b hl hQ
  have he : (wl ad cy A)[k]? = some (ad k, .inl (cy 12, ln k, .inl (A k))) := by rw [wl_at ad cy A hk, ce_arr hc (by omega) (by omega)]
  have hset : (wl ad cy A).set k (ad k, .inl (cy 12, ln k, .inl (upd (A k) j (vp_nar .boolean x)))) = wl ad cy (updR A k (upd (A k) j (vp_nar .boolean x))) := wl_set hk (by rw [ce_arr hc (by omega) (by omega), updR_self])
  refine va_zast (D := D) X.1 X.2.1 X.2.2.2.2.2.1.1 hP (wl_D X.2.2.2.2.2.1 A) hS k 1 he rfl (vp_in_nI hj (by omega)) hd (fun H1 locs1 a _ b => w H1 locs1 ?_ b)
  rw [nI_clamp (by omega), hset] at a
  exact a
end RULES
end
section
section CALLS
variable {cc : ByteArray} {nL : Nat} {own : String} {rty : Option FieldType} {d : Nat} {scr : Option (Nat × (Nat → Int32))} {pc : Nat} {ls : List (Nat × Value)} {st : List Value} {A : Mem} {Q : Option Value → Mem → Prop}
theorem cl_args (ad : Nat → Nat) : ∀ (vs : List Value) (i : Nat), cl ad (lv_args i vs) = lv_args i (vs.map (cv ad)) := by
  intro vs
  induction vs with
  | nil => intro i; rfl
  | cons v vs ih =>
    intro i
    show (i, cv ad v) :: cl ad (lv_args _ vs) = (i, cv ad v) :: lv_args _ (vs.map (cv ad))
    rw [ih, cv_cat]
theorem AR_le {ad : Nat → Nat} {B : Nat → Prop} {sz : Nat} (h1 : ∀ k, k < NT → B (ad k)) (h2 : ∀ q, sz ≤ q → B q) : ∀ q, AR ad sz q → B q := by
  intro q h
  rcases h with ⟨k, hk, rfl⟩ | h
  · exact h1 k hk
  · exact h2 q h
/-- the contract out of the walk of the body -/
theorem ct_of {y : MethodName} {av : List Value} (hy : plainName y.cls = true) (hav : (lg_sl av).length ≤ nL) (h : Ev cc nL y.cls rty d none 0 (lv_args 0 av) [] A Q) : Ct y cc nL rty d av A Q := by
  intro l D cy ad sz
  refine Met.ofW (cc := cc) (maxL := nL) (ret := rty) hy rfl ?_
  intro p e s m args below meth c s₁ Bd hml hv
  obtain ⟨rfl, hsz, hG, hP⟩ := hv
  subst hsz
  have hts := atoms_spec (ws := .code y cc nL rty :: lw_good) Bd.pre
  have hav2 : (lg_sl (av.map (cv ad))).length ≤ nL := by
    have e : ∀ vs : List Value, (lg_sl (vs.map (cv ad))).length = (lg_sl vs).length := by
      intro vs
      induction vs with
      | nil => rfl
      | cons v vs ih =>
        unfold lg_sl at ih ⊢
        rw [List.map_cons, List.flatMap_cons, List.flatMap_cons, List.length_append, List.length_append, ih]
        congr 1
        cases v <;> rfl
    rw [e]; exact hav
  have hl := lv_entry (av.map (cv ad)) (n := nL) hav2
  rw [lg_entry_eq]
  rw [← cl_args] at hl
  refine h p l e _ s m _ below meth c D cy ad (AR ad s.heap.size) 0 0 _ s.heap [] _ ⟨Bd.exec, Bd.bytes, hml, findClass_of_methodNamed Bd.named, fun w hw => hts w (List.mem_cons_of_mem _ hw), hG, fun q hq => Or.inr hq, Nat.le_refl _, Nat.le_refl _, Nat.zero_le _, Nat.zero_le _, fun q hq => by cases hq⟩ hP va_S.rf hl ?_
  intro pc' v A' H' locs' ls' hR hq hP' hS'
  have hlocks := Bd.notSynchronized
  have hfin : ∀ t : State, t.heap = H' → (∃ (v' : Option Value) (A'' : Mem), Outcome.returned (v.map (cv ad)) = .returned (v'.map (cv ad)) ∧ Q v' A'' ∧ va_P D vwCl (wl ad cy A'') t.heap) ∧ va_F (AR ad s.heap.size) s t := fun t ht => ⟨⟨v, A', rfl, hq, by rw [ht]; exact hP'⟩, hS'.F ht⟩
  rcases hR with ⟨hd, x, ty, rfl, hr, hn⟩ | ⟨hd, rfl, hr⟩ | ⟨hd, a, n, rfl, hr⟩
  · exact W.zret (ty := ty) Bd.exec Bd.bytes (by rw [Bd.returns, hr]) hn (fun t ht _ => hfin t ht) hS'.2.2 hd
  · exact W.vret Bd.exec Bd.bytes (by rw [Bd.returns, hr]) (fun t ht _ => hfin t ht) hS'.2.2 hd
  · exact W.aret (v := .ref (ad a)) (rt := .object n) Bd.exec Bd.bytes (by rw [Bd.returns, hr]) (Or.inl ⟨n, rfl⟩) (Or.inr ⟨ad a, rfl⟩) (fun t ht _ => hfin t ht) hS'.2.2 hd
/-- behind a call -/
theorem ev_run {p : Program} {l : Launch} {e : Env} {R : Room} {s : State} {m : MethodId} {args : Array Value} {below : List Frame} {meth : Method} {c : Code} {D : va_G} {cy : Nat → ClassId} {ad : Nat → Nat} {B : Nat → Prop} {cells slots : Nat} {Qw : State → Prop} {H : Heap} {locs : List Loc} {lsC : Array Slot} {st0 : List Value} {Q' : Option Value → Mem → Prop}
    (X : Cx cc nL own d scr p R s m args c D cy ad B cells slots) (hS : va_S B s.heap H locs) (hl : lv_has lsC nL (cl ad ls))
    (hQ : ∀ (pc' : Nat) (v : Option Value) (A' : Mem) (H' : Heap) (locs' : List Loc) (ls' : Array Slot), Rt cc rty pc' v → Q v A' → va_P D vwCl (wl ad cy A') H' → va_S B s.heap H' locs' → W p l e R s m args below meth c H' locs' cells slots Qw (F0 m pc' ls' (v.toList.map (cv ad))))
    (hr : va_Run p l e R s m args below meth c H locs cells slots 0 0 (F0 m pc lsC st0) (st.map (cv ad)) (fun stt oc t => (∃ (v : Option Value) (A' : Mem), oc = .returned (v.map (cv ad)) ∧ Q' v A' ∧ va_P D vwCl (wl ad cy A') t.heap) ∧ va_F (AR ad H.size) stt t) (AR ad H.size))
    (k : ∀ v A', Q' v A' → Ev cc nL own rty d scr (pc + 3) ls (v.toList ++ st) A' Q) : W p l e R s m args below meth c H locs cells slots Qw (F0 m pc lsC st0) := by
  have hB : ∀ q, AR ad H.size q → B q := AR_le X.2.2.2.2.2.1.2.2.2.1 (fun q h => X.2.2.2.2.2.2.1 q (Nat.le_trans hS.1 h))
  intro T hT X0
  obtain ⟨v, st₀, t, T', L, h0, X', hL, e1, e2, ⟨⟨v', A', hv, hq, hp⟩, hz, hk⟩, stp⟩ := hr T hT X0
  cases hv
  rw [h0] at hz hk
  have w := k v' A' hq p l e R s m args below meth c D cy ad B cells slots Qw T'.heap (locs ++ L) lsC X (by rw [e1]; exact hp)
    ⟨Nat.le_trans hS.1 (by rw [e1]; exact hz), fun q h1 h2 => by rw [e1, hk q (Nat.lt_of_lt_of_le h1 hS.1) (fun z => h2 (hB q z))]; exact hS.2.1 q h1 h2, fun q hq => by
      rcases List.mem_append.mp hq with h | h
      · exact hS.2.2 q h
      · exact hB _ (hL q h)⟩ hl hQ
  obtain ⟨t2, a1, b1⟩ := w T' rfl X'
  refine ⟨t2, stp t2 ?_, b1⟩
  have e3 : (v'.toList ++ st).map (cv ad) = (v'.map (cv ad)).toList ++ st.map (cv ad) := by cases v' <;> rfl
  rw [e3] at a1
  exact a1
theorem goodIn_self {y : MethodName} {cc' : ByteArray} {nL' : Nat} {rty' : Option FieldType} (h : Cond.code y cc' nL' rty' ∈ lw_good) : GoodIn lw_good (Cond.code y cc' nL' rty' :: lw_good) := by
  have h2 : ∀ w ∈ lw_good, w ∈ lw_good ∧ ((w.onTables && w.keeps) = true ∨ ∃ ty, w = .arrayClass ty) := fun w hw => ⟨hw, good_of_word (List.mem_filter.mp hw).2⟩
  intro w hw
  rcases List.mem_cons.mp hw with e | e
  · rw [e]; exact h2 _ h
  · exact h2 w e
/-- the callee's own words: its code, its class made ready, its name, its number of arguments -/
def mk_ok (y : MethodName) (cc' : ByteArray) (nL' : Nat) (rty' : Option FieldType) (n : Nat) : Prop := Cond.code y cc' nL' rty' ∈ lw_good ∧ Cond.initialized y.cls ∈ lw_good ∧ (y.cls ≠ "java/lang/invoke/MethodHandle" ∧ y.cls ≠ "java/lang/invoke/VarHandle" ∧ (parseMethodDescriptor y.desc).map (fun d => d.parameters.length) = some n)
/-- a link of own's pool to a method -/
def lk_ok (own : String) (idx : Nat) (y : MethodName) : Prop := Cond.methodLink own idx y ∈ lw_good ∨ ∃ host : String, Cond.methodLinkNest own idx y host ∈ lw_nest
/-- a receiver of a class -/
def rv_ok (k : Nat) (C : String) : Prop := (∃ (ci : Nat) (q : vw_C), k < NT ∧ kd k = ci ∧ ci < 11 ∧ vwCl[ci]? = some q ∧ q.1 = C) ∨ ∃ i, i < 10 ∧ k = 1000000 + i ∧ C = "java/lang/String"
theorem pre_ok {s : State} {H : Heap} {D : va_G} {cy : Nat → ClassId} {ad : Nat → Nat} {B : Nat → Prop} {locs : List Loc} {av : List Value} (hG : GX D cy ad B s s.heap) (hA : ∀ q, s.heap.size ≤ q → B q) (hS : va_S B s.heap H locs) (hP : va_P D vwCl (wl ad cy A) H) :
    PreS s H (va_Pc (av.map (cv ad)) (fun U => U.heap.size = H.size ∧ GX D cy ad (AR ad H.size) U U.heap ∧ va_P D vwCl (wl ad cy A) U.heap)) (av.map (cv ad)) := by
  refine ⟨fun a U g mk q => ?_, fun U hU hW => ⟨rfl, by rw [hU], ?_, by rw [hU]; exact hP⟩⟩
  · obtain ⟨q0, q1, qG, qP⟩ := q
    exact ⟨q0, q1, qG.same rfl, qP⟩
  · rw [hU]
    exact hG.go hW hS.2.1 (AR_le hG.2.2.2.1 (fun q h => hA q (Nat.le_trans hS.1 h))) (fun k hk => Or.inl ⟨k, hk, rfl⟩)
theorem ev_callV {idx k n d' nL' : Nat} {y : MethodName} {cc' : ByteArray} {rty' : Option FieldType} {av : List Value} {Q' : Option Value → Mem → Prop} (hd : decode cc pc = .ok (.invokevirtual idx, 3)) (hC : Ct y cc' nL' rty' d' (.ref k :: av) A Q') (hm : mk_ok y cc' nL' rty' n) (hlk : lk_ok own idx y) (hi : Cond.instanceMethod y ∈ lw_good ∧ Cond.selects y.cls y y ∈ lw_good) (hrv : rv_ok k y.cls) (hn : av.length = n) (hdd : d' + 1 ≤ d) (hnl : nL' ≤ 21) (hrm : (st.map Value.category).sum ≤ 8) {st0 : List Value} (hst : st0 = av.reverse ++ .ref k :: st)
    (kk : ∀ v A', Q' v A' → Ev cc nL own rty d scr (pc + 3) ls (v.toList ++ st) A' Q) : Ev cc nL own rty d scr pc ls st0 A Q := by
  intro p l e R s m args below meth c D cy ad B cells slots Qw H locs lsC X hP hS hl hQ
  obtain ⟨hx, hb, hml, hown, hts, hG, hA, hfr, hlo, hce, hsl, -⟩ := id X
  subst hst
  have hpre := pre_ok (A := A) (av := .ref k :: av) hG hA hS hP
  have hrec : ∃ cellB : Cell, H[ad k]? = some cellB ∧ cellB.vm.isStatics = false ∧ s.vm.findClass y.cls = some cellB.cls := by
    rcases hrv with ⟨ci, q, h1, h2, h3, h4, h5⟩ | ⟨i, h1, h2, h3⟩
    · rw [← h5]
      exact va_recv hG.1 hP h4 (by rw [wl_at ad cy A h1, ce_obj h2 h3])
    · rw [h3, h2]
      have h7 := vk_recv (i := i) hG.2.2.2.2.1 h1 hS
      exact h7
  have hstk : (av.reverse ++ .ref k :: st).map (cv ad) = (av.map (cv ad)).reverse ++ Value.ref (ad k) :: st.map (cv ad) := by rw [List.map_append, List.map_reverse]; rfl
  have hrm2 : ((st.map (cv ad)).map fun v => v.category).sum ≤ 8 := by
    have e : (st.map (cv ad)).map (fun v => v.category) = st.map Value.category := by rw [List.map_map]; apply List.map_congr_left; intro v _; exact cv_cat ad v
    rw [e]; exact hrm
  have hlen : (av.map (cv ad)).length = n := by rw [List.length_map]; exact hn
  have hR : d' + 1 ≤ R.frames ∧ 8 + (nL' + 11) + 40 * d' ≤ R.locals := ⟨Nat.le_trans hdd hfr, by omega⟩
  rcases hlk with hlk | ⟨host, hlk⟩
  · refine ev_run X hS hl hQ (va_runV (b := ad k) (As := av.map (cv ad)) (rest := st.map (cv ad)) (C := y.cls) ⟨hx, hb, hml, hown, hts⟩ (hC l D cy ad H.size) ⟨callB_of n hts (goodIn_self hm.1) rfl rfl rfl (hts _ hm.2.1) (hts _ hlk) hm.2.2 hR, hts _ hi.1, hts _ hi.2⟩ ⟨hpre.1, hrec, hpre.2⟩ rfl hlen hl.1 hstk (lv_room hrm2) hd ⟨hce, hsl⟩) kk
  · refine ev_run X hS hl hQ (va_runVN (b := ad k) (As := av.map (cv ad)) (rest := st.map (cv ad)) (C := y.cls) (host := host) ⟨hx, hb, hml, hown, hts⟩ (hC l D cy ad H.size) ⟨va_cnB n hts (goodIn_self hm.1) rfl rfl rfl (hG.2.1 _ hlk) (hts _ hm.2.1) hm.2.2 hR, hts _ hi.1, hts _ hi.2⟩ ⟨hpre.1, hrec, hpre.2⟩ rfl hlen hl.1 hstk (lv_room hrm2) hd ⟨hce, hsl⟩) kk
theorem ev_callS {idx n d' nL' : Nat} {y : MethodName} {cc' : ByteArray} {rty' : Option FieldType} {av : List Value} {Q' : Option Value → Mem → Prop} (hd : decode cc pc = .ok (.invokestatic idx, 3)) (hC : Ct y cc' nL' rty' d' av A Q') (hm : mk_ok y cc' nL' rty' n) (hlk : lk_ok own idx y) (hi : Cond.static y ∈ lw_good) (hn : av.length = n) (hdd : d' + 1 ≤ d) (hnl : nL' ≤ 21) (hrm : (st.map Value.category).sum ≤ 8) {st0 : List Value} (hst : st0 = av.reverse ++ st)
    (kk : ∀ v A', Q' v A' → Ev cc nL own rty d scr (pc + 3) ls (v.toList ++ st) A' Q) : Ev cc nL own rty d scr pc ls st0 A Q := by
  intro p l e R s m args below meth c D cy ad B cells slots Qw H locs lsC X hP hS hl hQ
  obtain ⟨hx, hb, hml, hown, hts, hG, hA, hfr, hlo, hce, hsl, -⟩ := id X
  subst hst
  have hpre := pre_ok (A := A) (av := av) hG hA hS hP
  have hstk : (av.reverse ++ st).map (cv ad) = (av.map (cv ad)).reverse ++ st.map (cv ad) := by rw [List.map_append, List.map_reverse]
  have hrm2 : ((st.map (cv ad)).map fun v => v.category).sum ≤ 8 := by
    have e : (st.map (cv ad)).map (fun v => v.category) = st.map Value.category := by rw [List.map_map]; apply List.map_congr_left; intro v _; exact cv_cat ad v
    rw [e]; exact hrm
  have hlen : (av.map (cv ad)).length = n := by rw [List.length_map]; exact hn
  have hR : d' + 1 ≤ R.frames ∧ 8 + (nL' + 11) + 40 * d' ≤ R.locals := ⟨Nat.le_trans hdd hfr, by omega⟩
  rcases hlk with hlk | ⟨host, hlk⟩
  · refine ev_run X hS hl hQ (va_runS (As := av.map (cv ad)) (rest := st.map (cv ad)) ⟨hx, hb, hml, hown, hts⟩ (hC l D cy ad H.size) ⟨callB_of n hts (goodIn_self hm.1) rfl rfl rfl (hts _ hm.2.1) (hts _ hlk) hm.2.2 hR, hts _ hi⟩ hpre rfl hlen hl.1 hstk (lv_room hrm2) hd ⟨hce, hsl⟩) kk
  · refine ev_run X hS hl hQ (va_runSN (As := av.map (cv ad)) (rest := st.map (cv ad)) (host := host) ⟨hx, hb, hml, hown, hts⟩ (hC l D cy ad H.size) ⟨va_cnB n hts (goodIn_self hm.1) rfl rfl rfl (hG.2.1 _ hlk) (hts _ hm.2.1) hm.2.2 hR, hts _ hi, trivial⟩ hpre rfl hlen hl.1 hstk (lv_room hrm2) hd ⟨hce, hsl⟩) kk
end CALLS
end
